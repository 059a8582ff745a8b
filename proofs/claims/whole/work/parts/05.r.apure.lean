section NM
variable {tx : Nat → Int32} {n i i1 e wr : Nat} {v lo hi c : Int32}
theorem nm_w (h : ¬ wr = 0) : nmS tx n lo hi i wr = (i, wr, 0) := if_neg h
theorem nm_1 (hw : wr = 0) (hk : i1 = sk tx n i) (hd : ¬ wIn (lk tx n i1) 48 57) : nmS tx n lo hi i wr = (i1, 1, 0) := by
  rw [nmS, if_pos hw, ← hk, nmR, if_neg hd]
theorem nm_2 (hw : wr = 0) (hk : i1 = sk tx n i) (hd : wIn (lk tx n i1) 48 57) (hs : sc tx n i1 = (e, v)) (h : 3 < e - i1 ∨ ¬ wIn v lo hi) : nmS tx n lo hi i wr = (i1, 2, v) := by
  rw [nmS, if_pos hw, ← hk, nmR, if_pos hd, hs, if_pos h]
theorem nm_0 (hw : wr = 0) (hk : i1 = sk tx n i) (hd : wIn (lk tx n i1) 48 57) (hs : sc tx n i1 = (e, v)) (h1 : ¬ 3 < e - i1) (h2 : wIn v lo hi) : nmS tx n lo hi i wr = (e, 0, v) := by
  rw [nmS, if_pos hw, ← hk, nmR, if_pos hd, hs, if_neg (fun z => z.elim h1 (fun q => q h2))]
theorem nm_ok {a : Nat} (h : (a, 0, v) = nmS tx n lo hi i wr) : wIn v lo hi := by
  unfold nmS at h
  split at h
  · unfold nmR at h
    split at h
    · split at h
      · exact absurd (Prod.mk.inj (Prod.mk.inj h).2).1 (by decide)
      · next hz =>
        have e := (Prod.mk.inj (Prod.mk.inj h).2).2
        rw [e]
        exact Decidable.not_not.mp (fun q => hz (Or.inr q))
    · exact absurd (Prod.mk.inj (Prod.mk.inj h).2).1 (by decide)
  · next hz => exact absurd (Prod.mk.inj (Prod.mk.inj h).2).1.symm hz
end NM
def rdLaw (tx : Nat → Int32) (n i : Nat) (tl : Int32) (dl : Nat → Int32) : Nat × Nat × Int32 × (Nat → Int32) := if tl = 0 then
    ((wdS tx n 59 (nmS tx n 1 50 (nmS tx n 0 40 (nmS tx n 1 60 (i + 1) 0).1 (nmS tx n 1 60 (i + 1) 0).2.1).1 (nmS tx n 0 40 (nmS tx n 1 60 (i + 1) 0).1 (nmS tx n 1 60 (i + 1) 0).2.1).2.1).1 (nmS tx n 1 50 (nmS tx n 0 40 (nmS tx n 1 60 (i + 1) 0).1 (nmS tx n 1 60 (i + 1) 0).2.1).1 (nmS tx n 0 40 (nmS tx n 1 60 (i + 1) 0).1 (nmS tx n 1 60 (i + 1) 0).2.1).2.1).2.1).1,
     (wdS tx n 59 (nmS tx n 1 50 (nmS tx n 0 40 (nmS tx n 1 60 (i + 1) 0).1 (nmS tx n 1 60 (i + 1) 0).2.1).1 (nmS tx n 0 40 (nmS tx n 1 60 (i + 1) 0).1 (nmS tx n 1 60 (i + 1) 0).2.1).2.1).1 (nmS tx n 1 50 (nmS tx n 0 40 (nmS tx n 1 60 (i + 1) 0).1 (nmS tx n 1 60 (i + 1) 0).2.1).1 (nmS tx n 0 40 (nmS tx n 1 60 (i + 1) 0).1 (nmS tx n 1 60 (i + 1) 0).2.1).2.1).2.1).2,
     1,
     upd (upd (upd dl 0 (nmS tx n 1 60 (i + 1) 0).2.2) 1 (nmS tx n 0 40 (nmS tx n 1 60 (i + 1) 0).1 (nmS tx n 1 60 (i + 1) 0).2.1).2.2) 2 (nmS tx n 1 50 (nmS tx n 0 40 (nmS tx n 1 60 (i + 1) 0).1 (nmS tx n 1 60 (i + 1) 0).2.1).1 (nmS tx n 0 40 (nmS tx n 1 60 (i + 1) 0).1 (nmS tx n 1 60 (i + 1) 0).2.1).2.1).2.2)
  else (i, 3, tl, dl)
theorem rdLaw_t {tx dl : Nat → Int32} {n i a1 a2 b1 b2 c1 c2 d1 d2 : Nat} {tl v0 v1 v2 : Int32} (h : tl = 0) (h0 : (a1, a2, v0) = nmS tx n 1 60 (i + 1) 0) (h1 : (b1, b2, v1) = nmS tx n 0 40 a1 a2) (h2 : (c1, c2, v2) = nmS tx n 1 50 b1 b2) (h3 : (d1, d2) = wdS tx n 59 c1 c2) : (d1, d2, 1, upd (upd (upd dl 0 v0) 1 v1) 2 v2) = rdLaw tx n i tl dl := by
  rw [rdLaw, if_pos h, ← h0]; dsimp only; rw [← h1]; dsimp only; rw [← h2]; dsimp only; rw [← h3]
theorem upd_upd {f : Nat → Int32} {k : Nat} {x y : Int32} : upd (upd f k x) k y = upd f k y := by
  funext j; unfold upd; split <;> rfl
/-- gaps behind the first: at, wrong, how many, they -/
def gpL (tx : Nat → Int32) (n : Nat) : Nat → Nat → Nat → Nat → (Nat → Int32) → Nat × Nat × Nat × (Nat → Int32)
  | 0, i, wr, k, dg => (i, wr, k, dg)
  | f + 1, i, wr, k, dg => if wr = 0 ∧ lk tx n i = 44 then (if k = 8 then gpL tx n f i 1 k dg else gpL tx n f (skS tx n (nmS tx n 1 60 (i + 1) 0).2.1 (nmS tx n 1 60 (i + 1) 0).1) (nmS tx n 1 60 (i + 1) 0).2.1 (k + 1) (upd dg k (nmS tx n 1 60 (i + 1) 0).2.2)) else (i, wr, k, dg)
section GL
variable {tx dg : Nat → Int32} {n i wr k a1 a2 i2 f : Nat} {v : Int32} {T0 : Nat × Nat × Nat × (Nat → Int32)}
theorem gp_stop (h : gpL tx n f i wr k dg = T0) (h1 : ¬ (wr = 0 ∧ lk tx n i = 44)) : T0 = (i, wr, k, dg) := by
  rw [← h]
  cases f with
  | zero => rfl
  | succ f => exact if_neg h1
theorem gp_8 (h : gpL tx n (9 - k) i wr k dg = T0) (h0 : wr = 0) (h1 : lk tx n i = 44) (hk : k = 8) : gpL tx n (9 - k) i 1 k dg = T0 := by
  subst hk
  subst h0
  rw [← h]
  have e1 : gpL tx n (0 + 1) i 0 8 dg = (i, 1, 8, dg) := by rw [gpL, if_pos ⟨rfl, h1⟩, if_pos rfl]; rfl
  have e2 : gpL tx n (0 + 1) i 1 8 dg = (i, 1, 8, dg) := by rw [gpL, if_neg (fun z => absurd z.1 (by decide))]
  exact e2.trans e1.symm
theorem gp_go (h : gpL tx n (9 - k) i wr k dg = T0) (h0 : wr = 0) (h1 : lk tx n i = 44) (hk : k < 8) (hn : (a1, a2, v) = nmS tx n 1 60 (i + 1) 0) (hs : i2 = skS tx n a2 a1) : gpL tx n (9 - (k + 1)) i2 a2 (k + 1) (upd dg k v) = T0 := by
  rw [← h, show 9 - k = 9 - (k + 1) + 1 from by omega, gpL, if_pos ⟨h0, h1⟩, if_neg (by omega), ← hn, hs]
end GL
def rdGaps (tx : Nat → Int32) (n i g : Nat) (dg : Nat → Int32) : Nat × Nat × Nat × (Nat → Int32) := if 0 < g then (i, 3, g, dg) else
  ((wdS tx n 59 (gpL tx n 8 (skS tx n (nmS tx n 1 60 (i + 1) 0).2.1 (nmS tx n 1 60 (i + 1) 0).1) (nmS tx n 1 60 (i + 1) 0).2.1 1 (upd dg 0 (nmS tx n 1 60 (i + 1) 0).2.2)).1 (gpL tx n 8 (skS tx n (nmS tx n 1 60 (i + 1) 0).2.1 (nmS tx n 1 60 (i + 1) 0).1) (nmS tx n 1 60 (i + 1) 0).2.1 1 (upd dg 0 (nmS tx n 1 60 (i + 1) 0).2.2)).2.1).1,
   (wdS tx n 59 (gpL tx n 8 (skS tx n (nmS tx n 1 60 (i + 1) 0).2.1 (nmS tx n 1 60 (i + 1) 0).1) (nmS tx n 1 60 (i + 1) 0).2.1 1 (upd dg 0 (nmS tx n 1 60 (i + 1) 0).2.2)).1 (gpL tx n 8 (skS tx n (nmS tx n 1 60 (i + 1) 0).2.1 (nmS tx n 1 60 (i + 1) 0).1) (nmS tx n 1 60 (i + 1) 0).2.1 1 (upd dg 0 (nmS tx n 1 60 (i + 1) 0).2.2)).2.1).2,
   (gpL tx n 8 (skS tx n (nmS tx n 1 60 (i + 1) 0).2.1 (nmS tx n 1 60 (i + 1) 0).1) (nmS tx n 1 60 (i + 1) 0).2.1 1 (upd dg 0 (nmS tx n 1 60 (i + 1) 0).2.2)).2.2)
theorem rdGaps_t {tx dg dg2 : Nat → Int32} {n i g a1 a2 i2 b1 b2 k d1 d2 : Nat} {v : Int32} (h : ¬ 0 < g) (h0 : (a1, a2, v) = nmS tx n 1 60 (i + 1) 0) (hs : i2 = skS tx n a2 a1) (h1 : (b1, b2, k, dg2) = gpL tx n 8 i2 a2 1 (upd dg 0 v)) (h2 : (d1, d2) = wdS tx n 59 b1 b2) : (d1, d2, k, dg2) = rdGaps tx n i g dg := by
  rw [rdGaps, if_neg h, ← h0]; dsimp only; rw [← hs, ← h1]; dsimp only; rw [← h2]
def rdWalk (tx : Nat → Int32) (n i g wk : Nat) (dh dp : Nat → Int32) : Nat × Nat × Nat × (Nat → Int32) × (Nat → Int32) := if wk = 4 then (i, 3, wk, dh, dp) else
  ((wdS tx n 59 (nmS tx n 1 40 (nmS tx n 0 (if g = 0 then -1 else nI g) (i + 1) 0).1 (nmS tx n 0 (if g = 0 then -1 else nI g) (i + 1) 0).2.1).1 (nmS tx n 1 40 (nmS tx n 0 (if g = 0 then -1 else nI g) (i + 1) 0).1 (nmS tx n 0 (if g = 0 then -1 else nI g) (i + 1) 0).2.1).2.1).1,
   (wdS tx n 59 (nmS tx n 1 40 (nmS tx n 0 (if g = 0 then -1 else nI g) (i + 1) 0).1 (nmS tx n 0 (if g = 0 then -1 else nI g) (i + 1) 0).2.1).1 (nmS tx n 1 40 (nmS tx n 0 (if g = 0 then -1 else nI g) (i + 1) 0).1 (nmS tx n 0 (if g = 0 then -1 else nI g) (i + 1) 0).2.1).2.1).2,
   wk + 1, upd dh wk (nmS tx n 0 (if g = 0 then -1 else nI g) (i + 1) 0).2.2, upd dp wk (nmS tx n 1 40 (nmS tx n 0 (if g = 0 then -1 else nI g) (i + 1) 0).1 (nmS tx n 0 (if g = 0 then -1 else nI g) (i + 1) 0).2.1).2.2)
theorem rdWalk_t {tx dh dp : Nat → Int32} {n i g wk a1 a2 b1 b2 d1 d2 : Nat} {v0 v1 x : Int32} (h : ¬ wk = 4) (hx : x = if g = 0 then -1 else nI g) (h0 : (a1, a2, v0) = nmS tx n 0 x (i + 1) 0) (h1 : (b1, b2, v1) = nmS tx n 1 40 a1 a2) (h2 : (d1, d2) = wdS tx n 59 b1 b2) : (d1, d2, wk + 1, upd dh wk v0, upd dp wk v1) = rdWalk tx n i g wk dh dp := by
  rw [rdWalk, if_neg h, ← hx, ← h0]; dsimp only; rw [← h1]; dsimp only; rw [← h2]
abbrev hasK (dr k : Int32) : Prop := (dr >>> (k &&& 31)) &&& 1 = 1
def rdRope (tx : Nat → Int32) (n i g : Nat) (dr : Int32) : Nat × Nat × Int32 := if (nmS tx n 0 (nI g - 1) (sk tx n (i + 1)) 0).2.1 = 0 then
    (if hasK dr (nmS tx n 0 (nI g - 1) (sk tx n (i + 1)) 0).2.2 then (sk tx n (i + 1), 4, dr ||| 0) else ((wdS tx n 59 (nmS tx n 0 (nI g - 1) (sk tx n (i + 1)) 0).1 0).1, (wdS tx n 59 (nmS tx n 0 (nI g - 1) (sk tx n (i + 1)) 0).1 0).2, dr ||| (1 : Int32) <<< ((nmS tx n 0 (nI g - 1) (sk tx n (i + 1)) 0).2.2 &&& 31)))
  else ((nmS tx n 0 (nI g - 1) (sk tx n (i + 1)) 0).1, (nmS tx n 0 (nI g - 1) (sk tx n (i + 1)) 0).2.1, dr ||| 0)
