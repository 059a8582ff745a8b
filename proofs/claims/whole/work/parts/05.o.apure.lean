/-! The beat, meetings, ropes: shared -/
def btT (F : Nat → Int32 → Int32) (rp v t : Int32) (g : Nat) : Int32 := match wT F rp v t g 600 0 0 0 with
  | none => -1
  | some m1 => match wT F rp v (t + nI m1) 0 (600 - m1) g 0 0 with
    | none => -1
    | some m2 => nI (m1 + m2)
def spBeat (g : Nat) (F : Nat → Int32 → Int32) (rp t v : Int32) : Int32 := if wIn v 1 40 then (if g = 0 then -1000000003 else btT F rp v t g) else -1000000002
def btI (F : Nat → Int32 → Int32) (rp v t : Int32) (g pos : Nat) (y wx : Int32) (m : Nat) : Prop :=
  (wx = 2 ∧ hO pos 2 < g ∧ wT F rp v t g (600 - m) (hO pos 2) y m = wT F rp v t g 600 0 0 0) ∨
  (wx = 0 ∧ 0 < hO pos 0 ∧ ∃ m1, m1 ≤ m ∧ wT F rp v t g 600 0 0 0 = some m1 ∧ wT F rp v (t + nI m1) 0 (600 - m1 - (m - m1)) (hO pos 0) y (m - m1) = wT F rp v (t + nI m1) 0 (600 - m1) g 0 0)
section BT
variable {g m pos pos2 : Nat} {F : Nat → Int32 → Int32} {rp v t y y2 w2 wx : Int32}
theorem t_split {m1 : Nat} (h : m1 ≤ m) : t + nI m1 + nI (m - m1) = t + nI m := by
  rw [Int32.add_assoc, nI_add, show m1 + (m - m1) = m from by omega]
theorem bt_step (hg : g ≤ 8) (hpk : posOk g pos) (hy0 : pos < 100 → y = 0) (hi : btI F rp v t g pos y wx m) (hm : m < 600) (hs : (pos2, y2, w2) = stP g F rp v (t + nI m) pos y wx) :
    posOk g pos2 ∧ (pos2 < 100 → y2 = 0) ∧ ((w2 = 2 ∧ (pos2 = g → btI F rp v t g pos2 y2 0 (m + 1)) ∧ (¬ pos2 = g → btI F rp v t g pos2 y2 2 (m + 1))) ∨ (w2 = 0 ∧ (pos2 = 0 → nI (m + 1) = btT F rp v t g) ∧ (¬ pos2 = 0 → btI F rp v t g pos2 y2 0 (m + 1)))) := by
  rcases hi with ⟨rfl, h1, h2⟩ | ⟨rfl, h1, m1, h2, h3, h4⟩
  · obtain ⟨a1, a2, a3, a4, a5⟩ := tk_up hg (Nat.le_refl g) hpk hy0 h1 hm h2 hs
    refine ⟨a2, a3, Or.inl ⟨a1, fun e => ?_, fun e => ?_⟩⟩
    · subst e
      have e1 : hO pos2 2 = pos2 := by unfold hO; rw [if_pos (by omega)]
      have e2 : hO pos2 0 = pos2 := by unfold hO; rw [if_pos (by omega)]
      rw [e1, wT_done] at a4
      have hy := a3 (by omega)
      subst hy
      refine Or.inr ⟨rfl, by omega, m + 1, Nat.le_refl _, a4.symm, ?_⟩
      rw [e2, Nat.sub_self, Nat.sub_zero]
    · exact Or.inl ⟨rfl, a5.resolve_left e, a4⟩
  · have hs' : (pos2, y2, w2) = stP g F rp v (t + nI m1 + nI (m - m1)) pos y 0 := by rw [t_split h2]; exact hs
    have hm1 : m1 ≤ 600 := by omega
    obtain ⟨a1, a2, a3, a4, a5⟩ := tk_dn (M := 600 - m1) hg (Nat.zero_le g) hpk hy0 h1 (by omega) h4 hs'
    refine ⟨a2, a3, Or.inr ⟨a1, fun e => ?_, fun e => ?_⟩⟩
    · subst e
      have e1 : hO 0 0 = 0 := rfl
      rw [e1, wT_done] at a4
      rw [btT, h3]
      show _ = match wT F rp v (t + nI m1) 0 (600 - m1) g 0 0 with
        | none => -1
        | some m2 => nI (m1 + m2)
      rw [← a4]
      show nI (m + 1) = nI (m1 + (m - m1 + 1))
      exact congrArg nI (by omega)
    · refine Or.inr ⟨rfl, a5.resolve_left e, m1, by omega, h3, ?_⟩
      rw [show m + 1 - m1 = m - m1 + 1 from by omega]
      exact a4
theorem bt_out (hi : btI F rp v t g pos y wx m) (hm : m = 600) : (-1 : Int32) = btT F rp v t g := by
  subst hm
  rcases hi with ⟨rfl, h1, h2⟩ | ⟨rfl, h1, m1, h2, h3, h4⟩
  · rw [Nat.sub_self, wT, if_neg (by omega)] at h2
    rw [btT, ← h2]
  · rw [Nat.sub_self, wT, if_neg (by omega)] at h4
    rw [btT, h3]
    show _ = match wT F rp v (t + nI m1) 0 (600 - m1) g 0 0 with
      | none => -1
      | some m2 => nI (m1 + m2)
    rw [← h4]
end BT
abbrev cW (g : Nat) (F : Nat → Int32 → Int32) (pa nw : Nat → Int32) (w n : Nat) : Int32 := whP (fun k => F k (nw 0 + nI n)) (onW g F (nw 1) (pa w) (nw 0) (xW nw w) n).1 (onW g F (nw 1) (pa w) (nw 0) (xW nw w) n).2.1 (onW g F (nw 1) (pa w) (nw 0) (xW nw w) n).2.2
abbrev meQ (f h : Nat → Int32) (n : Nat) : Prop := f n = h n ∨ ¬ bI (f n < h n) = bI (f 0 < h 0)
def spMeets (g wk : Nat) (F : Nat → Int32 → Int32) (pa nw : Nat → Int32) (w z : Int32) : Int32 := if two w z wk then fstN (meQ (cW g F pa nw w.toNatClampNeg) (cW g F pa nw z.toNatClampNeg)) 301 0 else -1000000001
def ropTo (p : Nat → Int32) (rp : Int32) : Nat → Int32
  | 0 => -1
  | s + 1 => if (nI s &&& rp = 0 ∧ (ropTo p rp s = -1 ∨ onesTo (nI s) 8 < onesTo (ropTo p rp s) 8)) ∧ ¬ p s = -1 then nI s else ropTo p rp s
theorem rop_in {p : Nat → Int32} {rp b : Int32} {s : Nat} (h : b = ropTo p rp s) (h1 : nI s &&& rp = 0) (h2 : b = -1 ∨ onesTo (nI s) 8 < onesTo b 8) (h3 : ¬ p s = -1) : nI s = ropTo p rp (s + 1) := by
  rw [ropTo, ← h, if_pos ⟨⟨h1, h2⟩, h3⟩]
theorem rop_out {p : Nat → Int32} {rp b : Int32} {s : Nat} (h : b = ropTo p rp s) (h1 : ¬ ((nI s &&& rp = 0 ∧ (b = -1 ∨ onesTo (nI s) 8 < onesTo b 8)) ∧ ¬ p s = -1)) : b = ropTo p rp (s + 1) := by
  rw [ropTo, ← h, if_neg h1]
def spRopes (g hs : Nat) (F : Nat → Int32 → Int32) (rp t a b v n : Int32) : Int32 := if two a b hs then (if wIn v 1 40 ∧ wIn n 0 300 then ropTo (fun s => rT (wT F (rp ||| nI s) v t b.toNatClampNeg n.toNatClampNeg a.toNatClampNeg 0 0)) rp (2 ^ g) else -1000000002) else -1000000001
theorem pow_sh : ∀ g, g ≤ 8 → (1 : Int32) <<< (nI g &&& 31) = nI (2 ^ g) := by decide
