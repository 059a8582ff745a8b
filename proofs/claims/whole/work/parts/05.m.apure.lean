theorem all_i {Q : Nat → Prop} [DecidablePred Q] {i : Nat} (hi : i = 0) : (1 : Int32) = bI (∀ j, j < i → Q j) := by
  rw [bI_t (fun j hj => absurd hj (by omega))]
def taTo (Q : Nat → Prop) [DecidablePred Q] (H : Nat → Nat) : Nat → (Nat → Int32) × Int32
  | 0 => (fun _ => 0, 0)
  | i + 1 => if Q i then (upd (taTo Q H i).1 (H i) ((taTo Q H i).1 (H i) + 1), if (taTo Q H i).2 < (taTo Q H i).1 (H i) + 1 then (taTo Q H i).1 (H i) + 1 else (taTo Q H i).2) else taTo Q H i
theorem ta_out {Q : Nat → Prop} [DecidablePred Q] {H : Nat → Nat} {i : Nat} (h : ¬ Q i) : taTo Q H (i + 1) = taTo Q H i := if_neg h
theorem ta_in {Q : Nat → Prop} [DecidablePred Q] {H : Nat → Nat} {i : Nat} (h : Q i) : taTo Q H (i + 1) = (upd (taTo Q H i).1 (H i) ((taTo Q H i).1 (H i) + 1), if (taTo Q H i).2 < (taTo Q H i).1 (H i) + 1 then (taTo Q H i).1 (H i) + 1 else (taTo Q H i).2) := if_pos h
theorem ta_upd {Q : Nat → Prop} [DecidablePred Q] {H : Nat → Nat} {i x N : Nat} {al : Nat → Int32} (h : Q i) (hx : H i = x) (hN : x < N) (hal : ∀ j, j < N → al j = (taTo Q H i).1 j) : ∀ j, j < N → upd al x (al x + 1) j = (taTo Q H (i + 1)).1 j := by
  intro j hj
  rw [ta_in h, hx, hal x hN]
  unfold upd
  by_cases e : j = x
  · simp only [e, if_true]
  · simp only [e, if_false]; exact hal j hj
theorem ta_max {Q : Nat → Prop} [DecidablePred Q] {H : Nat → Nat} {i x N : Nat} {al : Nat → Int32} {mo : Int32} (h : Q i) (hx : H i = x) (hN : x < N) (hal : ∀ j, j < N → al j = (taTo Q H i).1 j) (hm : mo = (taTo Q H i).2) : (if mo < al x + 1 then al x + 1 else mo) = (taTo Q H (i + 1)).2 := by
  rw [ta_in h, hx, hal x hN, hm]
theorem div_nI {a d : Nat} (ha : a < 2147483648) (h0 : 0 < d) (hd : d < 2147483648) : nI a / nI d = nI (a / d) := pk_div ha h0 hd
theorem yG_nat {P D gn t : Nat} (hP : 0 < P) (hP2 : P ≤ 60) (hD : D ≤ 60) (hgn : gn ≤ 40) (ht : t < 1000000) : ∃ y : Nat, y ≤ 300 ∧ yG P (nI D) (nI gn) (nI t) = nI y := by
  have e1 : nI t - nI t / nI (2 * P) * nI (2 * P) = nI (t % (2 * P)) := pk_rem (by omega) (by omega) (by omega)
  have hlt : t % (2 * P) < 2 * P := Nat.mod_lt _ (by omega)
  have e2 : nI (2 * P) - nI (t % (2 * P)) = nI (2 * P - t % (2 * P)) := pk_sub (by omega)
  have e3 : ∃ mv : Nat, mv ≤ 60 ∧ mn (nI (t % (2 * P))) (nI (2 * P - t % (2 * P))) = nI mv := by
    unfold mn
    by_cases h : nI (2 * P - t % (2 * P)) < nI (t % (2 * P))
    · rw [if_pos h]
      have := n_lt_of (by omega) (by omega) h
      exact ⟨_, by omega, rfl⟩
    · rw [if_neg h]
      have := n_nlt_of (by omega) (by omega) h
      exact ⟨_, by omega, rfl⟩
  obtain ⟨mv, hmv, e4⟩ := e3
  have hb : gn * mv ≤ 40 * 60 := Nat.mul_le_mul hgn hmv
  refine ⟨D + gn * mv / 10, by omega, ?_⟩
  unfold yG
  rw [e1, e2, e4, pk_mul, show (10 : Int32) = nI 10 from rfl, div_nI (by omega) (by omega) (by omega), nI_add]
theorem nH_nat {P D gn t wd : Nat} (hP : 0 < P) (hP2 : P ≤ 60) (hD : D ≤ 60) (hgn : gn ≤ 40) (ht : t < 1000000) (hw : 0 < wd) (hw2 : wd ≤ 50) : ∃ x : Nat, x < 300 ∧ nH wd (yG P (nI D) (nI gn) (nI t)) = nI x := by
  obtain ⟨y, hy, e⟩ := yG_nat hP hP2 hD hgn ht
  rw [e]
  unfold nH
  rw [div_nI (by omega) hw (by omega)]
  have hq : y / wd ≤ 300 := Nat.le_trans (Nat.div_le_self _ _) hy
  generalize y / wd = z at hq ⊢
  by_cases h : 0 < nI z - 1
  · rw [if_pos h]
    by_cases h0 : z = 0
    · rw [h0] at h; exact absurd h (by decide)
    · exact ⟨z - 1, by omega, pk_sub (a := z) (b := 1) (by omega)⟩
  · rw [if_neg h]
    exact ⟨0, by omega, rfl⟩
def okGp (g : Nat) (gp : Nat → Int32) : Prop := ∀ k, k < g → ∃ D, D ≤ 60 ∧ gp k = nI D
abbrev tlH (P wd : Nat) (gp : Nat → Int32) (gr : Int32) (k t : Nat) : Nat := (nH wd (yG P (gp k) gr (nI t))).toNatClampNeg
def alK (P wd fn : Nat) (gp fd : Nat → Int32) (gr : Int32) (k : Nat) : Int32 := (taTo (fun t => fsQ P wd fn gp fd gr (nI t)) (tlH P wd gp gr k) (2 * P)).2
def laTo (f : Nat → Int32) (m0 : Int32) : Nat → Int32 × Int32
  | 0 => (-1, m0)
  | k + 1 => if f k < (laTo f m0 k).2 then (nI k, f k) else laTo f m0 k
theorem la_in {f : Nat → Int32} {m0 a b : Int32} {k : Nat} (h : (a, b) = laTo f m0 k) (hq : f k < b) : (nI k, f k) = laTo f m0 (k + 1) := by
  rw [laTo, ← h, if_pos hq]
theorem la_out {f : Nat → Int32} {m0 a b : Int32} {k : Nat} (h : (a, b) = laTo f m0 k) (hq : ¬ f k < b) : (a, b) = laTo f m0 (k + 1) := by
  rw [laTo, ← h, if_neg hq]
def spLookAt (P wd fn g : Nat) (gp fd : Nat → Int32) (gr : Int32) : Int32 := (laTo (alK P wd fn gp fd gr) (spFits P wd fn gp fd gr 0) g).1
abbrev faI (F : Nat → Int32 → Int32) (rp v t : Int32) (a b : Nat) : Int32 := if b = a then 0 else rT (wT F rp v t b 300 a 0 0)
def faTo (F : Nat → Int32 → Int32) (rp v t : Int32) (a : Nat) : Nat → Int32
  | 0 => 0
  | b + 1 => if faI F rp v t a b = -1 ∨ faTo F rp v t a b = -1 then -1 else if faTo F rp v t a b < faI F rp v t a b then faI F rp v t a b else faTo F rp v t a b
theorem fa_step {F : Nat → Int32 → Int32} {rp v t its m : Int32} {a b : Nat} (hm : m = faTo F rp v t a b) (hi : its = faI F rp v t a b) : (if its = -1 ∨ m = -1 then -1 else if m < its then its else m) = faTo F rp v t a (b + 1) := by
  rw [faTo, ← hm, ← hi]
def dcTo (f : Nat → Int32) : Nat → Int32 × Int32
  | 0 => (-1, -1)
  | a + 1 => if ¬ f a = -1 ∧ ((dcTo f a).1 = -1 ∨ f a < (dcTo f a).2) then (nI a, f a) else dcTo f a
theorem dc_in {f : Nat → Int32} {x y : Int32} {a : Nat} (h : (x, y) = dcTo f a) (h1 : ¬ f a = -1) (h2 : x = -1 ∨ f a < y) : (nI a, f a) = dcTo f (a + 1) := by
  rw [dcTo, ← h, if_pos ⟨h1, h2⟩]
theorem dc_out {f : Nat → Int32} {x y : Int32} {a : Nat} (h : (x, y) = dcTo f a) (h1 : ¬ (¬ f a = -1 ∧ (x = -1 ∨ f a < y))) : (x, y) = dcTo f (a + 1) := by
  rw [dcTo, ← h, if_neg h1]
def spDoctor (hs : Nat) (F : Nat → Int32 → Int32) (rp t v what : Int32) : Int32 := if wIn v 1 40 ∧ wIn what 0 1 then (if what = 0 then (dcTo (fun a => faTo F rp v t a hs) hs).1 else (dcTo (fun a => faTo F rp v t a hs) hs).2) else -1000000002
