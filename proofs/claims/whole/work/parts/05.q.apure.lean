/-! The text, as it is read: shared -/
def lk (tx : Nat → Int32) (n i : Nat) : Int32 := if i < n then tx i else -1
def skF (tx : Nat → Int32) (n : Nat) : Nat → Nat → Nat
  | 0, i => i
  | k + 1, i => if lk tx n i = 32 then skF tx n k (i + 1) else i
def sk (tx : Nat → Int32) (n i : Nat) : Nat := skF tx n (n - i) i
def skS (tx : Nat → Int32) (n wr i : Nat) : Nat := if wr = 0 then sk tx n i else i
def scF (tx : Nat → Int32) (n fr : Nat) : Nat → Nat → Int32 → Nat × Int32
  | 0, i, v => (i, v)
  | k + 1, i, v => if wIn (lk tx n i) 48 57 then scF tx n fr k (i + 1) (if i - fr < 3 then 10 * v + lk tx n i - 48 else v) else (i, v)
def sc (tx : Nat → Int32) (n fr : Nat) : Nat × Int32 := scF tx n fr (n - fr) fr 0
def nmR (tx : Nat → Int32) (n : Nat) (lo hi : Int32) (i : Nat) : Nat × Nat × Int32 := if wIn (lk tx n i) 48 57 then (if 3 < (sc tx n i).1 - i ∨ ¬ wIn (sc tx n i).2 lo hi then (i, 2, (sc tx n i).2) else ((sc tx n i).1, 0, (sc tx n i).2)) else (i, 1, 0)
def nmS (tx : Nat → Int32) (n : Nat) (lo hi : Int32) (i wr : Nat) : Nat × Nat × Int32 := if wr = 0 then nmR tx n lo hi (sk tx n i) else (i, wr, 0)
def wdS (tx : Nat → Int32) (n : Nat) (c : Int32) (i wr : Nat) : Nat × Nat := if wr = 0 then (if lk tx n (sk tx n i) = c then (sk tx n i + 1, 0) else (sk tx n i, 1)) else (i, wr)
section TX
variable {tx : Nat → Int32} {n i k fr at_ wr : Nat} {c v lo hi : Int32}
theorem lk_in (h : i < n) : lk tx n i = tx i := if_pos h
theorem lk_out (h : ¬ i < n) : lk tx n i = -1 := if_neg h
theorem lk_lt (h : lk tx n i = c) (hc : ¬ c = -1) : i < n := Decidable.byContradiction (fun q => hc (by rw [← h, lk_out q]))
theorem sk_stop (h : ¬ lk tx n i = 32) : skF tx n k i = i := by
  cases k with
  | zero => rfl
  | succ k => exact if_neg h
theorem sk_go {T0 : Nat} (h : skF tx n (n - i) i = T0) (hl : lk tx n i = 32) : skF tx n (n - (i + 1)) (i + 1) = T0 := by
  have := lk_lt hl (by decide)
  rw [← h, show n - i = n - (i + 1) + 1 from by omega, skF, if_pos hl]
theorem skF_le : ∀ (k i : Nat), i ≤ n → skF tx n k i ≤ n
  | 0, i, h => h
  | k + 1, i, h => by
    rw [skF]
    split
    · next h2 => exact skF_le k (i + 1) (lk_lt h2 (by decide))
    · exact h
theorem sk_le (h : i ≤ n) : sk tx n i ≤ n := skF_le _ _ h
theorem sk_ge : ∀ (k i : Nat), i ≤ skF tx n k i
  | 0, i => Nat.le_refl i
  | k + 1, i => by
    rw [skF]
    split
    · exact Nat.le_trans (Nat.le_succ i) (sk_ge k (i + 1))
    · exact Nat.le_refl i
theorem skF_end : ∀ (k i : Nat), n - i ≤ k → ¬ lk tx n (skF tx n k i) = 32
  | 0, i, h => fun q => absurd (lk_lt q (by decide)) (by rw [skF]; omega)
  | k + 1, i, h => by
    rw [skF]
    split
    · exact skF_end k (i + 1) (by omega)
    · next h2 => exact h2
theorem sk_end : ¬ lk tx n (sk tx n i) = 32 := skF_end _ _ (Nat.le_refl _)
theorem skS_t (h : wr = 0) : skS tx n wr i = sk tx n i := if_pos h
theorem skS_f (h : ¬ wr = 0) : skS tx n wr i = i := if_neg h
theorem dg_lt (h : wIn (lk tx n i) 48 57) : i < n := Decidable.byContradiction (fun q => by
  have h1 := h.1
  rw [lk_out q] at h1
  exact absurd h1 (by decide))
theorem sc_go {s : Nat × Int32} {v2 : Int32} (h : scF tx n fr (n - i) i v = s) (hl : wIn (lk tx n i) 48 57) (hv : v2 = if i - fr < 3 then 10 * v + lk tx n i - 48 else v) : scF tx n fr (n - (i + 1)) (i + 1) v2 = s := by
  have := dg_lt hl
  rw [← h, show n - i = n - (i + 1) + 1 from by omega, scF, if_pos hl, hv]
theorem sc_stop {s : Nat × Int32} (h : scF tx n fr (n - i) i v = s) (hl : ¬ wIn (lk tx n i) 48 57) : s = (i, v) := by
  rw [← h]
  cases n - i with
  | zero => rfl
  | succ k => exact if_neg hl
end TX
