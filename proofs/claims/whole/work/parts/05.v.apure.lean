def zr (f : Nat → Int32) (n : Nat) : Nat → Int32 := fun j => if j < n then 0 else f j
theorem zr_0 {f : Nat → Int32} : zr f 0 = f := by
  funext j; unfold zr; rw [if_neg (by omega)]
theorem zr_step {f : Nat → Int32} {i : Nat} : upd (zr f i) i 0 = zr f (i + 1) := by
  funext k
  unfold upd zr
  by_cases h : k = i
  · subst h; rw [if_pos rfl, if_pos (by omega)]
  · rw [if_neg h]
    by_cases h2 : k < i
    · rw [if_pos h2, if_pos (by omega)]
    · rw [if_neg h2, if_neg (by omega)]
theorem zr_lt {f : Nat → Int32} {n j : Nat} (h : j < n) : zr f n j = 0 := if_pos h
theorem cpy0_step {fa fb : Nat → Int32} {i : Nat} : upd (va_cpy fa fb 0 0 i) i (fa i) = va_cpy fa fb 0 0 (i + 1) := by
  have h := cpy_step (fa := fa) (fb := fb) (a := 0) (b := 0) (i := i)
  rw [Nat.zero_add] at h
  exact h
theorem cpy0_at {fa fb : Nat → Int32} {n j : Nat} (h : j < n) : va_cpy fa fb 0 0 n j = fa j := by
  unfold va_cpy; rw [if_pos (by omega), Nat.zero_add, Nat.sub_zero]
/-- the walkers at the beginning of a street -/
def stN (nw dh : Nat → Int32) (dr : Int32) : Prop := nw 0 = 0 ∧ nw 1 = dr ∧ ∀ k, k < 4 → nw (3 * k + 2) = dh k ∧ nw (3 * k + 3) = 0 ∧ nw (3 * k + 4) = 1
def stI (nw dh : Nat → Int32) (i : Nat) : Prop := nw 0 = 0 ∧ (∀ k, k < i → nw (3 * k + 2) = dh k ∧ nw (3 * k + 3) = 0 ∧ nw (3 * k + 4) = 1) ∧ ∀ j, 3 * i + 2 ≤ j → j < 14 → nw j = 0
theorem stI_0 {nw dh : Nat → Int32} : stI (zr nw 14) dh 0 := ⟨zr_lt (by omega), fun k h => absurd h (by omega), fun j _ h => zr_lt h⟩
theorem stI_step {nw dh : Nat → Int32} {i : Nat} (hi : i < 4) (h : stI nw dh i) : stI (upd (upd nw (3 * i + 2) (dh i)) (3 * i + 4) 1) dh (i + 1) := by
  obtain ⟨h0, h1, h2⟩ := h
  refine ⟨by rw [upd_n (by omega), upd_n (by omega)]; exact h0, fun k hk => ?_, fun j hj hj2 => by rw [upd_n (by omega), upd_n (by omega)]; exact h2 j (by omega) hj2⟩
  by_cases e : k = i
  · subst e
    exact ⟨by rw [upd_n (by omega), upd_s], by rw [upd_n (by omega), upd_n (by omega)]; exact h2 _ (by omega) (by omega), upd_s⟩
  · obtain ⟨a, b, c⟩ := h1 k (by omega)
    exact ⟨by rw [upd_n (by omega), upd_n (by omega)]; exact a, by rw [upd_n (by omega), upd_n (by omega)]; exact b, by rw [upd_n (by omega), upd_n (by omega)]; exact c⟩
theorem stI_end {nw dh : Nat → Int32} {dr : Int32} (h : stI nw dh 4) : stN (upd nw 1 dr) dh dr := by
  obtain ⟨h0, h1, h2⟩ := h
  refine ⟨by rw [upd_n (by omega)]; exact h0, upd_s, fun k hk => ?_⟩
  obtain ⟨a, b, c⟩ := h1 k hk
  exact ⟨by rw [upd_n (by omega)]; exact a, by rw [upd_n (by omega)]; exact b, by rw [upd_n (by omega)]; exact c⟩
/-- the draft as the text's reading begins -/
def dr0 (dl dg dh dp : Nat → Int32) : DR := (0, zr dl 5, zr dg 8, zr dh 4, zr dp 4, 0)
def rdS (tx : Nat → Int32) (n : Nat) (dl dg dh dp : Nat → Int32) : Nat × Nat × DR := rdF tx n (n + 1) (sk tx n 0) 0 (dr0 dl dg dh dp)
def spFeed (ln : Nat) (c : Int32) : Int32 := if wIn c 0 255 then (if ln = 200 then -1000000004 else nI (ln + 1)) else -1000000002
