section
variable {tx : Nat → Int32} {n i fk a w i2 fk2 fr e : Nat} {fa fa2 lo hi v : Int32}
theorem nm_ex (h : rdR n i2 fk2 fa2 (nmS tx n lo hi a w).1 (nmS tx n lo hi a w).2.1 ∧ (fk2 = 0 → v = (nmS tx n lo hi a w).2.2)) : ∃ a1 w1 x1, (a1, w1, x1) = nmS tx n lo hi a w ∧ rdR n i2 fk2 fa2 a1 w1 ∧ (fk2 = 0 → v = x1 ∧ w = 0 ∧ wIn v lo hi) := by
  refine ⟨_, _, _, rfl, h.1, fun z => ?_⟩
  have hv := h.2 z
  have hw1 : (nmS tx n lo hi a w).2.1 = 0 := h.1.1.symm.trans z
  refine ⟨hv, Decidable.byContradiction (fun q => ?_), nm_ok (a := (nmS tx n lo hi a w).1) (tx := tx) (n := n) (i := a) (wr := w) (Prod.ext rfl (Prod.ext hw1.symm hv))⟩
  rw [nm_w q] at hw1
  exact q hw1
theorem wd_ex {c : Int32} (h : rdR n i2 fk2 fa2 (wdS tx n c a w).1 (wdS tx n c a w).2) : ∃ a1 w1, (a1, w1) = wdS tx n c a w ∧ rdR n i2 fk2 fa2 a1 w1 ∧ (fk2 = 0 → w = 0) := by
  refine ⟨_, _, rfl, h, fun z => Decidable.byContradiction (fun q => ?_)⟩
  have e := h.1.symm.trans z
  rw [wd_w q] at e
  exact q e
theorem hs_x {g hs : Nat} (hh : (g = 0 ∧ hs = 0) ∨ (0 < g ∧ hs = g + 1)) : nI hs - 1 = if g = 0 then -1 else nI g := by
  rcases hh with ⟨h1, h2⟩ | ⟨h1, h2⟩
  · rw [if_pos h1, h2]; rfl
  · rw [if_neg (by omega), h2]; exact pk_sub (a := g + 1) (b := 1) (by omega)
end
