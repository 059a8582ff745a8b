theorem gr_in {P wd fn gI t : Nat} {gp fd : Nat → Int32} {set_ is_ : Int32} (hset : set_ = grTo P wd fn gp fd gI) (his : is_ = bI (exB (fun t => fsQ P wd fn gp fd (nI gI) (nI t)) t = true)) (ht : t = 2 * P) (h0 : ¬ is_ = 0) : set_ ||| ((1 : Int32) <<< (nI gI &&& 31)) = grTo P wd fn gp fd (gI + 1) := by
  subst ht
  have h1 : exB (fun t => fsQ P wd fn gp fd (nI gI) (nI t)) (2 * P) = true := Decidable.not_not.mp (fun z => h0 (by rw [his, bI_f z]))
  rw [hset, grTo, if_pos h1]
theorem gr_out {P wd fn gI t : Nat} {gp fd : Nat → Int32} {set_ is_ : Int32} (hset : set_ = grTo P wd fn gp fd gI) (his : is_ = bI (exB (fun t => fsQ P wd fn gp fd (nI gI) (nI t)) t = true)) (ht : t = 2 * P) (h0 : is_ = 0) : set_ ||| 0 = grTo P wd fn gp fd (gI + 1) := by
  subst ht
  have h1 := bI_eq0.mp (his.symm.trans h0)
  rw [hset, grTo, if_neg h1]
theorem fill_step {a : Nat → Int32} {j : Nat} (h : ∀ x, x < j → a x = 0) : ∀ x, x < j + 1 → upd a j 0 x = 0 := by
  intro x hx
  by_cases e : x = j
  · rw [e, upd_s]
  · rw [upd_n e]; exact h x (by omega)
