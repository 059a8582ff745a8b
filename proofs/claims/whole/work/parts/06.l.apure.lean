theorem al_step {Q : Nat → Prop} {i : Nat} (h : ∀ j, j < i → Q j) (hq : Q i) : ∀ j, j < i + 1 → Q j := by
  intro j hj
  by_cases e : j = i
  · rw [e]; exact hq
  · exact h j (by omega)
theorem ex_up {Q : Nat → Prop} [DecidablePred Q] {i : Nat} (h : exB Q i = true) : ∀ d, exB Q (i + d) = true := by
  intro d
  induction d with
  | zero => exact h
  | succ d ih => rw [← Nat.add_assoc, exB, ih, Bool.true_or]
theorem ex_w {Q : Nat → Prop} [DecidablePred Q] {i n : Nat} (hq : Q i) (hi : i < n) : (1 : Int32) = bI (exB Q n = true) := by
  have h1 : exB Q (i + 1) = true := by rw [exB, decide_eq_true hq, Bool.or_true]
  have h2 := ex_up h1 (n - (i + 1))
  rw [show i + 1 + (n - (i + 1)) = n from by omega] at h2
  rw [bI_t h2]
theorem gr_in2 {P wd fn gI : Nat} {gp fd : Nat → Int32} {set_ : Int32} (hset : set_ = grTo P wd fn gp fd gI) (h1 : exB (fun t => fsQ P wd fn gp fd (nI gI) (nI t)) (2 * P) = true) : set_ ||| ((1 : Int32) <<< (nI gI &&& 31)) = grTo P wd fn gp fd (gI + 1) := by
  rw [hset, grTo, if_pos h1]
theorem gr_out2 {P wd fn gI : Nat} {gp fd : Nat → Int32} {set_ : Int32} (hset : set_ = grTo P wd fn gp fd gI) (h1 : ¬ exB (fun t => fsQ P wd fn gp fd (nI gI) (nI t)) (2 * P) = true) : set_ = grTo P wd fn gp fd (gI + 1) := by
  rw [hset, grTo, if_neg h1, Int32.or_zero]
theorem fs_q {P wd i kk : Nat} {gp fd : Nat → Int32} {gw t : Int32} (hfk : fd (2 * i) = nI kk) (hk : kk < 1000) : (nH wd (yG P (gp (fd (2 * i)).toNatClampNeg) gw t) = fd (2 * i + 1)) ↔ (nH wd (yG P (gp kk) gw t) = fd (2 * i + 1)) := by
  rw [hfk, nI_clamp (by omega)]
