/-! What can be undone: the class's ring against the reference's rows -/
def paR (rw_ : Nat → Int32) (o n : Nat) (ps : Nat → Int32) (wk : Nat) : Prop := ∀ i, i < n → scR (fun j => rw_ (18 * ((o + i) % 30) + j)) (fun j => ps (14 * i + j)) wk
theorem rem30 {a sl : Nat} (ha : a < 1000000) (h : sl = a % 30) : nI a - nI a / 30 * 30 = nI sl := by
  rw [h]; exact pk_rem (a := a) (d := 30) (by omega) (by omega) (by omega)
theorem push_old {n i j : Nat} {nw ps : Nat → Int32} (hn : n < 30) (hi : i < n) (hj : j < 14) : pushF n nw ps (14 * i + j) = ps (14 * i + j) := by
  rw [pushF, if_neg (by omega)]; unfold va_cpy; rw [if_neg (by omega)]
theorem push_new {n j : Nat} {nw ps : Nat → Int32} (hn : n < 30) (hj : j < 14) : pushF n nw ps (14 * n + j) = nw j := by
  rw [pushF, if_neg (by omega)]; unfold va_cpy; rw [if_pos (by omega), Nat.zero_add, Nat.add_sub_cancel_left]
theorem push_old30 {i j : Nat} {nw ps : Nat → Int32} (hi : i < 29) (hj : j < 14) : pushF 30 nw ps (14 * i + j) = ps (14 * (i + 1) + j) := by
  rw [pushF, if_pos rfl]; unfold va_cpy shf; rw [if_neg (by omega), if_pos (by omega)]; exact congrArg ps (by omega)
theorem push_new30 {j : Nat} {nw ps : Nat → Int32} (hj : j < 14) : pushF 30 nw ps (14 * 29 + j) = nw j := by
  rw [pushF, if_pos rfl]; unfold va_cpy; rw [if_pos (by omega), Nat.zero_add]; exact congrArg nw (by omega)
theorem row_old {c rw_ : Nat → Int32} {s1 s2 j : Nat} (h : ¬ s1 = s2) (hj : j < 18) : va_cpy c rw_ 0 (18 * s1) 18 (18 * s2 + j) = rw_ (18 * s2 + j) := by
  unfold va_cpy; rw [if_neg (by omega)]
theorem row_new {c rw_ : Nat → Int32} {s1 j : Nat} (hj : j < 18) : va_cpy c rw_ 0 (18 * s1) 18 (18 * s1 + j) = c j := by
  unfold va_cpy; rw [if_pos (by omega), Nat.zero_add, Nat.add_sub_cancel_left]
theorem paR_some {rw_ c nw ps : Nat → Int32} {o n wk sl : Nat} (hwk : wk ≤ 4) (ho : o < 30) (hn : n < 30) (hsl : sl = (o + n) % 30) (h : paR rw_ o n ps wk) (hc : scR c nw wk) : paR (va_cpy c rw_ 0 (18 * sl) 18) o (n + 1) (pushF n nw ps) wk := by
  intro i hi
  by_cases e : i = n
  · subst e
    exact scR_congr hwk hc (fun j hj => by rw [← hsl]; exact row_new hj) (fun j hj => push_new hn hj)
  · exact scR_congr hwk (h i (by omega)) (fun j hj => row_old (by omega) hj) (fun j hj => push_old hn (by omega) hj)
theorem paR_full {rw_ c nw ps : Nat → Int32} {o n wk sl o2 : Nat} (hwk : wk ≤ 4) (ho : o < 30) (hn : n = 30) (hsl : sl = (o + n) % 30) (ho2 : o2 = (o + 1) % 30) (h : paR rw_ o n ps wk) (hc : scR c nw wk) : paR (va_cpy c rw_ 0 (18 * sl) 18) o2 30 (pushF n nw ps) wk := by
  subst hn
  intro i hi
  by_cases e : i = 29
  · subst e
    have e1 : (o2 + 29) % 30 = sl := by omega
    exact scR_congr hwk hc (fun j hj => by rw [e1]; exact row_new hj) (fun j hj => push_new30 hj)
  · have e1 : (o2 + i) % 30 = (o + (i + 1)) % 30 := by omega
    exact scR_congr hwk (h (i + 1) (by omega)) (fun j hj => by rw [e1]; exact row_old (by omega) hj) (fun j hj => push_old30 (by omega) hj)
theorem paR_back {rw_ c nw ps : Nat → Int32} {o n i wk sl : Nat} (hwk : wk ≤ 4) (hi : i < n) (hsl : sl = (o + i) % 30) (h : paR rw_ o n ps wk) : scR (va_cpy rw_ c (18 * sl) 0 18) (va_cpy ps nw (14 * i) 0 14) wk := by
  refine scR_congr hwk (h i hi) (fun j hj => ?_) (fun j hj => ?_)
  · unfold va_cpy; rw [if_pos (by omega), Nat.sub_zero, hsl]
  · unfold va_cpy; rw [if_pos (by omega), Nat.sub_zero]
theorem paR_less {rw_ ps : Nat → Int32} {o n n2 wk : Nat} (h : paR rw_ o n ps wk) (hn : n2 ≤ n) : paR rw_ o n2 ps wk := fun i hi => h i (by omega)
theorem paR_full2 {rw_ c nw ps : Nat → Int32} {o n wk sl o2 : Nat} (hwk : wk ≤ 4) (ho : o < 30) (hn : n = 30) (hsl : sl = (o + n) % 30) (ho2 : o2 = (o + 1) % 30) (h : paR rw_ o n ps wk) (hc : scR c nw wk) : paR (va_cpy c rw_ 0 (18 * sl) 18) o2 n (pushF n nw ps) wk := by
  subst hn; exact paR_full hwk ho rfl hsl ho2 h hc
