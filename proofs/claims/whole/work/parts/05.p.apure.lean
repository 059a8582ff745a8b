theorem course_step {f c : Nat → Int32} {n : Nat} {x : Int32} (h : ∀ j, j < n → c j = f j) (hx : x = f n) : ∀ j, j < n + 1 → upd c n x j = f j := by
  intro j hj
  by_cases e : j = n
  · rw [e, upd_s]; exact hx
  · rw [upd_n e]; exact h j (by omega)
section ME
variable {f h : Nat → Int32} {j : Nat} {x y bw : Int32}
theorem me_eq (e1 : x = f j) (e2 : h j = y) (hxy : x = y) : meQ f h j := Or.inl (by rw [← e1, e2, hxy])
theorem me_t (e1 : x = f j) (e2 : h j = y) (hlt : x < y) (hb : bw = bI (f 0 < h 0)) (hne : ¬ 1 = bw) : meQ f h j := Or.inr (by rw [← hb, ← e1, e2, bI_t hlt]; exact hne)
theorem me_f (e1 : x = f j) (e2 : h j = y) (hlt : ¬ x < y) (hb : bw = bI (f 0 < h 0)) (hne : ¬ 0 = bw) : meQ f h j := Or.inr (by rw [← hb, ← e1, e2, bI_f hlt]; exact hne)
theorem mx_t (e1 : x = f j) (e2 : h j = y) (hn : ¬ x = y) (hlt : x < y) (hb : bw = bI (f 0 < h 0)) (he : 1 = bw) : ¬ meQ f h j := fun z => z.elim (fun q => hn (by rw [e1, q, e2])) (fun q => q (by rw [← hb, ← e1, e2, bI_t hlt]; exact he))
theorem mx_f (e1 : x = f j) (e2 : h j = y) (hn : ¬ x = y) (hlt : ¬ x < y) (hb : bw = bI (f 0 < h 0)) (he : 0 = bw) : ¬ meQ f h j := fun z => z.elim (fun q => hn (by rw [e1, q, e2])) (fun q => q (by rw [← hb, ← e1, e2, bI_f hlt]; exact he))
theorem mx_0 (e1 : x = f 0) (e2 : h 0 = y) (hn : ¬ x = y) : ¬ meQ f h 0 := fun z => z.elim (fun q => hn (by rw [e1, q, e2])) (fun q => q rfl)
theorem b0_t (e1 : x = f 0) (e2 : h 0 = y) (hlt : x < y) : (1 : Int32) = bI (f 0 < h 0) := by rw [← e1, e2, bI_t hlt]
theorem b0_f (e1 : x = f 0) (e2 : h 0 = y) (hlt : ¬ x < y) : (0 : Int32) = bI (f 0 < h 0) := by rw [← e1, e2, bI_f hlt]
end ME
theorem stP_ok2 {f : Nat → Int32 → Int32} {rp v t : Int32} {pos pos2 g : Nat} {y w y2 w2 : Int32} (hg : g ≤ 8) (h : posOk g pos) (hs : (pos2, y2, w2) = stP g f rp v t pos y w) : posOk g pos2 := by
  have := stP_ok (f := f) (rp := rp) (v := v) (t := t) (y := y) (w := w) hg h
  rw [← hs] at this
  exact this
