def lvP (g pos : Nat) (y w : Int32) : Nat × Int32 × Int32 := if pos < 100 then (if w = 1 then (pos, y, w) else if w = 2 then (if pos < g then (100 + pos, 0, w) else (pos, y, 1)) else (if 0 < pos ∧ pos - 1 < g then (100 + (pos - 1), 0, w) else (pos, y, 1))) else (pos, y, w)
def sdP (F : Nat → Int32 → Int32) (rp v t : Int32) (pos : Nat) (y w : Int32) : Nat × Int32 × Int32 := if pos < 100 then (pos, y, w) else goK F rp v t (pos - 100) y w
theorem st_two {g pos : Nat} {F : Nat → Int32 → Int32} {rp v t y w : Int32} : sdP F rp v t (lvP g pos y w).1 (lvP g pos y w).2.1 (lvP g pos y w).2.2 = stP g F rp v t pos y w := by
  unfold lvP stP
  by_cases h1 : pos < 100
  · rw [if_pos h1, if_pos h1]
    by_cases h2 : w = 1
    · rw [if_pos h2, if_pos h2]; exact if_pos h1
    · rw [if_neg h2, if_neg h2]
      by_cases h3 : w = 2
      · rw [if_pos h3, if_pos h3]
        by_cases h4 : pos < g
        · rw [if_pos h4, if_pos h4]; dsimp only; rw [sdP, if_neg (by omega), Nat.add_sub_cancel_left]
        · rw [if_neg h4, if_neg h4]; exact if_pos h1
      · rw [if_neg h3, if_neg h3]
        by_cases h4 : 0 < pos ∧ pos - 1 < g
        · rw [if_pos h4, if_pos h4]; dsimp only; rw [sdP, if_neg (by omega), Nat.add_sub_cancel_left]
        · rw [if_neg h4, if_neg h4]; exact if_pos h1
  · rw [if_neg h1, if_neg h1]; exact if_neg h1
theorem upd3_upd3 {f : Nat → Int32} {w : Nat} {x y : Nat × Int32 × Int32} : upd3 (upd3 f w x) w y = upd3 f w y := by
  funext j
  unfold upd3 upd
  split
  · rfl
  · split
    · rfl
    · split <;> rfl
theorem upd3_same {f : Nat → Int32} {w pos : Nat} (h : f (3 * w + 2) = nI pos) : upd3 f w (pos, f (3 * w + 3), f (3 * w + 4)) = f := by
  funext j
  unfold upd3 upd
  dsimp only
  split
  · next e => rw [e]
  · split
    · next e => rw [e]
    · split
      · next e => rw [e, h]
      · rfl
theorem upd3_0 {f : Nat → Int32} {w : Nat} {x : Nat × Int32 × Int32} : upd3 f w x (3 * w + 2) = nI x.1 := by
  unfold upd3; rw [upd_n (by omega), upd_n (by omega), upd_s]
theorem upd3_1 {f : Nat → Int32} {w : Nat} {x : Nat × Int32 × Int32} : upd3 f w x (3 * w + 3) = x.2.1 := by
  unfold upd3; rw [upd_n (by omega), upd_s]
theorem upd3_2 {f : Nat → Int32} {w : Nat} {x : Nat × Int32 × Int32} : upd3 f w x (3 * w + 4) = x.2.2 := by
  unfold upd3; rw [upd_s]
theorem upd3_n {f : Nat → Int32} {w j : Nat} {x : Nat × Int32 × Int32} (h : j < 3 * w + 2 ∨ 3 * w + 5 ≤ j) : upd3 f w x j = f j := by
  unfold upd3; rw [upd_n (by omega), upd_n (by omega), upd_n (by omega)]
theorem posF_upd3 {f : Nat → Int32} {w : Nat} {x : Nat × Int32 × Int32} (h : x.1 < 1000) : posF (upd3 f w x) w = x.1 := posF_of upd3_0 h
section LV
variable {c nw : Nat → Int32} {wk w pos k : Nat} {y v : Int32}
theorem lv_enter (h : scR c nw wk) (hw : w < wk) (hk : k < 100) : scR (upd (upd (upd c (4 * w + 0 + 2) (-1)) (4 * w + 1 + 2) (nI k)) (4 * w + 2 + 2) 0) (upd3 nw w (100 + k, 0, nw (3 * w + 4))) wk := by
  refine scR_w (w := w) h (fun j hj => by rw [upd_n (by omega), upd_n (by omega), upd_n (by omega)]) (fun j hj => upd3_n hj) ?_
  refine ⟨?_, ?_, ?_, ?_⟩
  · rw [upd_n (by omega), upd_n (by omega), show 4 * w + 2 = 4 * w + 0 + 2 from rfl, upd_s, posF_upd3 (by dsimp only; omega), hsN_f (by dsimp only; omega)]
  · rw [upd_n (by omega), show 4 * w + 3 = 4 * w + 1 + 2 from rfl, upd_s, posF_upd3 (by dsimp only; omega), gpN_f (by dsimp only; omega)]
    dsimp only; rw [Nat.add_sub_cancel_left]
  · rw [show 4 * w + 4 = 4 * w + 2 + 2 from rfl, upd_s, upd3_1]
  · rw [upd_n (by omega), upd_n (by omega), upd_n (by omega), upd3_2]; exact (h.2.2 w hw).2.2.2
theorem lv_still (h : scR c nw wk) (hw : w < wk) (hpos : nw (3 * w + 2) = nI pos) (hb : pos < 1000) : scR (upd c (4 * w + 3 + 2) 1) (upd3 nw w (pos, nw (3 * w + 3), 1)) wk := by
  obtain ⟨a1, a2, a3, a4⟩ := scR_q h hw hpos hb
  refine scR_w (w := w) h (fun j hj => by rw [upd_n (by omega)]) (fun j hj => upd3_n hj) ?_
  refine ⟨?_, ?_, ?_, ?_⟩
  · rw [upd_n (by omega), posF_upd3 hb]; exact a1
  · rw [upd_n (by omega), posF_upd3 hb]; exact a2
  · rw [upd_n (by omega), upd3_1]; exact a3
  · rw [show 4 * w + 5 = 4 * w + 3 + 2 from rfl, upd_s, upd3_2]
theorem sd_stand (h : scR c nw wk) (hw : w < wk) (hk : k < 100) : scR (upd (upd (upd c (4 * w + 0 + 2) (nI k)) (4 * w + 1 + 2) (-1)) (4 * w + 2 + 2) 0) (upd3 nw w (k, 0, nw (3 * w + 4))) wk := by
  refine scR_w (w := w) h (fun j hj => by rw [upd_n (by omega), upd_n (by omega), upd_n (by omega)]) (fun j hj => upd3_n hj) ?_
  refine ⟨?_, ?_, ?_, ?_⟩
  · rw [upd_n (by omega), upd_n (by omega), show 4 * w + 2 = 4 * w + 0 + 2 from rfl, upd_s, posF_upd3 (by dsimp only; omega), hsN_t hk]
  · rw [upd_n (by omega), show 4 * w + 3 = 4 * w + 1 + 2 from rfl, upd_s, posF_upd3 (by dsimp only; omega), gpN_t hk]
  · rw [show 4 * w + 4 = 4 * w + 2 + 2 from rfl, upd_s, upd3_1]
  · rw [upd_n (by omega), upd_n (by omega), upd_n (by omega), upd3_2]; exact (h.2.2 w hw).2.2.2
theorem sd_go (h : scR c nw wk) (hw : w < wk) (hpos : nw (3 * w + 2) = nI pos) (hb : pos < 1000) : scR (upd c (4 * w + 2 + 2) y) (upd3 nw w (pos, y, nw (3 * w + 4))) wk := by
  obtain ⟨a1, a2, a3, a4⟩ := scR_q h hw hpos hb
  refine scR_w (w := w) h (fun j hj => by rw [upd_n (by omega)]) (fun j hj => upd3_n hj) ?_
  refine ⟨?_, ?_, ?_, ?_⟩
  · rw [upd_n (by omega), posF_upd3 hb]; exact a1
  · rw [upd_n (by omega), posF_upd3 hb]; exact a2
  · rw [show 4 * w + 4 = 4 * w + 2 + 2 from rfl, upd_s, upd3_1]
  · rw [upd_n (by omega), upd3_2]; exact a4
theorem di_way (h : scR c nw wk) (hw : w < wk) : scR (upd c (4 * w + 3 + 2) v) (upd nw (3 * w + 4) v) wk := by
  obtain ⟨a1, a2, a3, a4⟩ := h.2.2 w hw
  refine scR_w (w := w) h (fun j hj => by rw [upd_n (by omega)]) (fun j hj => by rw [upd_n (by omega)]) ?_
  refine ⟨?_, ?_, ?_, ?_⟩
  · rw [upd_n (by omega), posF_upd (by omega)]; exact a1
  · rw [upd_n (by omega), posF_upd (by omega)]; exact a2
  · rw [upd_n (by omega), upd_n (by omega)]; exact a3
  · rw [show 4 * w + 5 = 4 * w + 3 + 2 from rfl, upd_s, upd_s]
theorem di_turn (h : scR c nw wk) (hw : w < wk) : scR (upd (upd c (4 * w + 2 + 2) y) (4 * w + 3 + 2) v) (upd (upd nw (3 * w + 3) y) (3 * w + 4) v) wk := by
  obtain ⟨a1, a2, a3, a4⟩ := h.2.2 w hw
  refine scR_w (w := w) h (fun j hj => by rw [upd_n (by omega), upd_n (by omega)]) (fun j hj => by rw [upd_n (by omega), upd_n (by omega)]) ?_
  refine ⟨?_, ?_, ?_, ?_⟩
  · rw [upd_n (by omega), upd_n (by omega), posF_upd (by omega), posF_upd (by omega)]; exact a1
  · rw [upd_n (by omega), upd_n (by omega), posF_upd (by omega), posF_upd (by omega)]; exact a2
  · rw [upd_n (by omega)]
    show upd c (4 * w + 2 + 2) y (4 * w + 2 + 2) = _
    rw [upd_s, upd_n (by omega), upd_s]
  · rw [show 4 * w + 5 = 4 * w + 3 + 2 from rfl, upd_s, upd_s]
theorem scR_lv {c2 : Nat → Int32} {x z : Nat × Int32 × Int32} (h : scR c2 (upd3 nw w x) wk) (e : x = z) : scR c2 (upd3 nw w z) wk := e ▸ h
theorem goK_go {F : Nat → Int32 → Int32} {rp v t y q w : Int32} {k : Nat} (hq : pce rp v k = q) (h : y + q < F k t) : goK F rp v t k y w = (100 + k, y + q, w) := by
  unfold goK; rw [hq, if_pos h]
theorem goK_in {F : Nat → Int32 → Int32} {rp v t y q w : Int32} {k h2 : Nat} (hq : pce rp v k = q) (h : ¬ y + q < F k t) (hh : h2 = if w = 2 then k + 1 else k) : goK F rp v t k y w = (h2, 0, w) := by
  unfold goK; rw [hq, if_neg h, hh]
end LV
