theorem lvP_ok {g pos : Nat} {y w : Int32} (h : posOk g pos) : posOk g (lvP g pos y w).1 := by
  unfold lvP
  split
  · split
    · exact h
    · split
      · split
        · right; exact ⟨by simp, by dsimp only; omega⟩
        · exact h
      · split
        · next h4 => right; exact ⟨by simp, by dsimp only; omega⟩
        · exact h
  · exact h
theorem pm_two {g wk i pos : Nat} {F : Nat → Int32 → Int32} {pa nw c2 : Nat → Int32} (hpos : pmTo g F pa nw i (3 * i + 2) = nI pos) (hb : pos < 1000)
    (h : scR c2 (upd3 (upd3 (pmTo g F pa nw i) i (lvP g pos (pmTo g F pa nw i (3 * i + 3)) (pmTo g F pa nw i (3 * i + 4)))) i (sdP F (upd3 (pmTo g F pa nw i) i (lvP g pos (pmTo g F pa nw i (3 * i + 3)) (pmTo g F pa nw i (3 * i + 4))) 1) (pa i) (upd3 (pmTo g F pa nw i) i (lvP g pos (pmTo g F pa nw i (3 * i + 3)) (pmTo g F pa nw i (3 * i + 4))) 0) (lvP g pos (pmTo g F pa nw i (3 * i + 3)) (pmTo g F pa nw i (3 * i + 4))).1 (upd3 (pmTo g F pa nw i) i (lvP g pos (pmTo g F pa nw i (3 * i + 3)) (pmTo g F pa nw i (3 * i + 4))) (3 * i + 3)) (upd3 (pmTo g F pa nw i) i (lvP g pos (pmTo g F pa nw i (3 * i + 3)) (pmTo g F pa nw i (3 * i + 4))) (3 * i + 4)))) wk) : scR c2 (pmTo g F pa nw (i + 1)) wk := by
  rw [upd3_upd3, upd3_1, upd3_2, upd3_n (by omega), upd3_n (by omega), st_two] at h
  rw [pmTo, posF_of hpos hb]
  exact h
theorem pm_ok {g wk i pos : Nat} {F : Nat → Int32 → Int32} {pa nw : Nat → Int32} (hg : g ≤ 8) (hpos : pmTo g F pa nw i (3 * i + 2) = nI pos) (hpk : posOk g pos) (h : okS g wk (pmTo g F pa nw i)) : okS g wk (pmTo g F pa nw (i + 1)) := by
  rw [pmTo, posF_of hpos (posOk_lt hg hpk)]
  exact ok_step (pos := pos) hg h hpk rfl
theorem pm_rel {g wk : Nat} {F : Nat → Int32 → Int32} {pa nw c : Nat → Int32} (h : scR c (pmTo g F pa nw wk) wk) : scR (upd c 0 (c 0 + 1)) (pm g F pa wk nw) wk := by
  unfold pm
  refine ⟨by rw [upd_s, upd_s, h.1], by rw [upd_n (by omega), upd_n (by omega)]; exact h.2.1, fun w hw => ?_⟩
  obtain ⟨a1, a2, a3, a4⟩ := h.2.2 w hw
  exact ⟨by rw [upd_n (by omega), posF_upd (by omega)]; exact a1, by rw [upd_n (by omega), posF_upd (by omega)]; exact a2, by rw [upd_n (by omega), upd_n (by omega)]; exact a3, by rw [upd_n (by omega), upd_n (by omega)]; exact a4⟩
theorem max_alt (x : Int32) : (if 0 < x then x else 0) = if x < 0 then 0 else x := by
  by_cases h1 : 0 < x <;> by_cases h2 : x < 0
  · rw [Int32.lt_iff_toInt_lt, Int32.toInt_zero] at h1 h2; omega
  · rw [if_pos h1, if_neg h2]
  · rw [if_neg h1, if_pos h2]
  · rw [if_neg h1, if_neg h2]
    rw [Int32.lt_iff_toInt_lt, Int32.toInt_zero] at h1 h2
    exact Int32.toInt_inj.mp (by rw [Int32.toInt_zero]; omega)
/-- the class's row as a street begins, walkers below i laid -/
def bgI (c ho : Nat → Int32) (wk : Nat) (fr : Int32) (i : Nat) : Prop := c 0 = 0 ∧ c 1 = fr ∧ ∀ w, w < i → c (4 * w + 2) = (if w < wk then ho w else 0) ∧ c (4 * w + 3) = -1 ∧ c (4 * w + 4) = 0 ∧ c (4 * w + 5) = 1
theorem bg_0 {c ho : Nat → Int32} {wk : Nat} {fr : Int32} : bgI (upd (upd c 0 0) 1 fr) ho wk fr 0 := ⟨by rw [upd_n (by omega), upd_s], upd_s, fun w h => absurd h (by omega)⟩
theorem bg_step {c ho : Nat → Int32} {wk i : Nat} {fr : Int32} (h : bgI c ho wk fr i) (hi : i < 4) : bgI (upd (upd (upd (upd c (4 * i + 0 + 2) (if i < wk then ho i else 0)) (4 * i + 1 + 2) (-1)) (4 * i + 2 + 2) 0) (4 * i + 3 + 2) 1) ho wk fr (i + 1) := by
  obtain ⟨h0, h1, h2⟩ := h
  refine ⟨by rw [upd_n (by omega), upd_n (by omega), upd_n (by omega), upd_n (by omega)]; exact h0, by rw [upd_n (by omega), upd_n (by omega), upd_n (by omega), upd_n (by omega)]; exact h1, fun w hw => ?_⟩
  by_cases e : w = i
  · subst e
    refine ⟨?_, ?_, ?_, ?_⟩
    · rw [upd_n (by omega), upd_n (by omega), upd_n (by omega)]; exact upd_s
    · rw [upd_n (by omega), upd_n (by omega)]; exact upd_s
    · rw [upd_n (by omega)]; exact upd_s
    · exact upd_s
  · obtain ⟨a, b, d, f⟩ := h2 w (by omega)
    exact ⟨by rw [upd_n (by omega), upd_n (by omega), upd_n (by omega), upd_n (by omega)]; exact a, by rw [upd_n (by omega), upd_n (by omega), upd_n (by omega), upd_n (by omega)]; exact b, by rw [upd_n (by omega), upd_n (by omega), upd_n (by omega), upd_n (by omega)]; exact d, by rw [upd_n (by omega), upd_n (by omega), upd_n (by omega), upd_n (by omega)]; exact f⟩
theorem bg_end {c ho : Nat → Int32} {wk : Nat} {fr : Int32} (h : bgI c ho wk fr 4) : bgI c ho wk fr 4 := h
