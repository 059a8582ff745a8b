/-! The class's row of walkers against the reference's: c of 18 ints, nw of 14 -/
def hsN (pos : Nat) : Int32 := if pos < 100 then nI pos else -1
def gpN (pos : Nat) : Int32 := if pos < 100 then -1 else nI (pos - 100)
def quad (c nw : Nat → Int32) (w : Nat) : Prop := c (4 * w + 2) = hsN (posF nw w) ∧ c (4 * w + 3) = gpN (posF nw w) ∧ c (4 * w + 4) = nw (3 * w + 3) ∧ c (4 * w + 5) = nw (3 * w + 4)
def scR (c nw : Nat → Int32) (wk : Nat) : Prop := c 0 = nw 0 ∧ c 1 = nw 1 ∧ ∀ w, w < wk → quad c nw w
theorem scR_q {c nw : Nat → Int32} {wk w pos : Nat} (h : scR c nw wk) (hw : w < wk) (hpos : nw (3 * w + 2) = nI pos) (hb : pos < 1000) : c (4 * w + 2) = hsN pos ∧ c (4 * w + 3) = gpN pos ∧ c (4 * w + 4) = nw (3 * w + 3) ∧ c (4 * w + 5) = nw (3 * w + 4) := by
  have := h.2.2 w hw
  unfold quad at this
  rw [posF_of hpos hb] at this
  exact this
theorem hsN_t {pos : Nat} (h : pos < 100) : hsN pos = nI pos := if_pos h
theorem hsN_f {pos : Nat} (h : ¬ pos < 100) : hsN pos = -1 := if_neg h
theorem gpN_t {pos : Nat} (h : pos < 100) : gpN pos = -1 := if_pos h
theorem gpN_f {pos : Nat} (h : ¬ pos < 100) : gpN pos = nI (pos - 100) := if_neg h
theorem nI_ne_m1 {n : Nat} (h : n < 2147483648) : ¬ nI n = -1 := by
  intro e
  have := nI_pos h
  rw [e] at this
  exact this (by decide)
theorem posF_upd {nw : Nat → Int32} {w j : Nat} {x : Int32} (h : ¬ j = 3 * w + 2) : posF (upd nw j x) w = posF nw w := by
  unfold posF; rw [upd_n (fun e => h e.symm)]
/-- one walker's cells change, on both sides -/
theorem scR_w {c c2 nw nw2 : Nat → Int32} {wk w : Nat} (h : scR c nw wk) (h0 : ∀ j, j < 4 * w + 2 ∨ 4 * w + 6 ≤ j → c2 j = c j) (h1 : ∀ j, j < 3 * w + 2 ∨ 3 * w + 5 ≤ j → nw2 j = nw j) (hq : quad c2 nw2 w) : scR c2 nw2 wk := by
  refine ⟨by rw [h0 0 (by omega), h1 0 (by omega)]; exact h.1, by rw [h0 1 (by omega), h1 1 (by omega)]; exact h.2.1, fun z hz => ?_⟩
  by_cases e : z = w
  · rw [e]; exact hq
  · obtain ⟨a1, a2, a3, a4⟩ := h.2.2 z hz
    have ep : posF nw2 z = posF nw z := by unfold posF; rw [h1 (3 * z + 2) (by omega)]
    exact ⟨by rw [h0 (4 * z + 2) (by omega), ep]; exact a1, by rw [h0 (4 * z + 3) (by omega), ep]; exact a2, by rw [h0 (4 * z + 4) (by omega), h1 (3 * z + 3) (by omega)]; exact a3, by rw [h0 (4 * z + 5) (by omega), h1 (3 * z + 4) (by omega)]; exact a4⟩
theorem scR_congr {c c2 nw nw2 : Nat → Int32} {wk : Nat} (hwk : wk ≤ 4) (h : scR c nw wk) (h0 : ∀ j, j < 18 → c2 j = c j) (h1 : ∀ j, j < 14 → nw2 j = nw j) : scR c2 nw2 wk := by
  refine ⟨by rw [h0 0 (by omega), h1 0 (by omega)]; exact h.1, by rw [h0 1 (by omega), h1 1 (by omega)]; exact h.2.1, fun z hz => ?_⟩
  obtain ⟨a1, a2, a3, a4⟩ := h.2.2 z hz
  have ep : posF nw2 z = posF nw z := by unfold posF; rw [h1 (3 * z + 2) (by omega)]
  exact ⟨by rw [h0 (4 * z + 2) (by omega), ep]; exact a1, by rw [h0 (4 * z + 3) (by omega), ep]; exact a2, by rw [h0 (4 * z + 4) (by omega), h1 (3 * z + 3) (by omega)]; exact a3, by rw [h0 (4 * z + 5) (by omega), h1 (3 * z + 4) (by omega)]; exact a4⟩
