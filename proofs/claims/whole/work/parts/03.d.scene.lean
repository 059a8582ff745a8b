/-! A walker's minute, and where he is: shared -/
def goK (f : Nat → Int32 → Int32) (rp v t : Int32) (k : Nat) (y w : Int32) : Nat × Int32 × Int32 := if y + pce rp v k < f k t then (100 + k, y + pce rp v k, w) else (if w = 2 then k + 1 else k, 0, w)
/-- a minute: place (below 100 a house, else 100 and the gap), yards, way -/
def stP (g : Nat) (f : Nat → Int32 → Int32) (rp v t : Int32) (pos : Nat) (y w : Int32) : Nat × Int32 × Int32 :=
  if pos < 100 then
    if w = 1 then (pos, y, w)
    else if w = 2 then (if pos < g then goK f rp v t pos 0 w else (pos, y, 1))
    else (if 0 < pos ∧ pos - 1 < g then goK f rp v t (pos - 1) 0 w else (pos, y, 1))
  else goK f rp v t (pos - 100) y w
def posOk (g pos : Nat) : Prop := pos ≤ g ∨ (100 ≤ pos ∧ pos < 100 + g)
theorem goK_ok {f : Nat → Int32 → Int32} {rp v t : Int32} {k g : Nat} {y w : Int32} (h : k < g) : posOk g (goK f rp v t k y w).1 := by
  unfold goK posOk
  split
  · right; exact ⟨by simp, by simpa using h⟩
  · left; dsimp only; split <;> omega
theorem stP_ok {f : Nat → Int32 → Int32} {rp v t : Int32} {pos g : Nat} {y w : Int32} (hg : g ≤ 8) (h : posOk g pos) : posOk g (stP g f rp v t pos y w).1 := by
  unfold stP
  split
  · split
    · exact h
    · split
      · split
        · exact goK_ok (by assumption)
        · exact h
      · split
        · exact goK_ok (by omega)
        · exact h
  · refine goK_ok ?_
    rcases h with h | h <;> omega
theorem inB_pred {pos g : Nat} (hp : pos < 1000000) : inB (nI pos - 1) g ↔ 0 < pos ∧ pos - 1 < g := by
  unfold inB
  rw [pred_toInt hp]
  omega
theorem dn_top {pos : Nat} (h : 0 < pos) : 100 + (nI pos - 1) = nI (pos + 99) := by
  have h1 : nI pos - 1 = nI (pos - 1) := pk_sub (a := pos) (b := 1) h
  rw [h1]
  exact n_add (x := 100) rfl rfl (by omega)
/-- WHERE: f the yards of a gap now -/
def whP (f : Nat → Int32) (pos : Nat) (y w : Int32) : Int32 := if pos < 100 then sumI f pos else sumI f (pos - 100) + (if w = 2 then mn y (f (pos - 100)) else f (pos - 100) - mn y (f (pos - 100)))
