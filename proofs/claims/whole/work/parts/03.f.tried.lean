/-! What is tried: shared -/
def hO (pos : Nat) (w : Int32) : Nat := if pos < 100 then pos else if w = 2 then pos - 100 else pos - 99
section TK
variable {g b m M pos pos2 : Nat} {F : Nat → Int32 → Int32} {rp v t y y2 w2 wx : Int32} {T0 : Option Nat}
theorem tk_up (hg : g ≤ 8) (hb : b ≤ g) (hpk : posOk g pos) (hy0 : pos < 100 → y = 0) (hd : hO pos 2 < b) (hm : m < M) (hw : wT F rp v t b (M - m) (hO pos 2) y m = T0) (hs : (pos2, y2, w2) = stP g F rp v (t + nI m) pos y 2) :
    w2 = 2 ∧ posOk g pos2 ∧ (pos2 < 100 → y2 = 0) ∧ wT F rp v t b (M - (m + 1)) (hO pos2 2) y2 (m + 1) = T0 ∧ (pos2 = b ∨ hO pos2 2 < b) := by
  have key : ∀ (k : Nat), hO pos 2 = k → k < g → (pos2, y2, w2) = goK F rp v (t + nI m) k y 2 → w2 = 2 ∧ posOk g pos2 ∧ (pos2 < 100 → y2 = 0) ∧ wT F rp v t b (M - (m + 1)) (hO pos2 2) y2 (m + 1) = T0 ∧ (pos2 = b ∨ hO pos2 2 < b) := by
    intro k hk hkg h1
    rw [hk] at hd hw
    unfold goK at h1
    by_cases hc : y + pce rp v k < F k (t + nI m)
    · rw [if_pos hc] at h1
      obtain ⟨rfl, h2⟩ := Prod.mk.inj h1
      obtain ⟨rfl, rfl⟩ := Prod.mk.inj h2
      have e : hO (100 + k) 2 = k := by unfold hO; rw [if_neg (by omega), if_pos rfl]; omega
      refine ⟨rfl, Or.inr ⟨by omega, by omega⟩, fun h => absurd h (by omega), ?_, Or.inr (by omega)⟩
      rw [e]
      exact wS_un hw hm hd rfl hc
    · rw [if_neg hc, if_pos rfl] at h1
      obtain ⟨rfl, h2⟩ := Prod.mk.inj h1
      obtain ⟨rfl, rfl⟩ := Prod.mk.inj h2
      have e : hO (k + 1) 2 = k + 1 := by unfold hO; rw [if_pos (by omega)]
      refine ⟨rfl, Or.inl (by omega), fun _ => rfl, ?_, by omega⟩
      rw [e]
      exact wS_ua hw hm hd rfl hc
  unfold stP at hs
  by_cases hp : pos < 100
  · have e : hO pos 2 = pos := by unfold hO; rw [if_pos hp]
    rw [if_pos hp, if_neg (by decide), if_pos rfl, if_pos (by omega)] at hs
    have hy := hy0 hp
    subst hy
    exact key pos e (by omega) hs
  · have e : hO pos 2 = pos - 100 := by unfold hO; rw [if_neg hp, if_pos rfl]
    rw [if_neg hp] at hs
    exact key (pos - 100) e (by omega) hs
theorem tk_dn (hg : g ≤ 8) (hb : b ≤ g) (hpk : posOk g pos) (hy0 : pos < 100 → y = 0) (hd : b < hO pos 0) (hm : m < M) (hw : wT F rp v t b (M - m) (hO pos 0) y m = T0) (hs : (pos2, y2, w2) = stP g F rp v (t + nI m) pos y 0) :
    w2 = 0 ∧ posOk g pos2 ∧ (pos2 < 100 → y2 = 0) ∧ wT F rp v t b (M - (m + 1)) (hO pos2 0) y2 (m + 1) = T0 ∧ (pos2 = b ∨ b < hO pos2 0) := by
  have key : ∀ (k : Nat), hO pos 0 = k + 1 → k < g → (pos2, y2, w2) = goK F rp v (t + nI m) k y 0 → w2 = 0 ∧ posOk g pos2 ∧ (pos2 < 100 → y2 = 0) ∧ wT F rp v t b (M - (m + 1)) (hO pos2 0) y2 (m + 1) = T0 ∧ (pos2 = b ∨ b < hO pos2 0) := by
    intro k hk hkg h1
    rw [hk] at hd hw
    unfold goK at h1
    by_cases hc : y + pce rp v k < F k (t + nI m)
    · rw [if_pos hc] at h1
      obtain ⟨rfl, h2⟩ := Prod.mk.inj h1
      obtain ⟨rfl, rfl⟩ := Prod.mk.inj h2
      have e : hO (100 + k) 0 = k + 1 := by unfold hO; rw [if_neg (by omega), if_neg (by decide)]; omega
      refine ⟨rfl, Or.inr ⟨by omega, by omega⟩, fun h => absurd h (by omega), ?_, Or.inr (by omega)⟩
      rw [e]
      exact wS_dn hw hm hd (q := pce rp v k) rfl hc
    · rw [if_neg hc, if_neg (by decide)] at h1
      obtain ⟨rfl, h2⟩ := Prod.mk.inj h1
      obtain ⟨rfl, rfl⟩ := Prod.mk.inj h2
      have e : hO pos2 0 = pos2 := by unfold hO; rw [if_pos (by omega)]
      refine ⟨rfl, Or.inl (by omega), fun _ => rfl, ?_, by omega⟩
      rw [e]
      exact wS_da hw hm hd (q := pce rp v pos2) rfl hc
  unfold stP at hs
  by_cases hp : pos < 100
  · have e : hO pos 0 = pos := by unfold hO; rw [if_pos hp]
    rw [if_pos hp, if_neg (by decide), if_neg (by decide), if_pos (by rcases hpk with h | h <;> omega)] at hs
    have hy := hy0 hp
    subst hy
    exact key (pos - 1) (by omega) (by rcases hpk with h | h <;> omega) hs
  · have e : hO pos 0 = pos - 99 := by unfold hO; rw [if_neg hp, if_neg (by decide)]
    rw [if_neg hp] at hs
    exact key (pos - 100) (by omega) (by rcases hpk with h | h <;> omega) hs
theorem tk_step (hg : g ≤ 8) (hb : b ≤ g) (hpk : posOk g pos) (hy0 : pos < 100 → y = 0) (hd : (wx = 2 ∧ hO pos wx < b) ∨ (wx = 0 ∧ b < hO pos wx)) (hm : m < M) (hw : wT F rp v t b (M - m) (hO pos wx) y m = T0) (hs : (pos2, y2, w2) = stP g F rp v (t + nI m) pos y wx) :
    w2 = wx ∧ posOk g pos2 ∧ (pos2 < 100 → y2 = 0) ∧ wT F rp v t b (M - (m + 1)) (hO pos2 wx) y2 (m + 1) = T0 ∧ (pos2 = b ∨ (wx = 2 ∧ hO pos2 wx < b) ∨ (wx = 0 ∧ b < hO pos2 wx)) := by
  rcases hd with ⟨rfl, hd⟩ | ⟨rfl, hd⟩
  · obtain ⟨a1, a2, a3, a4, a5⟩ := tk_up hg hb hpk hy0 hd hm hw hs
    exact ⟨a1, a2, a3, a4, a5.elim Or.inl (fun h => Or.inr (Or.inl ⟨rfl, h⟩))⟩
  · obtain ⟨a1, a2, a3, a4, a5⟩ := tk_dn hg hb hpk hy0 hd hm hw hs
    exact ⟨a1, a2, a3, a4, a5.elim Or.inl (fun h => Or.inr (Or.inr ⟨rfl, h⟩))⟩
theorem tk_end (hb : b ≤ 8) (hw : wT F rp v t b (M - m) (hO b wx) y m = T0) : nI m = rT T0 := by
  have e : hO b wx = b := by unfold hO; rw [if_pos (by omega)]
  rw [e] at hw
  exact wT_end hw
theorem tk_out (h1 : ¬ hO pos wx = b) (hM : M ≤ m) (hw : wT F rp v t b (M - m) (hO pos wx) y m = T0) : (-1 : Int32) = rT T0 := wT_out hw hM h1
end TK
/-- one walker, n minutes on from t -/
def onW (g : Nat) (F : Nat → Int32 → Int32) (rp v t : Int32) (x : Nat × Int32 × Int32) : Nat → Nat × Int32 × Int32
  | 0 => x
  | n + 1 => stP g F rp v (t + nI n) (onW g F rp v t x n).1 (onW g F rp v t x n).2.1 (onW g F rp v t x n).2.2
theorem onW_ok {g : Nat} {F : Nat → Int32 → Int32} {rp v t : Int32} {x : Nat × Int32 × Int32} (hg : g ≤ 8) (h : posOk g x.1) (n : Nat) : posOk g (onW g F rp v t x n).1 := by
  induction n with
  | zero => exact h
  | succ n ih => exact stP_ok hg ih
/-- the first n below M from i on for which p holds; -1 if none -/
def fstN (p : Nat → Prop) [DecidablePred p] : Nat → Nat → Int32
  | 0, _ => -1
  | k + 1, i => if p i then nI i else fstN p k (i + 1)
theorem fst_in {p : Nat → Prop} [DecidablePred p] {M i : Nat} {T0 : Int32} (h : fstN p (M - i) i = T0) (hi : i < M) (hp : p i) : nI i = T0 := by
  rw [← h, show M - i = M - (i + 1) + 1 from by omega, fstN, if_pos hp]
theorem fst_on {p : Nat → Prop} [DecidablePred p] {M i : Nat} {T0 : Int32} (h : fstN p (M - i) i = T0) (hi : i < M) (hp : ¬ p i) : fstN p (M - (i + 1)) (i + 1) = T0 := by
  rw [← h, show M - i = M - (i + 1) + 1 from by omega, fstN, if_neg hp]
theorem fst_out {p : Nat → Prop} [DecidablePred p] {M i : Nat} {T0 : Int32} (h : fstN p (M - i) i = T0) (hi : M ≤ i) : (-1 : Int32) = T0 := by
  rw [← h, show M - i = 0 from by omega, fstN]
/-- two different ones of n -/
abbrev two (a b : Int32) (n : Nat) : Prop := inB a n ∧ inB b n ∧ ¬ a = b
