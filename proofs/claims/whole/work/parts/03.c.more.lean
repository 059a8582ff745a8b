theorem bI_congr {a b : Prop} [Decidable a] [Decidable b] (h : a ↔ b) : bI a = bI b := by
  by_cases q : a
  · rw [bI_t q, bI_t (h.mp q)]
  · rw [bI_f q, bI_f (fun z => q (h.mpr z))]
theorem pred_toInt {g : Nat} (hg : g < 1000000) : (nI g - 1).toInt = (g : Int) - 1 := by
  have := pk_sub_toInt (a := g) (b := 1) (by omega) (by omega)
  exact this
theorem wIn_inB {k : Int32} {g : Nat} (hg : g < 1000000) : wIn k 0 (nI g - 1) ↔ inB k g := by
  unfold wIn inB
  rw [Int32.le_iff_toInt_le, Int32.le_iff_toInt_le, pred_toInt hg, Int32.toInt_zero]
  omega
theorem wIn_inB0 {k : Int32} {g : Nat} (hg : 0 < g) (hg2 : g < 1000000) : wIn k 0 (nI (g - 1)) ↔ inB k g := by
  unfold wIn inB
  rw [Int32.le_iff_toInt_le, Int32.le_iff_toInt_le, nI_toInt (by omega), Int32.toInt_zero]
  omega
theorem nH_neg {wd : Nat} {y : Int32} (h : y / nI wd - 1 < 0) : 0 = nH wd y := by
  unfold nH
  rw [if_neg]
  rw [Int32.lt_iff_toInt_lt, Int32.toInt_zero] at *
  omega
theorem nH_pos {wd : Nat} {y : Int32} (h : ¬ y / nI wd - 1 < 0) : y / nI wd - 1 = nH wd y := by
  unfold nH
  by_cases q : 0 < y / nI wd - 1
  · rw [if_pos q]
  · rw [if_neg q]
    rw [Int32.lt_iff_toInt_lt, Int32.toInt_zero] at h q
    exact Int32.toInt_inj.mp (by rw [Int32.toInt_zero]; omega)
theorem mn_t {a b : Int32} (h : a < b) : a = mn a b := by rw [← mn_less, if_pos h]
theorem mn_f {a b : Int32} (h : ¬ a < b) : b = mn a b := by rw [← mn_less, if_neg h]
theorem wIn_t {x a b : Int32} (h1 : ¬ x < a) (h2 : ¬ b < x) : wIn x a b := ⟨Int32.not_lt.mp h1, Int32.not_lt.mp h2⟩
theorem wIn_f1 {x a b : Int32} (h1 : x < a) : ¬ wIn x a b := fun q => absurd h1 (Int32.not_lt.mpr q.1)
theorem wIn_f2 {x a b : Int32} (h1 : b < x) : ¬ wIn x a b := fun q => absurd h1 (Int32.not_lt.mpr q.2)
def onesTo (set : Int32) : Nat → Int32
  | 0 => 0
  | k + 1 => onesTo set k + (set >>> (nI k &&& 31) &&& 1)
