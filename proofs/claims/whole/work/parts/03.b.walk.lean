/-! One walk of minutes, step by step -/
section WT
variable {f : Nat → Int32 → Int32} {rp v t y q : Int32} {b h m M : Nat} {T0 : Option Nat}
theorem wT_done (n : Nat) : wT f rp v t b n b y m = some m := by
  cases n <;> simp [wT]
theorem wS_ua (hw : wT f rp v t b (M - m) h y m = T0) (hm : m < M) (h1 : h < b) (hq : pce rp v h = q) (h2 : ¬ y + q < f h (t + nI m)) : wT f rp v t b (M - (m + 1)) (h + 1) 0 (m + 1) = T0 := by
  rw [← hw, show M - m = M - (m + 1) + 1 from by omega, wT, if_neg (Nat.ne_of_lt h1), if_pos h1, hq, if_pos (Int32.not_lt.mp h2)]
theorem wS_un (hw : wT f rp v t b (M - m) h y m = T0) (hm : m < M) (h1 : h < b) (hq : pce rp v h = q) (h2 : y + q < f h (t + nI m)) : wT f rp v t b (M - (m + 1)) h (y + q) (m + 1) = T0 := by
  rw [← hw, show M - m = M - (m + 1) + 1 from by omega, wT, if_neg (Nat.ne_of_lt h1), if_pos h1, hq, if_neg (Int32.not_le.mpr h2)]
theorem wS_da (hw : wT f rp v t b (M - m) h y m = T0) (hm : m < M) (h1 : b < h) (hq : pce rp v (h - 1) = q) (h2 : ¬ y + q < f (h - 1) (t + nI m)) : wT f rp v t b (M - (m + 1)) (h - 1) 0 (m + 1) = T0 := by
  rw [← hw, show M - m = M - (m + 1) + 1 from by omega, wT, if_neg (Nat.ne_of_gt h1), if_neg (Nat.not_lt.mpr (Nat.le_of_lt h1)), hq, if_pos (Int32.not_lt.mp h2)]
theorem wS_dn (hw : wT f rp v t b (M - m) h y m = T0) (hm : m < M) (h1 : b < h) (hq : pce rp v (h - 1) = q) (h2 : y + q < f (h - 1) (t + nI m)) : wT f rp v t b (M - (m + 1)) h (y + q) (m + 1) = T0 := by
  rw [← hw, show M - m = M - (m + 1) + 1 from by omega, wT, if_neg (Nat.ne_of_gt h1), if_neg (Nat.not_lt.mpr (Nat.le_of_lt h1)), hq, if_neg (Int32.not_le.mpr h2)]
theorem wT_end (hw : wT f rp v t b (M - m) b y m = T0) : nI m = rT T0 := by
  rw [← hw, wT_done]; rfl
theorem wT_out (hw : wT f rp v t b (M - m) h y m = T0) (hm : M ≤ m) (h1 : ¬ h = b) : (-1 : Int32) = rT T0 := by
  rw [← hw, show M - m = 0 from by omega, wT, if_neg h1]; rfl
end WT
theorem n_min {a b lo hi : Nat} (ha : a < 2147483648) (hb : b < 2147483648) (h : (a ≤ b ∧ lo = a ∧ hi = b) ∨ (b < a ∧ lo = b ∧ hi = a)) : (if nI b < nI a then nI b else nI a) = nI lo := by
  rcases h with ⟨h, rfl, rfl⟩ | ⟨h, rfl, rfl⟩
  · rw [if_neg (fun q => absurd (n_lt_of hb ha q) (by omega))]
  · rw [if_pos ((nI_ltI hb ha).mpr h)]
theorem n_max {a b lo hi : Nat} (ha : a < 2147483648) (hb : b < 2147483648) (h : (a ≤ b ∧ lo = a ∧ hi = b) ∨ (b < a ∧ lo = b ∧ hi = a)) : (if nI a < nI b then nI b else nI a) = nI hi := by
  rcases h with ⟨h, rfl, rfl⟩ | ⟨h, rfl, rfl⟩
  · by_cases e : lo = hi
    · subst e; rw [if_neg (fun q => absurd (n_lt_of ha ha q) (by omega))]
    · rw [if_pos ((nI_ltI ha hb).mpr (by omega))]
  · rw [if_neg (fun q => absurd (n_lt_of ha hb q) (by omega))]
theorem gB_in {lo hi k : Nat} (h1 : lo ≤ k) (h2 : k < hi) : gB lo hi (k + 1) = gB lo hi k ||| ((1 : Int32) <<< (nI k &&& 31)) := if_pos ⟨h1, h2⟩
theorem gB_out {lo hi k : Nat} (h : ¬ (lo ≤ k ∧ k < hi)) : gB lo hi (k + 1) = gB lo hi k := if_neg h
theorem wT_end' {f : Nat → Int32 → Int32} {rp v t y : Int32} {b h m M : Nat} {T0 : Option Nat} (hw : wT f rp v t b (M - m) h y m = T0) (e : h = b) : nI m = rT T0 := by subst e; exact wT_end hw
