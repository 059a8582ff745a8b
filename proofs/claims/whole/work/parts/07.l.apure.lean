/-! The fewest ropes: the class tries the sets that lie on the way alone, the reference all of them -/
theorem i_and (a b : Nat) : nI a &&& nI b = nI (a &&& b) := by
  apply Int32.toBitVec_inj.1
  show BitVec.ofNat 32 a &&& BitVec.ofNat 32 b = BitVec.ofNat 32 (a &&& b)
  apply BitVec.eq_of_getLsbD_eq
  intro i hi
  simp [hi]
theorem b_m1 (i : Nat) : (-1#32 : BitVec 32).getLsbD i = decide (i < 32) := by
  rw [show (-1#32 : BitVec 32) = BitVec.allOnes 32 from by decide, BitVec.getLsbD_allOnes]
theorem i_sub (x y : Int32) : x &&& (y ^^^ -1) = x ^^^ (x &&& y) := by
  apply Int32.toBitVec_inj.1
  show x.toBitVec &&& (y.toBitVec ^^^ (-1#32)) = x.toBitVec ^^^ (x.toBitVec &&& y.toBitVec)
  apply BitVec.eq_of_getLsbD_eq
  intro i hi
  rw [BitVec.getLsbD_and, BitVec.getLsbD_xor, BitVec.getLsbD_xor, BitVec.getLsbD_and, b_m1, decide_eq_true hi]
  cases x.toBitVec.getLsbD i <;> cases y.toBitVec.getLsbD i <;> rfl
theorem i_dm (x y : Int32) : (x &&& (y ^^^ -1)) ^^^ -1 = (x ^^^ -1) ||| y := by
  apply Int32.toBitVec_inj.1
  show (x.toBitVec &&& (y.toBitVec ^^^ (-1#32))) ^^^ (-1#32) = (x.toBitVec ^^^ (-1#32)) ||| y.toBitVec
  apply BitVec.eq_of_getLsbD_eq
  intro i hi
  rw [BitVec.getLsbD_xor, BitVec.getLsbD_and, BitVec.getLsbD_xor, BitVec.getLsbD_or, BitVec.getLsbD_xor, b_m1, decide_eq_true hi]
  cases x.toBitVec.getLsbD i <;> cases y.toBitVec.getLsbD i <;> rfl
theorem i_ao (x y z : Int32) : x &&& (y ||| z) = (x &&& y) ||| (x &&& z) := by
  apply Int32.toBitVec_inj.1
  show x.toBitVec &&& (y.toBitVec ||| z.toBitVec) = (x.toBitVec &&& y.toBitVec) ||| (x.toBitVec &&& z.toBitVec)
  apply BitVec.eq_of_getLsbD_eq
  intro i hi
  rw [BitVec.getLsbD_and, BitVec.getLsbD_or, BitVec.getLsbD_or, BitVec.getLsbD_and, BitVec.getLsbD_and]
  cases x.toBitVec.getLsbD i <;> cases y.toBitVec.getLsbD i <;> cases z.toBitVec.getLsbD i <;> rfl
theorem hasR_or {a b : Int32} {k : Nat} : hasR (a ||| b) k ↔ hasR a k ∨ hasR b k := by
  show ((a ||| b) >>> (nI k &&& 31)) &&& 1 = 1 ↔ (a >>> (nI k &&& 31)) &&& 1 = 1 ∨ (b >>> (nI k &&& 31)) &&& 1 = 1
  rw [Int32.shiftRight_or, Int32.and_comm _ 1, i_ao, Int32.and_comm 1 (a >>> (nI k &&& 31)), Int32.and_comm 1 (b >>> (nI k &&& 31))]
  rcases and1 (a >>> (nI k &&& 31)) with h1 | h1 <;> rcases and1 (b >>> (nI k &&& 31)) with h2 | h2 <;> rw [h1, h2] <;> decide
theorem hasR_bit : ∀ s, s < 256 → ∀ k, k < 8 → (hasR (nI s) k ↔ s.testBit k = true) := by decide +kernel
def gN (lo hi : Nat) : Nat → Nat
  | 0 => 0
  | k + 1 => if lo ≤ k ∧ k < hi then gN lo hi k ||| 2 ^ k else gN lo hi k
theorem gB_gN : ∀ lo, lo < 9 → ∀ hi, hi < 9 → ∀ g, g < 9 → gB lo hi g = nI (gN lo hi g) ∧ gN lo hi g < 2 ^ g := by decide +kernel
theorem gN_bit (lo hi : Nat) : ∀ g k, lo ≤ k → k < hi → k < g → (gN lo hi g).testBit k = true
  | 0, _, _, _, h => absurd h (by omega)
  | g + 1, k, h1, h2, h3 => by
    by_cases e : k = g
    · subst e
      rw [gN, if_pos ⟨h1, h2⟩, Nat.testBit_or, Nat.testBit_two_pow_self, Bool.or_true]
    · have ih := gN_bit lo hi g k h1 h2 (by omega)
      rw [gN]
      split
      · rw [Nat.testBit_or, ih, Bool.true_or]
      · exact ih
def pcN (s : Nat) : Nat → Nat
  | 0 => 0
  | k + 1 => pcN s k + (if s.testBit k = true then 1 else 0)
theorem pc_le (s m : Nat) : ∀ n, pcN (s &&& m) n ≤ pcN s n
  | 0 => Nat.le_refl _
  | n + 1 => by
    have := pc_le s m n
    rw [pcN, pcN, Nat.testBit_and]
    cases s.testBit n <;> cases m.testBit n <;> simp <;> omega
theorem pc_lt (s m : Nat) : ∀ n k, k < n → s.testBit k = true → m.testBit k = false → pcN (s &&& m) n < pcN s n
  | 0, _, h, _, _ => absurd h (by omega)
  | n + 1, k, h, h1, h2 => by
    by_cases e : k = n
    · subst e
      have := pc_le s m k
      rw [pcN, pcN, Nat.testBit_and, h1, h2]
      simp; omega
    · have := pc_lt s m n k (by omega) h1 h2
      rw [pcN, pcN, Nat.testBit_and]
      cases s.testBit n <;> cases m.testBit n <;> simp <;> omega
theorem pc_ne {s m : Nat} (hs : s < 256) (h : ¬ s &&& m = s) : pcN (s &&& m) 8 < pcN s 8 := by
  have : ∃ k, k < 8 ∧ s.testBit k = true ∧ m.testBit k = false := by
    refine Classical.byContradiction (fun z => h ?_)
    apply Nat.eq_of_testBit_eq
    intro i
    rw [Nat.testBit_and]
    by_cases hi : i < 8
    · cases h1 : s.testBit i
      · rfl
      · cases h2 : m.testBit i
        · exact absurd ⟨i, hi, h1, h2⟩ z
        · rfl
    · rw [Nat.testBit_lt_two_pow (Nat.lt_of_lt_of_le hs (Nat.pow_le_pow_right (n := 2) (i := 8) (by omega) (by omega)))]; rfl
  obtain ⟨k, h1, h2, h3⟩ := this
  exact pc_lt s m 8 k h1 h2 h3
theorem pc_8 (s : Nat) : pcN s 8 ≤ 8 := by
  have : ∀ n, pcN s n ≤ n := by
    intro n
    induction n with
    | zero => exact Nat.le_refl _
    | succ n ih => rw [pcN]; split <;> omega
  exact this 8
theorem ones_pc : ∀ s, s < 256 → onesTo (nI s) 8 = nI (pcN s 8) := by decide +kernel
def usr (x n : Int32) : Int32 := (x.toUInt32 >>> (n.toUInt32 &&& Int32.toUInt32 31)).toInt32
def bc1 (x : Int32) : Int32 := x - (usr x 1 &&& 1431655765)
def bc2 (x : Int32) : Int32 := (bc1 x &&& 858993459) + (usr (bc1 x) 2 &&& 858993459)
def bc3 (x : Int32) : Int32 := (bc2 x + usr (bc2 x) 4) &&& 252645135
def bc4 (x : Int32) : Int32 := bc3 x + usr (bc3 x) 8
def bc5 (x : Int32) : Int32 := bc4 x + usr (bc4 x) 16
def bitC (x : Int32) : Int32 := bc5 x &&& 63
theorem bitC_pc : ∀ s, s < 256 → bitC (nI s) = nI (pcN s 8) := by decide +kernel
/-- the class's choice among the sets below s -/
def rpC (p : Nat → Int32) (us : Int32) : Nat → Int32
  | 0 => -1
  | s + 1 => if (rpC p us s = -1 ∨ bitC (nI s) < bitC (rpC p us s)) ∧ nI s &&& (us ^^^ -1) = 0 ∧ ¬ p s = -1 then nI s else rpC p us s
theorem rpC_in {p : Nat → Int32} {us b : Int32} {s : Nat} (h : b = rpC p us s) (h1 : b = -1 ∨ bitC (nI s) < bitC b) (h2 : nI s &&& (us ^^^ -1) = 0) (h3 : ¬ p s = -1) : nI s = rpC p us (s + 1) := by
  rw [rpC, ← h, if_pos ⟨h1, h2, h3⟩]
theorem rpC_out {p : Nat → Int32} {us b : Int32} {s : Nat} (h : b = rpC p us s) (h1 : ¬ ((b = -1 ∨ bitC (nI s) < bitC b) ∧ nI s &&& (us ^^^ -1) = 0 ∧ ¬ p s = -1)) : b = rpC p us (s + 1) := by
  rw [rpC, ← h, if_neg h1]
section RS
variable {p : Nat → Int32} {rp us : Int32} {m g : Nat}
theorem rop_val : ∀ s, s ≤ 256 → ropTo p rp s = -1 ∨ ∃ b, b < 256 ∧ ropTo p rp s = nI b
  | 0, _ => Or.inl rfl
  | s + 1, h => by
    rw [ropTo]
    split
    · exact Or.inr ⟨s, by omega, rfl⟩
    · exact rop_val s (by omega)
theorem rop_min : ∀ s, s ≤ 256 → ∀ z, z < s → nI z &&& rp = 0 → ¬ p z = -1 → ∃ b, b < 256 ∧ ropTo p rp s = nI b ∧ pcN b 8 ≤ pcN z 8
  | 0, _, _, h, _, _ => absurd h (by omega)
  | s + 1, hs, z, hz, h1, h2 => by
    by_cases e : z = s
    · subst e
      rw [ropTo]
      by_cases hc : (nI z &&& rp = 0 ∧ (ropTo p rp z = -1 ∨ onesTo (nI z) 8 < onesTo (ropTo p rp z) 8)) ∧ ¬ p z = -1
      · rw [if_pos hc]; exact ⟨z, by omega, rfl, Nat.le_refl _⟩
      · rw [if_neg hc]
        have hn : ¬ (ropTo p rp z = -1 ∨ onesTo (nI z) 8 < onesTo (ropTo p rp z) 8) := fun q => hc ⟨⟨h1, q⟩, h2⟩
        rcases rop_val (p := p) (rp := rp) z (by omega) with q | ⟨b, hb, q⟩
        · exact absurd (Or.inl q) hn
        · refine ⟨b, hb, q, ?_⟩
          have hl : ¬ onesTo (nI z) 8 < onesTo (nI b) 8 := fun q2 => hn (Or.inr (by rw [q]; exact q2))
          rw [ones_pc z (by omega), ones_pc b hb] at hl
          have := pc_8 z; have := pc_8 b
          exact n_nlt_of (by omega) (by omega) hl
    · obtain ⟨b, hb, q, hle⟩ := rop_min s (by omega) z (by omega) h1 h2
      rw [ropTo]
      by_cases hc : (nI s &&& rp = 0 ∧ (ropTo p rp s = -1 ∨ onesTo (nI s) 8 < onesTo (ropTo p rp s) 8)) ∧ ¬ p s = -1
      · rw [if_pos hc]
        refine ⟨s, by omega, rfl, ?_⟩
        rcases hc.1.2 with q2 | q2
        · rw [q] at q2; exact absurd q2 (nI_ne_m1 (by omega))
        · rw [q, ones_pc s (by omega), ones_pc b hb] at q2
          have := pc_8 s; have := pc_8 b
          have := n_lt_of (by omega) (by omega) q2
          omega
      · rw [if_neg hc]; exact ⟨b, hb, q, hle⟩
theorem rop_same (hm : m < 2 ^ g) (hg : g ≤ 8) (hp : ∀ s, s < 256 → p (s &&& m) = p s) (hu : ∀ s, s < 256 → (nI s &&& (us ^^^ -1) = 0 ↔ nI s &&& rp = 0 ∧ s &&& m = s)) : ∀ s, s ≤ 2 ^ g → rpC p us s = ropTo p rp s
  | 0, _ => rfl
  | s + 1, hs => by
    have hg2 : 2 ^ g ≤ 256 := Nat.pow_le_pow_right (n := 2) (by omega) hg
    have ih := rop_same hm hg hp hu s (by omega)
    rw [rpC, ropTo, ih]
    have hlt : ropTo p rp s = -1 ∨ (bitC (nI s) < bitC (ropTo p rp s) ↔ onesTo (nI s) 8 < onesTo (ropTo p rp s) 8) := by
      rcases rop_val (p := p) (rp := rp) s (by omega) with q | ⟨b, hb, q⟩
      · exact Or.inl q
      · right; rw [q, bitC_pc s (by omega), bitC_pc b hb, ones_pc s (by omega), ones_pc b hb]
    have hor : (ropTo p rp s = -1 ∨ bitC (nI s) < bitC (ropTo p rp s)) ↔ (ropTo p rp s = -1 ∨ onesTo (nI s) 8 < onesTo (ropTo p rp s) 8) := by
      rcases hlt with q | q
      · exact ⟨fun _ => Or.inl q, fun _ => Or.inl q⟩
      · rw [q]
    by_cases hc : (nI s &&& rp = 0 ∧ (ropTo p rp s = -1 ∨ onesTo (nI s) 8 < onesTo (ropTo p rp s) 8)) ∧ ¬ p s = -1
    · rw [if_pos hc]
      by_cases hsm : s &&& m = s
      · rw [if_pos ⟨hor.mpr hc.1.2, (hu s (by omega)).mpr ⟨hc.1.1, hsm⟩, hc.2⟩]
      · exfalso
        have hle : s &&& m ≤ s := Nat.and_le_left
        have h1 : nI (s &&& m) &&& rp = 0 := by
          rw [← i_and, Int32.and_comm (nI s), Int32.and_assoc, hc.1.1]; exact Int32.and_zero
        obtain ⟨b, hb, q, hle2⟩ := rop_min (p := p) (rp := rp) s (by omega) (s &&& m) (by omega) h1 (by rw [hp s (by omega)]; exact hc.2)
        have h3 := pc_ne (s := s) (m := m) (by omega) hsm
        rcases hc.1.2 with q2 | q2
        · rw [q] at q2; exact absurd q2 (nI_ne_m1 (by omega))
        · rw [q, ones_pc s (by omega), ones_pc b hb] at q2
          have := pc_8 s; have := pc_8 b
          have := n_lt_of (by omega) (by omega) q2
          omega
    · rw [if_neg hc, if_neg (fun z => hc ⟨⟨((hu s (by omega)).mp z.2.1).1, hor.mp z.1⟩, z.2.2⟩)]
theorem rop_rest (hm : m < 2 ^ g) (hu : ∀ s, s < 256 → (nI s &&& (us ^^^ -1) = 0 ↔ nI s &&& rp = 0 ∧ s &&& m = s)) : ∀ d, 2 ^ g + d ≤ 256 → rpC p us (2 ^ g + d) = rpC p us (2 ^ g)
  | 0, _ => rfl
  | d + 1, h => by
    rw [show 2 ^ g + (d + 1) = 2 ^ g + d + 1 from rfl, rpC, if_neg, rop_rest hm hu d (by omega)]
    intro z
    have h1 := ((hu (2 ^ g + d) (by omega)).mp z.2.1).2
    have h2 : (2 ^ g + d) &&& m ≤ m := Nat.and_le_right
    omega
theorem rop_all (hm : m < 2 ^ g) (hg : g ≤ 8) (hp : ∀ s, s < 256 → p (s &&& m) = p s) (hu : ∀ s, s < 256 → (nI s &&& (us ^^^ -1) = 0 ↔ nI s &&& rp = 0 ∧ s &&& m = s)) : rpC p us 256 = ropTo p rp (2 ^ g) := by
  have hg2 : 2 ^ g ≤ 256 := Nat.pow_le_pow_right (n := 2) (by omega) hg
  rw [← rop_same hm hg hp hu (2 ^ g) (Nat.le_refl _), ← rop_rest hm hu (256 - 2 ^ g) (by omega), show 2 ^ g + (256 - 2 ^ g) = 256 from by omega]
end RS
theorem us_iff {rp : Int32} {m s : Nat} (hs : s < 256) : nI s &&& ((nI m &&& (rp ^^^ -1)) ^^^ -1) = 0 ↔ nI s &&& rp = 0 ∧ s &&& m = s := by
  have hle : s &&& m ≤ s := Nat.and_le_left
  rw [i_dm, i_ao, Int32.or_eq_zero_iff, i_sub, Int32.xor_eq_zero_iff, i_and]
  exact ⟨fun h => ⟨h.2, (n_eq_of (by omega) (by omega) h.1).symm⟩, fun h => ⟨congrArg nI h.2.symm, h.1⟩⟩
theorem rop_end {F : Nat → Int32 → Int32} {rp v t : Int32} {a b n g lo hi : Nat} (hg : g ≤ 8) (ha : a ≤ g) (hb : b ≤ g) (hl : (a ≤ b ∧ lo = a ∧ hi = b) ∨ (b < a ∧ lo = b ∧ hi = a)) :
    rpC (fun s => rT (wT F (rp ||| nI s) v t b n a 0 0)) (gB lo hi g &&& (rp ^^^ -1)) 256 = ropTo (fun s => rT (wT F (rp ||| nI s) v t b n a 0 0)) rp (2 ^ g) := by
  obtain ⟨h1, h2⟩ := gB_gN lo (by omega) hi (by omega) g (by omega)
  rw [h1]
  refine rop_all (m := gN lo hi g) h2 hg (fun s hs => ?_) (fun s hs => us_iff hs)
  have hle : s &&& gN lo hi g ≤ s := Nat.and_le_left
  refine congrArg rT (wT_rp (lo := lo) (hi := hi) (fun k hk1 hk2 => ?_) n a 0 0 (by omega) (by omega) (by omega) (by omega))
  have e1 : hasR (nI (s &&& gN lo hi g)) k ↔ hasR (nI s) k := by
    rw [hasR_bit _ (by omega) k (by omega), hasR_bit s hs k (by omega), Nat.testBit_and, gN_bit lo hi g k hk1 hk2 (by omega), Bool.and_true]
  have e2 : hasR (rp ||| nI (s &&& gN lo hi g)) k ↔ hasR (rp ||| nI s) k := by
    rw [hasR_or, hasR_or, e1]
  unfold pce
  by_cases q : hasR (rp ||| nI s) k
  · rw [if_pos (e2.mpr q), if_pos q]
  · rw [if_neg (fun z => q (e2.mp z)), if_neg q]
