/-! The outer class: small words -/
theorem nar_c : ∀ n, n < 256 → vp_nar .char (nI n) = nI n := by decide +kernel
theorem nar_cl {x : Int32} (h : wIn x 0 255) : vp_nar .char (vp_nar .char x) = x := by
  obtain ⟨n, -, h2, rfl⟩ := wIn_ex 0 255 (by decide) (by decide) h
  rw [nar_c n (by omega), nar_c n (by omega)]
theorem and1 (x : Int32) : x &&& 1 = 0 ∨ x &&& 1 = 1 := by
  have key : ∀ b : BitVec 32, b &&& 1#32 = 0#32 ∨ b &&& 1#32 = 1#32 := by
    intro b
    have h1 : (b &&& 1#32).toNat = b.toNat % 2 := by
      rw [BitVec.toNat_and]; exact Nat.and_two_pow_sub_one_eq_mod b.toNat 1
    rcases (show b.toNat % 2 = 0 ∨ b.toNat % 2 = 1 by omega) with h | h
    · left; apply BitVec.eq_of_toNat_eq; rw [h1, h]; rfl
    · right; apply BitVec.eq_of_toNat_eq; rw [h1, h]; rfl
  rcases key x.toBitVec with h | h
  · left; exact Int32.toBitVec_inj.mp h
  · right; exact Int32.toBitVec_inj.mp h
theorem bit_t {r : Int32} {k : Nat} (h : hasR r k) : (1 : Int32) = r >>> (nI k &&& 31) &&& 1 := h.symm
theorem bit_f {r : Int32} {k : Nat} (h : ¬ hasR r k) : (0 : Int32) = r >>> (nI k &&& 31) &&& 1 := ((and1 _).resolve_right h).symm
theorem abs_alt (x : Int32) : (if 0 ≤ x then x else 0 - x) = if x < 0 then -x else x := by
  by_cases h : x < 0
  · rw [if_neg (Int32.not_le.mpr h), if_pos h, Int32.zero_sub]
  · rw [if_pos (Int32.not_lt.mp h), if_neg h]
theorem goN_pos {F : Nat → Int32 → Int32} {nw : Nat → Int32} {w z : Nat} {way : Int32} : goN F nw w way (3 * z + 2) = nw (3 * z + 2) := by
  unfold goN
  rw [upd_n (by omega)]
  split
  · rw [upd_n (by omega)]
  · rfl
theorem okS_goN {F : Nat → Int32 → Int32} {nw : Nat → Int32} {g wk w : Nat} {way : Int32} (h : okS g wk nw) : okS g wk (goN F nw w way) := by
  intro z hz
  obtain ⟨pos, h1, h2⟩ := h z hz
  exact ⟨pos, by rw [goN_pos]; exact h1, h2⟩
theorem rop_rel {c nw : Nat → Int32} {wk : Nat} {x : Int32} (h : scR c nw wk) : scR (upd c 1 x) (upd nw 1 x) wk := by
  refine ⟨by rw [upd_n (by omega), upd_n (by omega)]; exact h.1, by rw [upd_s, upd_s], fun w hw => ?_⟩
  obtain ⟨a1, a2, a3, a4⟩ := h.2.2 w hw
  exact ⟨by rw [upd_n (by omega), posF_upd (by omega)]; exact a1, by rw [upd_n (by omega), posF_upd (by omega)]; exact a2, by rw [upd_n (by omega), upd_n (by omega)]; exact a3, by rw [upd_n (by omega), upd_n (by omega)]; exact a4⟩
theorem inB2 {i : Int32} : wIn i 0 1 ↔ inB i 2 := wIn_inB0 (g := 2) (by decide) (by decide)
theorem inB2_n {k : Nat} (h : k < 2) : wIn (nI k) 0 1 := inB2.mpr ((inB_nI (by omega)).mpr h)
theorem jd_iff {c nw : Nat → Int32} {g wk bw bh : Nat} (hg : g ≤ 8) (h : scR c nw wk) (ho : okS g wk nw) (hw : bw < wk) (hb : bh < 100) : nw (3 * bw + 2) = nI bh ↔ c (4 * bw + 2) = nI bh := by
  obtain ⟨pos, h1, h2⟩ := ho bw hw
  have hl := posOk_lt hg h2
  rw [(scR_q h hw h1 hl).1, h1]
  by_cases hp : pos < 100
  · rw [hsN_t hp]
  · rw [hsN_f hp]
    exact ⟨fun e => absurd (n_eq_of (by omega) (by omega) e) (by omega), fun e => absurd e.symm (nI_ne_m1 (by omega))⟩
theorem jq_t {c nw bk : Nat → Int32} {g wk bw bh i : Nat} (hg : g ≤ 8) (h : scR c nw wk) (ho : okS g wk nw) (hw : bw < wk) (hwk : wk ≤ 4) (hb : bh < 100) (e1 : bk (2 * i) = nI bw) (e2 : bk (2 * i + 1) = nI bh) : bkQ nw bk i ↔ ¬ c (4 * bw + 2) = nI bh := by
  show (¬ nw (3 * (bk (2 * i)).toNatClampNeg + 2) = bk (2 * i + 1)) ↔ _
  rw [e1, e2, nI_clamp (by omega), jd_iff hg h ho hw hb]
theorem fits0 {P wd fn : Nat} {gp fd : Nat → Int32} {gr a b : Int32} {n : Nat} (h : (a, b, n) = spn (fun t => fsQ P wd fn gp fd gr (nI t)) (2 * P)) : spFits P wd fn gp fd gr 0 = nI n := by
  rw [spFits, if_pos ⟨by decide, by decide⟩, ← h]; rfl
theorem max_sum {A B C : Int32} : A + B + C = A + (B + C) := Int32.add_assoc _ _ _
theorem psh_of {n n2 : Nat} (h : (n < 30 ∧ n2 = n + 1) ∨ (n = 30 ∧ n2 = 30)) : n2 = psh n := by
  unfold psh; split <;> omega
