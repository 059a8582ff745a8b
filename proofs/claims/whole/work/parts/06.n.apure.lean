/-- the class's reader (at, kind, place) against the reference's (a, w) -/
def rdR (n i fk : Nat) (fa : Int32) (a w : Nat) : Prop := fk = w ∧ i ≤ n ∧ w ≤ 4 ∧ (w = 0 → i = a ∧ fa = -1) ∧ (¬ w = 0 → fa = nI a)
section
variable {tx : Nat → Int32} {n i fk a w i2 fk2 fr e : Nat} {fa fa2 lo hi v : Int32}
theorem rdR_le (h : rdR n i fk fa a w) : i ≤ n := h.2.1
theorem rdR_k (h : rdR n i fk fa a w) : fk ≤ 4 := by have := h.1; have := h.2.2.1; omega
theorem rdR_sk (h : rdR n i fk fa a w) (h2 : i2 = sk tx n i) : rdR n i2 fk fa (skS tx n w a) w := by
  refine ⟨h.1, ?_, h.2.2.1, fun z => ?_, fun z => ?_⟩
  · rw [h2]; exact sk_le h.2.1
  · obtain ⟨z1, z2⟩ := h.2.2.2.1 z
    refine ⟨?_, z2⟩
    rw [h2, skS_t z, z1]
  · rw [skS_f z]; exact h.2.2.2.2 z
theorem rdR_bad {kd : Nat} (h : rdR n i fk fa a w) (hi2 : i2 ≤ n) (hw : w = 0) (hk1 : ¬ kd = 0) (hk : kd ≤ 4) (h1 : fk2 = if fk = 0 then kd else fk) (h2 : fa2 = if fk = 0 then nI fr else fa) : rdR n i2 fk2 fa2 fr kd := by
  have h0 : fk = 0 := h.1.trans hw
  rw [if_pos h0] at h1 h2
  exact ⟨h1, hi2, hk, fun z => absurd z hk1, fun _ => h2⟩
theorem rdR_junk {kd : Nat} (h : rdR n i fk fa a w) (hi2 : i2 ≤ n) (hw : ¬ w = 0) (h1 : fk2 = if fk = 0 then kd else fk) (h2 : fa2 = if fk = 0 then nI fr else fa) : rdR n i2 fk2 fa2 a w := by
  have h0 : ¬ fk = 0 := by rw [h.1]; exact hw
  rw [if_neg h0] at h1 h2
  exact ⟨h1.trans h.1, hi2, h.2.2.1, fun z => absurd z hw, fun z => h2.trans (h.2.2.2.2 z)⟩
theorem rdR_keep (h : rdR n i fk fa a w) (hi2 : i2 ≤ n) (hw : ¬ w = 0) : rdR n i2 fk fa a w :=
  ⟨h.1, hi2, h.2.2.1, fun z => absurd z hw, h.2.2.2.2⟩
theorem rdR_go (h : rdR n i fk fa a w) (hi2 : i2 ≤ n) (hw : w = 0) : rdR n i2 fk fa i2 0 :=
  ⟨h.1.trans hw, hi2, Nat.zero_le _, fun _ => ⟨rfl, (h.2.2.2.1 hw).2⟩, fun z => absurd rfl z⟩
theorem rdR_nm1 (h : rdR n i fk fa a w) (hi2 : i2 ≤ n) (hf : fr = sk tx n i) (hd : ¬ wIn (lk tx n fr) 48 57) (h1 : fk2 = if fk = 0 then 1 else fk) (h2 : fa2 = if fk = 0 then nI fr else fa) : rdR n i2 fk2 fa2 (nmS tx n lo hi a w).1 (nmS tx n lo hi a w).2.1 ∧ (fk2 = 0 → v = (nmS tx n lo hi a w).2.2) := by
  by_cases hw : w = 0
  · have e := nm_1 (lo := lo) (hi := hi) hw (show fr = sk tx n a by rw [hf, (h.2.2.2.1 hw).1]) hd
    rw [e]
    refine ⟨rdR_bad (kd := 1) (fr := fr) h hi2 hw (by decide) (by decide) h1 h2, fun z => ?_⟩
    rw [h1, if_pos (h.1.trans hw)] at z; exact absurd z (by decide)
  · rw [nm_w hw]
    refine ⟨rdR_junk h hi2 hw h1 h2, fun z => ?_⟩
    rw [h1, if_neg (by rw [h.1]; exact hw), h.1] at z; exact absurd z hw
theorem rdR_nm2 (h : rdR n i fk fa a w) (hi2 : i2 ≤ n) (hf : fr = sk tx n i) (hd : wIn (lk tx n fr) 48 57) (hs : sc tx n fr = (e, v)) (hb : 3 < e - fr ∨ ¬ wIn v lo hi) (h1 : fk2 = if fk = 0 then 2 else fk) (h2 : fa2 = if fk = 0 then nI fr else fa) : rdR n i2 fk2 fa2 (nmS tx n lo hi a w).1 (nmS tx n lo hi a w).2.1 ∧ (fk2 = 0 → v = (nmS tx n lo hi a w).2.2) := by
  by_cases hw : w = 0
  · have e := nm_2 hw (show fr = sk tx n a by rw [hf, (h.2.2.2.1 hw).1]) hd hs hb
    rw [e]
    exact ⟨rdR_bad (kd := 2) (fr := fr) h hi2 hw (by decide) (by decide) h1 h2, fun _ => rfl⟩
  · rw [nm_w hw]
    refine ⟨rdR_junk h hi2 hw h1 h2, fun z => ?_⟩
    rw [h1, if_neg (by rw [h.1]; exact hw), h.1] at z; exact absurd z hw
theorem rdR_nm0 (h : rdR n i fk fa a w) (hi2 : e ≤ n) (hf : fr = sk tx n i) (hd : wIn (lk tx n fr) 48 57) (hs : sc tx n fr = (e, v)) (hb : ¬ 3 < e - fr) (hv : wIn v lo hi) : rdR n e fk fa (nmS tx n lo hi a w).1 (nmS tx n lo hi a w).2.1 ∧ (fk = 0 → v = (nmS tx n lo hi a w).2.2) := by
  by_cases hw : w = 0
  · have e := nm_0 hw (show fr = sk tx n a by rw [hf, (h.2.2.2.1 hw).1]) hd hs hb hv
    rw [e]
    exact ⟨rdR_go h hi2 hw, fun _ => rfl⟩
  · rw [nm_w hw]
    exact ⟨rdR_keep h hi2 hw, fun z => absurd (h.1.symm.trans z) hw⟩
theorem rdR_wd0 (h : rdR n i fk fa a w) (hf : fr = sk tx n i) (hl : lk tx n fr = 59) (hi2 : fr + 1 ≤ n) : rdR n (fr + 1) fk fa (wdS tx n 59 a w).1 (wdS tx n 59 a w).2 := by
  unfold wdS
  by_cases hw : w = 0
  · rw [if_pos hw, ← (h.2.2.2.1 hw).1, ← hf, if_pos hl]
    exact rdR_go h hi2 hw
  · rw [if_neg hw]
    exact rdR_keep h hi2 hw
theorem rdR_wd1 (h : rdR n i fk fa a w) (hf : fr = sk tx n i) (hl : ¬ lk tx n fr = 59) (hi2 : fr ≤ n) (h1 : fk2 = if fk = 0 then 1 else fk) (h2 : fa2 = if fk = 0 then nI fr else fa) : rdR n fr fk2 fa2 (wdS tx n 59 a w).1 (wdS tx n 59 a w).2 := by
  unfold wdS
  by_cases hw : w = 0
  · rw [if_pos hw, ← (h.2.2.2.1 hw).1, ← hf, if_neg hl]
    exact rdR_bad (kd := 1) (fr := fr) h hi2 hw (by decide) (by decide) h1 h2
  · rw [if_neg hw]
    exact rdR_junk h hi2 hw h1 h2
theorem lk_ne_end (h : ¬ i < n) : ¬ wIn (lk tx n i) 48 57 := fun z => absurd (dg_lt z) h
end
