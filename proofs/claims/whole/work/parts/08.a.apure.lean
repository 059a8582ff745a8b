/-! What a text without a fault tells keeps the document's bounds -/
def okD (D : DR) : Prop := ∃ g wk gn wd : Nat, D.2.1 3 = nI g ∧ g ≤ 8 ∧ D.2.1 4 = nI wk ∧ wk ≤ 4 ∧ D.2.1 1 = nI gn ∧ gn ≤ 40 ∧ D.2.1 2 = nI wd ∧ wd ≤ 50 ∧ (¬ D.1 = 0 → 0 < wd) ∧ (∀ k, k < g → ∃ x, x ≤ 60 ∧ D.2.2.1 k = nI x) ∧ (∀ w, w < wk → ∃ h, h ≤ g ∧ D.2.2.2.1 w = nI h) ∧ (0 < g → ¬ D.1 = 0)
section OKD
variable {tx : Nat → Int32} {n : Nat}
theorem wd_0 {c : Int32} {i wr : Nat} (h : (wdS tx n c i wr).2 = 0) : wr = 0 := by
  refine Decidable.byContradiction (fun z => ?_)
  rw [wd_w z] at h
  exact z h
theorem nm_z {lo hi : Int32} {i wr : Nat} (h : (nmS tx n lo hi i wr).2.1 = 0) : wr = 0 ∧ wIn (nmS tx n lo hi i wr).2.2 lo hi := by
  constructor
  · refine Decidable.byContradiction (fun z => ?_)
    rw [nm_w z] at h
    exact z h
  · refine nm_ok (a := (nmS tx n lo hi i wr).1) (tx := tx) (n := n) (i := i) (wr := wr) ?_
    rw [← h]
theorem gp_okv : ∀ (f i wr k : Nat) (dg : Nat → Int32), k ≤ 8 → (wr = 0 → ∀ j, j < k → ∃ x, x ≤ 60 ∧ dg j = nI x) → (gpL tx n f i wr k dg).2.2.1 ≤ 8 ∧ ((gpL tx n f i wr k dg).2.1 = 0 → ∀ j, j < (gpL tx n f i wr k dg).2.2.1 → ∃ x, x ≤ 60 ∧ (gpL tx n f i wr k dg).2.2.2 j = nI x)
  | 0, i, wr, k, dg, hk, h => ⟨hk, h⟩
  | f + 1, i, wr, k, dg, hk, h => by
    rw [gpL]
    by_cases hc : wr = 0 ∧ lk tx n i = 44
    · rw [if_pos hc]
      by_cases h8 : k = 8
      · rw [if_pos h8]; exact gp_okv f i 1 k dg hk (fun z => absurd z (by decide))
      · rw [if_neg h8]
        refine gp_okv f _ _ (k + 1) _ (by omega) (fun z j hj => ?_)
        by_cases e : j = k
        · subst e
          rw [upd_s]
          obtain ⟨x, _, h2, h3⟩ := wIn_ex 1 60 (by decide) (by decide) (nm_z z).2
          exact ⟨x, h2, h3⟩
        · rw [upd_n e]; exact h hc.1 j (by omega)
    · rw [if_neg hc]; exact ⟨hk, h⟩
theorem cl_okD {i : Nat} {D : DR} (hD : okD D) (h0 : (clS tx n i D).2.1 = 0) : okD (clS tx n i D).2.2 := by
  obtain ⟨tl, dl, dg, dh, dp, dr⟩ := D
  obtain ⟨g, wk, gn, wd, e3, hg, e4, hwk, e1, hgn, e2, hwd, hwd0, hgp, hhm, hgt⟩ := hD
  dsimp only at e3 e4 e1 e2 hwd0 hgp hhm hgt
  have hdG : drG (tl, dl, dg, dh, dp, dr) = g := by
    show (dl 3).toNatClampNeg = g
    rw [e3]; exact nI_clamp (by omega)
  have hdW : drW (tl, dl, dg, dh, dp, dr) = wk := by
    show (dl 4).toNatClampNeg = wk
    rw [e4]; exact nI_clamp (by omega)
  rw [clS] at h0 ⊢
  rw [hdG, hdW] at h0 ⊢
  by_cases c1 : lk tx n i = 115
  · rw [if_pos c1] at h0 ⊢
    dsimp only at h0 ⊢
    by_cases ht : tl = 0
    · unfold rdLaw at h0 ⊢
      rw [if_pos ht] at h0
      rw [if_pos ht]
      dsimp only at h0 ⊢
      have z3 := wd_0 h0
      have z2 := nm_z z3
      have z1 := nm_z z2.1
      have z0 := nm_z z1.1
      obtain ⟨x1, _, q1, q2⟩ := wIn_ex 0 40 (by decide) (by decide) z1.2
      obtain ⟨x2, q3, q4, q5⟩ := wIn_ex 1 50 (by decide) (by decide) z2.2
      refine ⟨g, wk, x1, x2, ?_, hg, ?_, hwk, ?_, q1, ?_, q4, fun _ => by omega, hgp, hhm, fun _ => by show ¬ (1 : Int32) = 0; decide⟩
      · dsimp only
        rw [upd_n (by decide), upd_n (by decide), upd_n (by decide)]; exact e3
      · dsimp only
        rw [upd_n (by decide), upd_n (by decide), upd_n (by decide)]; exact e4
      · dsimp only
        rw [upd_n (by decide), upd_s]; exact q2
      · dsimp only
        rw [upd_s]; exact q5
    · exfalso
      unfold rdLaw at h0
      rw [if_neg ht] at h0
      dsimp only at h0
      exact absurd h0 (by decide)
  · rw [if_neg c1] at h0 ⊢
    by_cases ht : tl = 0
    · rw [if_pos ht] at h0; dsimp only at h0; exact absurd h0 (by decide)
    · rw [if_neg ht] at h0 ⊢
      by_cases c2 : lk tx n i = 104
      · rw [if_pos c2] at h0 ⊢
        dsimp only at h0 ⊢
        by_cases hz : 0 < g
        · exfalso
          unfold rdGaps at h0
          rw [if_pos hz] at h0
          dsimp only at h0
          exact absurd h0 (by decide)
        · unfold rdGaps at h0 ⊢
          rw [if_neg hz] at h0
          rw [if_neg hz]
          dsimp only at h0 ⊢
          have z3 := wd_0 h0
          have key := gp_okv (tx := tx) (n := n) 8 (skS tx n (nmS tx n 1 60 (i + 1) 0).2.1 (nmS tx n 1 60 (i + 1) 0).1) (nmS tx n 1 60 (i + 1) 0).2.1 1 (upd dg 0 (nmS tx n 1 60 (i + 1) 0).2.2) (by omega) (fun z j hj => by
            rw [show j = 0 from by omega, upd_s]
            obtain ⟨x, _, h2, h3⟩ := wIn_ex 1 60 (by decide) (by decide) (nm_z z).2
            exact ⟨x, h2, h3⟩)
          refine ⟨(gpL tx n 8 (skS tx n (nmS tx n 1 60 (i + 1) 0).2.1 (nmS tx n 1 60 (i + 1) 0).1) (nmS tx n 1 60 (i + 1) 0).2.1 1 (upd dg 0 (nmS tx n 1 60 (i + 1) 0).2.2)).2.2.1, wk, gn, wd, (by dsimp only; exact upd_s), key.1, ?_, hwk, ?_, hgn, ?_, hwd, hwd0, key.2 z3, ?_, fun _ => ht⟩
          · dsimp only
            rw [upd_n (by decide)]; exact e4
          · dsimp only
            rw [upd_n (by decide)]; exact e1
          · dsimp only
            rw [upd_n (by decide)]; exact e2
          · intro w hw
            obtain ⟨h, h1, h2⟩ := hhm w hw
            exact ⟨h, by omega, h2⟩
      · rw [if_neg c2] at h0 ⊢
        by_cases c3 : lk tx n i = 119
        · rw [if_pos c3] at h0 ⊢
          dsimp only at h0 ⊢
          by_cases hz : wk = 4
          · exfalso
            unfold rdWalk at h0
            rw [if_pos hz] at h0
            dsimp only at h0
            exact absurd h0 (by decide)
          · unfold rdWalk at h0 ⊢
            rw [if_neg hz] at h0
            rw [if_neg hz]
            dsimp only at h0 ⊢
            have z3 := wd_0 h0
            have z2 := nm_z z3
            have z1 := nm_z z2.1
            refine ⟨g, wk + 1, gn, wd, ?_, hg, (by dsimp only; exact upd_s), by omega, ?_, hgn, ?_, hwd, hwd0, hgp, ?_, hgt⟩
            · dsimp only
              rw [upd_n (by decide)]; exact e3
            · dsimp only
              rw [upd_n (by decide)]; exact e1
            · dsimp only
              rw [upd_n (by decide)]; exact e2
            · intro w hw
              by_cases e : w = wk
              · subst e
                dsimp only
                rw [upd_s]
                have q := z1.2
                by_cases hg0 : g = 0
                · exfalso
                  rw [if_pos hg0] at q
                  have := Int32.le_trans q.1 q.2
                  exact absurd this (by decide)
                · rw [if_neg hg0] at q ⊢
                  obtain ⟨x, _, h2, h3⟩ := wIn_ex 0 g (by decide) (by omega) q
                  exact ⟨x, h2, h3⟩
              · obtain ⟨h, h1, h2⟩ := hhm w (by omega)
                exact ⟨h, h1, by dsimp only; rw [upd_n e]; exact h2⟩
        · rw [if_neg c3] at h0 ⊢
          by_cases c4 : lk tx n i = 114
          · rw [if_pos c4] at h0 ⊢
            exact ⟨g, wk, gn, wd, e3, hg, e4, hwk, e1, hgn, e2, hwd, hwd0, hgp, hhm, hgt⟩
          · rw [if_neg c4] at h0; dsimp only at h0; exact absurd h0 (by decide)
theorem rd_okD : ∀ (k i wr : Nat) (D : DR), (wr = 0 → okD D) → (rdF tx n k i wr D).2.1 = 0 → okD (rdF tx n k i wr D).2.2
  | 0, i, wr, D, h, h0 => h h0
  | k + 1, i, wr, D, h, h0 => by
    rw [rdF] at h0 ⊢
    by_cases hc : wr = 0 ∧ ¬ lk tx n i = -1
    · rw [if_pos hc] at h0 ⊢
      exact rd_okD k _ _ _ (fun z => cl_okD (h hc.1) z) h0
    · rw [if_neg hc] at h0 ⊢
      exact h h0
theorem okD_0 {dl dg dh dp : Nat → Int32} : okD (dr0 dl dg dh dp) :=
  ⟨0, 0, 0, 0, rfl, by omega, rfl, by omega, rfl, by omega, rfl, by omega, fun h => absurd rfl h, fun _ h => absurd h (by omega), fun _ h => absurd h (by omega), fun h => absurd h (by omega)⟩
theorem rdS_okD {dl dg dh dp : Nat → Int32} (h : (rdS tx n dl dg dh dp).2.1 = 0) : okD (rdS tx n dl dg dh dp).2.2 := rd_okD (n + 1) _ 0 _ (fun _ => okD_0) h
end OKD
