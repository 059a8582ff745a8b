set_option maxRecDepth 100000 in
set_option maxHeartbeats 600000 in
theorem kX6_readClause (l : Launch) (G : va_G) (cI cC cZ : ClassId) (qr : Nat) (qrl : Nat) (ln : Nat) (at_ : Nat) (fk : Nat) (fa : Int32) (lt : Nat → Int32) (tx : Nat → Int32) (q : Nat) (qd : Nat) (qh : Nat) (qp : Nat) (P : Nat) (gr : Int32) (wd : Nat) (g : Nat) (wk : Nat) (fr : Int32) (dyr : Nat → Int32) (hor : Nat → Int32) (par_ : Nat → Int32) (tl : Int32) (dl : Nat → Int32) (dg : Nat → Int32) (dh : Nat → Int32) (dp : Nat → Int32) (hln : ln ≤ 200) (hat : at_ < ln) (hfk : fk ≤ 4) (hlt : ∀ i9, i9 < ln → lt i9 = tx i9) (hrd : rdR ln at_ fk fa at_ 0) (hPl : P ≤ 60) (hg : g ≤ 8) (hwk : wk ≤ 4) (hwd : wd ≤ 50) (hdp : dpR P gr wd g wk fr dyr hor par_ (tl, dl, dg, dh, dp, fr)) : CV l G (tys3 cI cC cZ) yX6_readClause cX6_readClause 3 ({ frames := 4, cells := 0, slots := 0, locals := 90 }) [.ref qr, .ref q] [(qr, .inr (6, [.ref qrl, .int (nI ln), .int (nI at_), .int (nI fk), .int fa])), (qrl, .inl (cC, 200, .inl lt)), (q, .inr (5, [.int (nI P), .int gr, .int (nI wd), .int (nI g), .int (nI wk), .int fr, .ref qd, .ref qh, .ref qp])), (qd, .inl (cI, 8, .inl dyr)), (qh, .inl (cI, 4, .inl hor)), (qp, .inl (cI, 4, .inl par_))] (S := Nat × Nat × Int32 × Nat × Int32 × Nat × Nat × Nat × Int32 × (Nat → Int32) × (Nat → Int32) × (Nat → Int32)) (fun (u : Nat × Nat × Int32 × Nat × Int32 × Nat × Nat × Nat × Int32 × (Nat → Int32) × (Nat → Int32) × (Nat → Int32)) => rdR ln u.1 u.2.1 u.2.2.1 (clS tx ln at_ (tl, dl, dg, dh, dp, fr)).1 (clS tx ln at_ (tl, dl, dg, dh, dp, fr)).2.1 ∧ u.2.2.2.1 ≤ 60 ∧ u.2.2.2.2.2.2.1 ≤ 8 ∧ u.2.2.2.2.2.2.2.1 ≤ 4 ∧ u.2.2.2.2.2.1 ≤ 50 ∧ (u.2.1 = 0 → dpR u.2.2.2.1 u.2.2.2.2.1 u.2.2.2.2.2.1 u.2.2.2.2.2.2.1 u.2.2.2.2.2.2.2.1 u.2.2.2.2.2.2.2.2.1 u.2.2.2.2.2.2.2.2.2.1 u.2.2.2.2.2.2.2.2.2.2.1 u.2.2.2.2.2.2.2.2.2.2.2 (clS tx ln at_ (tl, dl, dg, dh, dp, fr)).2.2)) (fun (u : Nat × Nat × Int32 × Nat × Int32 × Nat × Nat × Nat × Int32 × (Nat → Int32) × (Nat → Int32) × (Nat → Int32)) => [(qr, .inr (6, [.ref qrl, .int (nI ln), .int (nI u.1), .int (nI u.2.1), .int u.2.2.1])), (qrl, .inl (cC, 200, .inl lt)), (q, .inr (5, [.int (nI u.2.2.2.1), .int u.2.2.2.2.1, .int (nI u.2.2.2.2.2.1), .int (nI u.2.2.2.2.2.2.1), .int (nI u.2.2.2.2.2.2.2.1), .int u.2.2.2.2.2.2.2.2.1, .ref qd, .ref qh, .ref qp])), (qd, .inl (cI, 8, .inl u.2.2.2.2.2.2.2.2.2.1)), (qh, .inl (cI, 4, .inl u.2.2.2.2.2.2.2.2.2.2.1)), (qp, .inl (cI, 4, .inl u.2.2.2.2.2.2.2.2.2.2.2))]) := by
  refine CV.intro (by decide) (Nat.le_of_ble_eq_true rfl) ?_
  intro p0 e0 s0 m0 ar0 be0 me0 c0 A0 X hr
  have hatl : at_ ≤ ln := by omega
  obtain ⟨hs, hhs⟩ : ∃ hs : Nat, (g = 0 ∧ hs = 0) ∨ (0 < g ∧ hs = g + 1) := by
    by_cases q9 : g = 0
    · exact ⟨0, Or.inl ⟨q9, rfl⟩⟩
    · exact ⟨g + 1, Or.inr ⟨by omega, rfl⟩⟩
  have htl := hdp.1
  have hdg : drG (tl, dl, dg, dh, dp, fr) = g := by show (dl 3).toNatClampNeg = g; rw [show dl 3 = nI g from hdp.2.2.2.2.1]; exact nI_clamp (by omega)
  have hdw : drW (tl, dl, dg, dh, dp, fr) = wk := by show (dl 4).toNatClampNeg = wk; rw [show dl 4 = nI wk from hdp.2.2.2.2.2.1]; exact nI_clamp (by omega)
  refine J_aload_n (pc := 0) X 0 dX6_readClause_0 rfl ?_
  refine J_callR (pc := 1) (As := []) (rest := []) X mtX6_letter g311 [0, 1] 0 (kX6_letter l G cI cC cZ qr qrl ln at_ fk fa lt tx (by first | assumption | omega) (by first | assumption | omega) (by first | assumption | omega) (by first | assumption | omega)) ⟨Nat.le_of_ble_eq_true rfl, Nat.le_of_ble_eq_true rfl⟩ rfl rfl rfl (by decide) rfl rfl rfl rfl rfl (Nat.le_of_ble_eq_true rfl) (Nat.zero_le _) (Nat.zero_le _) dX6_readClause_1 (fun r_1 u_2 w_3 => ?_)
  try dsimp only at w_3
  subst w_3
  refine J_istore_n (pc := 4) X [(2, .int (lk tx ln at_)), (0, .ref qr), (1, .ref q)] dX6_readClause_4 (by decide) rfl ?_
  refine J_aload_n (pc := 5) X 2 dX6_readClause_5 rfl ?_
  refine J_callR (pc := 6) (As := []) (rest := []) X mtX5_isTold g323 [2] 0 (kX5_isTold l G cI cC cZ q qd qh qp P gr wd g wk fr (by first | assumption | omega) (by first | assumption | omega) (by first | assumption | omega) (by first | assumption | omega)) ⟨Nat.le_of_ble_eq_true rfl, Nat.le_of_ble_eq_true rfl⟩ rfl rfl rfl (by decide) rfl rfl rfl rfl rfl (Nat.le_of_ble_eq_true rfl) (Nat.zero_le _) (Nat.zero_le _) dX6_readClause_6 (fun r_4 u_5 w_6 => ?_)
  try dsimp only at w_6
  subst w_6
  refine J_bif_ne (pc := 9) X 28 dX6_readClause_9 (by decide) (fun c_7 => ?_) (fun c_7 => ?_)
  · skip
    refine J_iload_n (pc := 28) X 0 dX6_readClause_28 rfl ?_
    by_cases h104 : (lk tx ln at_) = 104
    · refine J_look (pc := 29) (off := 51) X 80 dX6_readClause_29 rfl (by first | (rw [h104]; done) | (rw [h104]; rfl)) (by decide) ?_
      have h115 : ¬ lk tx ln at_ = 115 := fun z9 => absurd (h104.symm.trans z9) (by decide)
      refine J_aload_n (pc := 80) X 1 dX6_readClause_80 rfl ?_
      refine J_aload_n (pc := 81) X 2 dX6_readClause_81 rfl ?_
      refine J_callV (pc := 82) (As := [.ref q]) (rest := []) X mtX6_readHouses g350 [0, 1, 2, 3] [4, 5] [2, 3, 4, 5, 0, 1] 0 (fun u => [(qr, .inr (6, [.ref qrl, .int (nI ln), .int (nI u.1), .int (nI u.2.1), .int u.2.2.1])), (qrl, .inl (cC, 200, .inl lt)), (q, .inr (5, [.int (nI P), .int gr, .int (nI wd), .int (nI u.2.2.2.1), .int (nI wk), .int fr, .ref qd, .ref qh, .ref qp])), (qd, .inl (cI, 8, .inl u.2.2.2.2)), (qh, .inl (cI, 4, .inl hor)), (qp, .inl (cI, 4, .inl par_))]) (kX6_readHouses l G cI cC cZ qr qrl ln at_ fk fa lt tx q qd qh qp P gr wd g wk fr dyr dg (by first | assumption | omega) (by first | assumption | omega) (by first | assumption | omega) (by first | assumption | omega) (by first | assumption | omega) (by first | assumption | omega) (by first | assumption | omega) (by first | assumption | omega) (by first | assumption | omega)) ⟨Nat.le_of_ble_eq_true rfl, Nat.le_of_ble_eq_true rfl⟩ rfl rfl rfl (by decide) (wr := [(qh, .inl (cI, 4, .inl hor)), (qp, .inl (cI, 4, .inl par_))]) rfl (by decide) (by decide) (fun _ => rfl) (by decide) rfl rfl rfl rfl rfl (Nat.le_of_ble_eq_true rfl) (Nat.zero_le _) (Nat.zero_le _) dX6_readClause_82 (fun u_9 w_10 => ?_)
      obtain ⟨t1, kh, f1, gn__u_9, dyn_u_9⟩ := u_9
      try dsimp only at w_10
      have hc := w_10
      refine J_goto (pc := 85) X 113 dX6_readClause_85 (by decide) ?_
      refine J_vret (pc := 113) X hr (t1, kh, f1, P, gr, wd, gn__u_9, wk, fr, dyn_u_9, hor, par_) dX6_readClause_113 ?_ rfl
      first | (exact absurd ((show lk tx ln at_ = 115 from by assumption).symm.trans h104) (by decide)) | (rw [← cl_gaps h115 (fun z9 => absurd (htl.mp z9) (by omega)) h104 hdg (show ((rdGaps tx ln at_ g dg).1, (rdGaps tx ln at_ g dg).2.1, (rdGaps tx ln at_ g dg).2.2.1, (rdGaps tx ln at_ g dg).2.2.2) = (rdGaps tx ln at_ g dg) from rfl)]; exact ⟨hc.1, hPl, hc.2.1, hwk, hwd, fun z => dp_gaps hdp (hc.2.2 z)⟩)
    by_cases h114 : (lk tx ln at_) = 114
    · refine J_look (pc := 29) (off := 67) X 96 dX6_readClause_29 rfl (by first | (rw [h114]; done) | (rw [h114]; rfl)) (by decide) ?_
      have h115 : ¬ lk tx ln at_ = 115 := fun z9 => absurd (h114.symm.trans z9) (by decide)
      have h104 : ¬ lk tx ln at_ = 104 := fun z9 => absurd (h114.symm.trans z9) (by decide)
      have h119 : ¬ lk tx ln at_ = 119 := fun z9 => absurd (h114.symm.trans z9) (by decide)
      refine J_aload_n (pc := 96) X 1 dX6_readClause_96 rfl ?_
      refine J_aload_n (pc := 97) X 2 dX6_readClause_97 rfl ?_
      refine J_callV (pc := 98) (As := [.ref q]) (rest := []) X mtX6_readRope g378 [0, 1, 2] [3, 4, 5] [3, 4, 5, 0, 1, 2] 0 (fun u => [(qr, .inr (6, [.ref qrl, .int (nI ln), .int (nI u.1), .int (nI u.2.1), .int u.2.2.1])), (qrl, .inl (cC, 200, .inl lt)), (q, .inr (5, [.int (nI P), .int gr, .int (nI wd), .int (nI g), .int (nI wk), .int u.2.2.2, .ref qd, .ref qh, .ref qp])), (qd, .inl (cI, 8, .inl dyr)), (qh, .inl (cI, 4, .inl hor)), (qp, .inl (cI, 4, .inl par_))]) (kX6_readRope l G cI cC cZ qr qrl ln at_ fk fa lt tx q qd qh qp P gr wd g wk fr (by first | assumption | omega) (by first | assumption | omega) (by first | assumption | omega) (by first | assumption | omega) (by first | assumption | omega) (by first | assumption | omega) (by first | assumption | omega) (by first | assumption | omega) (by first | assumption | omega)) ⟨Nat.le_of_ble_eq_true rfl, Nat.le_of_ble_eq_true rfl⟩ rfl rfl rfl (by decide) (wr := [(qd, .inl (cI, 8, .inl dyr)), (qh, .inl (cI, 4, .inl hor)), (qp, .inl (cI, 4, .inl par_))]) rfl (by decide) (by decide) (fun _ => rfl) (by decide) rfl rfl rfl rfl rfl (Nat.le_of_ble_eq_true rfl) (Nat.zero_le _) (Nat.zero_le _) dX6_readClause_98 (fun u_12 w_13 => ?_)
      obtain ⟨t1, kr, f1, frn_u_12⟩ := u_12
      try dsimp only at w_13
      have hc := w_13
      refine J_goto (pc := 101) X 113 dX6_readClause_101 (by decide) ?_
      refine J_vret (pc := 113) X hr (t1, kr, f1, P, gr, wd, g, wk, frn_u_12, dyr, hor, par_) dX6_readClause_113 ?_ rfl
      first | (exact absurd ((show lk tx ln at_ = 115 from by assumption).symm.trans h114) (by decide)) | (rw [← cl_rope h115 (fun z9 => absurd (htl.mp z9) (by omega)) h104 h119 h114 hdg (show ((rdRope tx ln at_ g fr).1, (rdRope tx ln at_ g fr).2.1, (rdRope tx ln at_ g fr).2.2) = (rdRope tx ln at_ g fr) from rfl)]; exact ⟨hc.1, hPl, hg, hwk, hwd, fun z => dp_rope hdp (hc.2 z)⟩)
    by_cases h115 : (lk tx ln at_) = 115
    · refine J_look (pc := 29) (off := 43) X 72 dX6_readClause_29 rfl (by first | (rw [h115]; done) | (rw [h115]; rfl)) (by decide) ?_
      refine J_aload_n (pc := 72) X 1 dX6_readClause_72 rfl ?_
      refine J_aload_n (pc := 73) X 2 dX6_readClause_73 rfl ?_
      refine J_callV (pc := 74) (As := [.ref q]) (rest := []) X mtX6_readNight g331 [0, 1, 2] [3, 4, 5] [3, 4, 5, 0, 1, 2] 0 (fun u => [(qr, .inr (6, [.ref qrl, .int (nI ln), .int (nI u.1), .int (nI u.2.1), .int u.2.2.1])), (qrl, .inl (cC, 200, .inl lt)), (q, .inr (5, [.int (nI u.2.2.2.1), .int u.2.2.2.2.1, .int (nI u.2.2.2.2.2), .int (nI g), .int (nI wk), .int fr, .ref qd, .ref qh, .ref qp])), (qd, .inl (cI, 8, .inl dyr)), (qh, .inl (cI, 4, .inl hor)), (qp, .inl (cI, 4, .inl par_))]) (kX6_readNight l G cI cC cZ qr qrl ln at_ fk fa lt tx q qd qh qp P gr wd g wk fr tl dl (by first | assumption | omega) (by first | assumption | omega) (by first | assumption | omega) (by first | assumption | omega) (by first | assumption | omega) (by first | assumption | omega) (by first | assumption | omega) (by first | assumption | omega) (by first | assumption | omega) htl) ⟨Nat.le_of_ble_eq_true rfl, Nat.le_of_ble_eq_true rfl⟩ rfl rfl rfl (by decide) (wr := [(qd, .inl (cI, 8, .inl dyr)), (qh, .inl (cI, 4, .inl hor)), (qp, .inl (cI, 4, .inl par_))]) rfl (by decide) (by decide) (fun _ => rfl) (by decide) rfl rfl rfl rfl rfl (Nat.le_of_ble_eq_true rfl) (Nat.zero_le _) (Nat.zero_le _) dX6_readClause_74 (fun u_15 w_16 => ?_)
      obtain ⟨t1, ka, f1, Pn_u_15, grn_u_15, wdn_u_15⟩ := u_15
      try dsimp only at w_16
      have hc := w_16
      refine J_goto (pc := 77) X 113 dX6_readClause_77 (by decide) ?_
      refine J_vret (pc := 113) X hr (t1, ka, f1, Pn_u_15, grn_u_15, wdn_u_15, g, wk, fr, dyr, hor, par_) dX6_readClause_113 ?_ rfl
      rw [← cl_law h115 (show ((rdLaw tx ln at_ tl dl).1, (rdLaw tx ln at_ tl dl).2.1, (rdLaw tx ln at_ tl dl).2.2.1, (rdLaw tx ln at_ tl dl).2.2.2) = (rdLaw tx ln at_ tl dl) from rfl)]
      exact ⟨hc.1, hc.2.1, hg, hwk, hc.2.2.1, fun z => dp_law hdp (hc.2.2.2 z)⟩
    by_cases h119 : (lk tx ln at_) = 119
    · refine J_look (pc := 29) (off := 59) X 88 dX6_readClause_29 rfl (by first | (rw [h119]; done) | (rw [h119]; rfl)) (by decide) ?_
      have h115 : ¬ lk tx ln at_ = 115 := fun z9 => absurd (h119.symm.trans z9) (by decide)
      have h104 : ¬ lk tx ln at_ = 104 := fun z9 => absurd (h119.symm.trans z9) (by decide)
      refine J_aload_n (pc := 88) X 1 dX6_readClause_88 rfl ?_
      refine J_aload_n (pc := 89) X 2 dX6_readClause_89 rfl ?_
      refine J_callV (pc := 90) (As := [.ref q]) (rest := []) X mtX6_readWalker g362 [0, 1, 2, 4, 5] [3] [1, 2, 3, 0, 4, 5] 0 (fun u => [(qr, .inr (6, [.ref qrl, .int (nI ln), .int (nI u.1), .int (nI u.2.1), .int u.2.2.1])), (qrl, .inl (cC, 200, .inl lt)), (q, .inr (5, [.int (nI P), .int gr, .int (nI wd), .int (nI g), .int (nI u.2.2.2.1), .int fr, .ref qd, .ref qh, .ref qp])), (qd, .inl (cI, 8, .inl dyr)), (qh, .inl (cI, 4, .inl u.2.2.2.2.1)), (qp, .inl (cI, 4, .inl u.2.2.2.2.2))]) (kX6_readWalker l G cI cC cZ qr qrl ln at_ fk fa lt tx q qd qh qp P gr wd g wk fr hor par_ hs dh dp (by first | assumption | omega) (by first | assumption | omega) (by first | assumption | omega) (by first | assumption | omega) (by first | assumption | omega) (by first | assumption | omega) (by first | assumption | omega) (by first | assumption | omega) (by first | assumption | omega) (by first | assumption | omega)) ⟨Nat.le_of_ble_eq_true rfl, Nat.le_of_ble_eq_true rfl⟩ rfl rfl rfl (by decide) (wr := [(qd, .inl (cI, 8, .inl dyr))]) rfl (by decide) (by decide) (fun _ => rfl) (by decide) rfl rfl rfl rfl rfl (Nat.le_of_ble_eq_true rfl) (Nat.zero_le _) (Nat.zero_le _) dX6_readClause_90 (fun u_18 w_19 => ?_)
      obtain ⟨t1, kw, f1, wkn_u_18, hon_u_18, pan_u_18⟩ := u_18
      try dsimp only at w_19
      have hc := w_19
      refine J_goto (pc := 93) X 113 dX6_readClause_93 (by decide) ?_
      refine J_vret (pc := 113) X hr (t1, kw, f1, P, gr, wd, g, wkn_u_18, fr, dyr, hon_u_18, pan_u_18) dX6_readClause_113 ?_ rfl
      first | (exact absurd ((show lk tx ln at_ = 115 from by assumption).symm.trans h119) (by decide)) | (rw [← cl_walk h115 (fun z9 => absurd (htl.mp z9) (by omega)) h104 h119 hdg hdw (show ((rdWalk tx ln at_ g wk dh dp).1, (rdWalk tx ln at_ g wk dh dp).2.1, (rdWalk tx ln at_ g wk dh dp).2.2.1, (rdWalk tx ln at_ g wk dh dp).2.2.2.1, (rdWalk tx ln at_ g wk dh dp).2.2.2.2) = (rdWalk tx ln at_ g wk dh dp) from rfl)]; exact ⟨hc.1, hPl, hg, hc.2.1, hwd, fun z => dp_walk hdp (hc.2.2 z)⟩)
    refine J_look (pc := 29) (off := 75) X 104 dX6_readClause_29 rfl ((lv_osw h104 rfl).trans ((lv_osw h114 rfl).trans ((lv_osw h115 rfl).trans ((lv_osw h119 rfl).trans rfl)))) (by decide) ?_
    refine J_aload_n (pc := 104) X 1 dX6_readClause_104 rfl ?_
    refine J_iconst (pc := 105) X 1 dX6_readClause_105 (by decide) ?_
    refine J_aload_n (pc := 106) X 1 dX6_readClause_106 rfl ?_
    refine J_get (pc := 107) X clX6 0 2 rfl (by decide) g128 rfl dX6_readClause_107 ?_
    refine J_callV (pc := 110) (As := [.int 1, .int (nI at_)]) (rest := []) X mtX6_blame g327 [0] [1, 2, 3, 4, 5] [5, 0, 1, 2, 3, 4] 0 (fun u => [(qr, .inr (6, [.ref qrl, .int (nI ln), .int (nI at_), .int (nI u.1), .int u.2])), (qrl, .inl (cC, 200, .inl lt)), (q, .inr (5, [.int (nI P), .int gr, .int (nI wd), .int (nI g), .int (nI wk), .int fr, .ref qd, .ref qh, .ref qp])), (qd, .inl (cI, 8, .inl dyr)), (qh, .inl (cI, 4, .inl hor)), (qp, .inl (cI, 4, .inl par_))]) (kX6_blame l G cI cC cZ qr qrl ln at_ fk fa 1 at_ (by first | assumption | omega)) ⟨Nat.le_of_ble_eq_true rfl, Nat.le_of_ble_eq_true rfl⟩ rfl rfl rfl (by decide) (wr := [(qrl, .inl (cC, 200, .inl lt)), (q, .inr (5, [.int (nI P), .int gr, .int (nI wd), .int (nI g), .int (nI wk), .int fr, .ref qd, .ref qh, .ref qp])), (qd, .inl (cI, 8, .inl dyr)), (qh, .inl (cI, 4, .inl hor)), (qp, .inl (cI, 4, .inl par_))]) rfl (by decide) (by decide) (fun _ => rfl) (by decide) rfl rfl rfl rfl rfl (Nat.le_of_ble_eq_true rfl) (Nat.zero_le _) (Nat.zero_le _) dX6_readClause_110 (fun u_21 w_22 => ?_)
    obtain ⟨kb, fb⟩ := u_21
    try dsimp only at w_22
    have hbl := w_22
    refine J_vret (pc := 113) X hr (at_, kb, fb, P, gr, wd, g, wk, fr, dyr, hor, par_) dX6_readClause_113 ?_ rfl
    have hb9 := rdR_bad (kd := 1) (fr := at_) hrd hatl rfl (by decide) (by decide) hbl.1 hbl.2
    first | rw [← cl_no (by assumption) (htl.mpr (by omega))] | rw [← cl_bad h115 (fun z9 => absurd (htl.mp z9) (by omega)) h104 h119 h114] | exact absurd (show lk tx ln at_ = 115 from by assumption) h115
    exact ⟨hb9, hPl, hg, hwk, hwd, fun z => absurd (hb9.1.symm.trans z) (by decide)⟩
  · skip
    refine J_iload_n (pc := 12) X 0 dX6_readClause_12 rfl ?_
    refine J_bipush (pc := 13) X 115 dX6_readClause_13 (by decide) ?_
    refine J_icmp_eq (pc := 15) X 28 dX6_readClause_15 (by decide) (fun c_23 => ?_) (fun c_23 => ?_)
    · skip
      refine J_iload_n (pc := 28) X 0 dX6_readClause_28 rfl ?_
      by_cases h104 : (lk tx ln at_) = 104
      · refine J_look (pc := 29) (off := 51) X 80 dX6_readClause_29 rfl (by first | (rw [h104]; done) | (rw [h104]; rfl)) (by decide) ?_
        have h115 : ¬ lk tx ln at_ = 115 := fun z9 => absurd (h104.symm.trans z9) (by decide)
        refine J_aload_n (pc := 80) X 1 dX6_readClause_80 rfl ?_
        refine J_aload_n (pc := 81) X 2 dX6_readClause_81 rfl ?_
        refine J_callV (pc := 82) (As := [.ref q]) (rest := []) X mtX6_readHouses g350 [0, 1, 2, 3] [4, 5] [2, 3, 4, 5, 0, 1] 0 (fun u => [(qr, .inr (6, [.ref qrl, .int (nI ln), .int (nI u.1), .int (nI u.2.1), .int u.2.2.1])), (qrl, .inl (cC, 200, .inl lt)), (q, .inr (5, [.int (nI P), .int gr, .int (nI wd), .int (nI u.2.2.2.1), .int (nI wk), .int fr, .ref qd, .ref qh, .ref qp])), (qd, .inl (cI, 8, .inl u.2.2.2.2)), (qh, .inl (cI, 4, .inl hor)), (qp, .inl (cI, 4, .inl par_))]) (kX6_readHouses l G cI cC cZ qr qrl ln at_ fk fa lt tx q qd qh qp P gr wd g wk fr dyr dg (by first | assumption | omega) (by first | assumption | omega) (by first | assumption | omega) (by first | assumption | omega) (by first | assumption | omega) (by first | assumption | omega) (by first | assumption | omega) (by first | assumption | omega) (by first | assumption | omega)) ⟨Nat.le_of_ble_eq_true rfl, Nat.le_of_ble_eq_true rfl⟩ rfl rfl rfl (by decide) (wr := [(qh, .inl (cI, 4, .inl hor)), (qp, .inl (cI, 4, .inl par_))]) rfl (by decide) (by decide) (fun _ => rfl) (by decide) rfl rfl rfl rfl rfl (Nat.le_of_ble_eq_true rfl) (Nat.zero_le _) (Nat.zero_le _) dX6_readClause_82 (fun u_25 w_26 => ?_)
        obtain ⟨t1, kh, f1, gn__u_25, dyn_u_25⟩ := u_25
        try dsimp only at w_26
        have hc := w_26
        refine J_goto (pc := 85) X 113 dX6_readClause_85 (by decide) ?_
        refine J_vret (pc := 113) X hr (t1, kh, f1, P, gr, wd, gn__u_25, wk, fr, dyn_u_25, hor, par_) dX6_readClause_113 ?_ rfl
        first | (exact absurd ((show lk tx ln at_ = 115 from by assumption).symm.trans h104) (by decide)) | (rw [← cl_gaps h115 (fun z9 => absurd (htl.mp z9) (by omega)) h104 hdg (show ((rdGaps tx ln at_ g dg).1, (rdGaps tx ln at_ g dg).2.1, (rdGaps tx ln at_ g dg).2.2.1, (rdGaps tx ln at_ g dg).2.2.2) = (rdGaps tx ln at_ g dg) from rfl)]; exact ⟨hc.1, hPl, hc.2.1, hwk, hwd, fun z => dp_gaps hdp (hc.2.2 z)⟩)
      by_cases h114 : (lk tx ln at_) = 114
      · refine J_look (pc := 29) (off := 67) X 96 dX6_readClause_29 rfl (by first | (rw [h114]; done) | (rw [h114]; rfl)) (by decide) ?_
        have h115 : ¬ lk tx ln at_ = 115 := fun z9 => absurd (h114.symm.trans z9) (by decide)
        have h104 : ¬ lk tx ln at_ = 104 := fun z9 => absurd (h114.symm.trans z9) (by decide)
        have h119 : ¬ lk tx ln at_ = 119 := fun z9 => absurd (h114.symm.trans z9) (by decide)
        refine J_aload_n (pc := 96) X 1 dX6_readClause_96 rfl ?_
        refine J_aload_n (pc := 97) X 2 dX6_readClause_97 rfl ?_
        refine J_callV (pc := 98) (As := [.ref q]) (rest := []) X mtX6_readRope g378 [0, 1, 2] [3, 4, 5] [3, 4, 5, 0, 1, 2] 0 (fun u => [(qr, .inr (6, [.ref qrl, .int (nI ln), .int (nI u.1), .int (nI u.2.1), .int u.2.2.1])), (qrl, .inl (cC, 200, .inl lt)), (q, .inr (5, [.int (nI P), .int gr, .int (nI wd), .int (nI g), .int (nI wk), .int u.2.2.2, .ref qd, .ref qh, .ref qp])), (qd, .inl (cI, 8, .inl dyr)), (qh, .inl (cI, 4, .inl hor)), (qp, .inl (cI, 4, .inl par_))]) (kX6_readRope l G cI cC cZ qr qrl ln at_ fk fa lt tx q qd qh qp P gr wd g wk fr (by first | assumption | omega) (by first | assumption | omega) (by first | assumption | omega) (by first | assumption | omega) (by first | assumption | omega) (by first | assumption | omega) (by first | assumption | omega) (by first | assumption | omega) (by first | assumption | omega)) ⟨Nat.le_of_ble_eq_true rfl, Nat.le_of_ble_eq_true rfl⟩ rfl rfl rfl (by decide) (wr := [(qd, .inl (cI, 8, .inl dyr)), (qh, .inl (cI, 4, .inl hor)), (qp, .inl (cI, 4, .inl par_))]) rfl (by decide) (by decide) (fun _ => rfl) (by decide) rfl rfl rfl rfl rfl (Nat.le_of_ble_eq_true rfl) (Nat.zero_le _) (Nat.zero_le _) dX6_readClause_98 (fun u_28 w_29 => ?_)
        obtain ⟨t1, kr, f1, frn_u_28⟩ := u_28
        try dsimp only at w_29
        have hc := w_29
        refine J_goto (pc := 101) X 113 dX6_readClause_101 (by decide) ?_
        refine J_vret (pc := 113) X hr (t1, kr, f1, P, gr, wd, g, wk, frn_u_28, dyr, hor, par_) dX6_readClause_113 ?_ rfl
        first | (exact absurd ((show lk tx ln at_ = 115 from by assumption).symm.trans h114) (by decide)) | (rw [← cl_rope h115 (fun z9 => absurd (htl.mp z9) (by omega)) h104 h119 h114 hdg (show ((rdRope tx ln at_ g fr).1, (rdRope tx ln at_ g fr).2.1, (rdRope tx ln at_ g fr).2.2) = (rdRope tx ln at_ g fr) from rfl)]; exact ⟨hc.1, hPl, hg, hwk, hwd, fun z => dp_rope hdp (hc.2 z)⟩)
      by_cases h115 : (lk tx ln at_) = 115
      · refine J_look (pc := 29) (off := 43) X 72 dX6_readClause_29 rfl (by first | (rw [h115]; done) | (rw [h115]; rfl)) (by decide) ?_
        refine J_aload_n (pc := 72) X 1 dX6_readClause_72 rfl ?_
        refine J_aload_n (pc := 73) X 2 dX6_readClause_73 rfl ?_
        refine J_callV (pc := 74) (As := [.ref q]) (rest := []) X mtX6_readNight g331 [0, 1, 2] [3, 4, 5] [3, 4, 5, 0, 1, 2] 0 (fun u => [(qr, .inr (6, [.ref qrl, .int (nI ln), .int (nI u.1), .int (nI u.2.1), .int u.2.2.1])), (qrl, .inl (cC, 200, .inl lt)), (q, .inr (5, [.int (nI u.2.2.2.1), .int u.2.2.2.2.1, .int (nI u.2.2.2.2.2), .int (nI g), .int (nI wk), .int fr, .ref qd, .ref qh, .ref qp])), (qd, .inl (cI, 8, .inl dyr)), (qh, .inl (cI, 4, .inl hor)), (qp, .inl (cI, 4, .inl par_))]) (kX6_readNight l G cI cC cZ qr qrl ln at_ fk fa lt tx q qd qh qp P gr wd g wk fr tl dl (by first | assumption | omega) (by first | assumption | omega) (by first | assumption | omega) (by first | assumption | omega) (by first | assumption | omega) (by first | assumption | omega) (by first | assumption | omega) (by first | assumption | omega) (by first | assumption | omega) htl) ⟨Nat.le_of_ble_eq_true rfl, Nat.le_of_ble_eq_true rfl⟩ rfl rfl rfl (by decide) (wr := [(qd, .inl (cI, 8, .inl dyr)), (qh, .inl (cI, 4, .inl hor)), (qp, .inl (cI, 4, .inl par_))]) rfl (by decide) (by decide) (fun _ => rfl) (by decide) rfl rfl rfl rfl rfl (Nat.le_of_ble_eq_true rfl) (Nat.zero_le _) (Nat.zero_le _) dX6_readClause_74 (fun u_31 w_32 => ?_)
        obtain ⟨t1, ka, f1, Pn_u_31, grn_u_31, wdn_u_31⟩ := u_31
        try dsimp only at w_32
        have hc := w_32
        refine J_goto (pc := 77) X 113 dX6_readClause_77 (by decide) ?_
        refine J_vret (pc := 113) X hr (t1, ka, f1, Pn_u_31, grn_u_31, wdn_u_31, g, wk, fr, dyr, hor, par_) dX6_readClause_113 ?_ rfl
        rw [← cl_law h115 (show ((rdLaw tx ln at_ tl dl).1, (rdLaw tx ln at_ tl dl).2.1, (rdLaw tx ln at_ tl dl).2.2.1, (rdLaw tx ln at_ tl dl).2.2.2) = (rdLaw tx ln at_ tl dl) from rfl)]
        exact ⟨hc.1, hc.2.1, hg, hwk, hc.2.2.1, fun z => dp_law hdp (hc.2.2.2 z)⟩
      by_cases h119 : (lk tx ln at_) = 119
      · refine J_look (pc := 29) (off := 59) X 88 dX6_readClause_29 rfl (by first | (rw [h119]; done) | (rw [h119]; rfl)) (by decide) ?_
        have h115 : ¬ lk tx ln at_ = 115 := fun z9 => absurd (h119.symm.trans z9) (by decide)
        have h104 : ¬ lk tx ln at_ = 104 := fun z9 => absurd (h119.symm.trans z9) (by decide)
        refine J_aload_n (pc := 88) X 1 dX6_readClause_88 rfl ?_
        refine J_aload_n (pc := 89) X 2 dX6_readClause_89 rfl ?_
        refine J_callV (pc := 90) (As := [.ref q]) (rest := []) X mtX6_readWalker g362 [0, 1, 2, 4, 5] [3] [1, 2, 3, 0, 4, 5] 0 (fun u => [(qr, .inr (6, [.ref qrl, .int (nI ln), .int (nI u.1), .int (nI u.2.1), .int u.2.2.1])), (qrl, .inl (cC, 200, .inl lt)), (q, .inr (5, [.int (nI P), .int gr, .int (nI wd), .int (nI g), .int (nI u.2.2.2.1), .int fr, .ref qd, .ref qh, .ref qp])), (qd, .inl (cI, 8, .inl dyr)), (qh, .inl (cI, 4, .inl u.2.2.2.2.1)), (qp, .inl (cI, 4, .inl u.2.2.2.2.2))]) (kX6_readWalker l G cI cC cZ qr qrl ln at_ fk fa lt tx q qd qh qp P gr wd g wk fr hor par_ hs dh dp (by first | assumption | omega) (by first | assumption | omega) (by first | assumption | omega) (by first | assumption | omega) (by first | assumption | omega) (by first | assumption | omega) (by first | assumption | omega) (by first | assumption | omega) (by first | assumption | omega) (by first | assumption | omega)) ⟨Nat.le_of_ble_eq_true rfl, Nat.le_of_ble_eq_true rfl⟩ rfl rfl rfl (by decide) (wr := [(qd, .inl (cI, 8, .inl dyr))]) rfl (by decide) (by decide) (fun _ => rfl) (by decide) rfl rfl rfl rfl rfl (Nat.le_of_ble_eq_true rfl) (Nat.zero_le _) (Nat.zero_le _) dX6_readClause_90 (fun u_34 w_35 => ?_)
        obtain ⟨t1, kw, f1, wkn_u_34, hon_u_34, pan_u_34⟩ := u_34
        try dsimp only at w_35
        have hc := w_35
        refine J_goto (pc := 93) X 113 dX6_readClause_93 (by decide) ?_
        refine J_vret (pc := 113) X hr (t1, kw, f1, P, gr, wd, g, wkn_u_34, fr, dyr, hon_u_34, pan_u_34) dX6_readClause_113 ?_ rfl
        first | (exact absurd ((show lk tx ln at_ = 115 from by assumption).symm.trans h119) (by decide)) | (rw [← cl_walk h115 (fun z9 => absurd (htl.mp z9) (by omega)) h104 h119 hdg hdw (show ((rdWalk tx ln at_ g wk dh dp).1, (rdWalk tx ln at_ g wk dh dp).2.1, (rdWalk tx ln at_ g wk dh dp).2.2.1, (rdWalk tx ln at_ g wk dh dp).2.2.2.1, (rdWalk tx ln at_ g wk dh dp).2.2.2.2) = (rdWalk tx ln at_ g wk dh dp) from rfl)]; exact ⟨hc.1, hPl, hg, hc.2.1, hwd, fun z => dp_walk hdp (hc.2.2 z)⟩)
      refine J_look (pc := 29) (off := 75) X 104 dX6_readClause_29 rfl ((lv_osw h104 rfl).trans ((lv_osw h114 rfl).trans ((lv_osw h115 rfl).trans ((lv_osw h119 rfl).trans rfl)))) (by decide) ?_
      refine J_aload_n (pc := 104) X 1 dX6_readClause_104 rfl ?_
      refine J_iconst (pc := 105) X 1 dX6_readClause_105 (by decide) ?_
      refine J_aload_n (pc := 106) X 1 dX6_readClause_106 rfl ?_
      refine J_get (pc := 107) X clX6 0 2 rfl (by decide) g128 rfl dX6_readClause_107 ?_
      refine J_callV (pc := 110) (As := [.int 1, .int (nI at_)]) (rest := []) X mtX6_blame g327 [0] [1, 2, 3, 4, 5] [5, 0, 1, 2, 3, 4] 0 (fun u => [(qr, .inr (6, [.ref qrl, .int (nI ln), .int (nI at_), .int (nI u.1), .int u.2])), (qrl, .inl (cC, 200, .inl lt)), (q, .inr (5, [.int (nI P), .int gr, .int (nI wd), .int (nI g), .int (nI wk), .int fr, .ref qd, .ref qh, .ref qp])), (qd, .inl (cI, 8, .inl dyr)), (qh, .inl (cI, 4, .inl hor)), (qp, .inl (cI, 4, .inl par_))]) (kX6_blame l G cI cC cZ qr qrl ln at_ fk fa 1 at_ (by first | assumption | omega)) ⟨Nat.le_of_ble_eq_true rfl, Nat.le_of_ble_eq_true rfl⟩ rfl rfl rfl (by decide) (wr := [(qrl, .inl (cC, 200, .inl lt)), (q, .inr (5, [.int (nI P), .int gr, .int (nI wd), .int (nI g), .int (nI wk), .int fr, .ref qd, .ref qh, .ref qp])), (qd, .inl (cI, 8, .inl dyr)), (qh, .inl (cI, 4, .inl hor)), (qp, .inl (cI, 4, .inl par_))]) rfl (by decide) (by decide) (fun _ => rfl) (by decide) rfl rfl rfl rfl rfl (Nat.le_of_ble_eq_true rfl) (Nat.zero_le _) (Nat.zero_le _) dX6_readClause_110 (fun u_37 w_38 => ?_)
      obtain ⟨kb, fb⟩ := u_37
      try dsimp only at w_38
      have hbl := w_38
      refine J_vret (pc := 113) X hr (at_, kb, fb, P, gr, wd, g, wk, fr, dyr, hor, par_) dX6_readClause_113 ?_ rfl
      have hb9 := rdR_bad (kd := 1) (fr := at_) hrd hatl rfl (by decide) (by decide) hbl.1 hbl.2
      first | rw [← cl_no (by assumption) (htl.mpr (by omega))] | rw [← cl_bad h115 (fun z9 => absurd (htl.mp z9) (by omega)) h104 h119 h114] | exact absurd (show lk tx ln at_ = 115 from by assumption) h115
      exact ⟨hb9, hPl, hg, hwk, hwd, fun z => absurd (hb9.1.symm.trans z) (by decide)⟩
    · skip
      refine J_aload_n (pc := 18) X 1 dX6_readClause_18 rfl ?_
      refine J_iconst (pc := 19) X 1 dX6_readClause_19 (by decide) ?_
      refine J_aload_n (pc := 20) X 1 dX6_readClause_20 rfl ?_
      refine J_get (pc := 21) X clX6 0 2 rfl (by decide) g128 rfl dX6_readClause_21 ?_
      refine J_callV (pc := 24) (As := [.int 1, .int (nI at_)]) (rest := []) X mtX6_blame g327 [0] [1, 2, 3, 4, 5] [5, 0, 1, 2, 3, 4] 0 (fun u => [(qr, .inr (6, [.ref qrl, .int (nI ln), .int (nI at_), .int (nI u.1), .int u.2])), (qrl, .inl (cC, 200, .inl lt)), (q, .inr (5, [.int (nI P), .int gr, .int (nI wd), .int (nI g), .int (nI wk), .int fr, .ref qd, .ref qh, .ref qp])), (qd, .inl (cI, 8, .inl dyr)), (qh, .inl (cI, 4, .inl hor)), (qp, .inl (cI, 4, .inl par_))]) (kX6_blame l G cI cC cZ qr qrl ln at_ fk fa 1 at_ (by first | assumption | omega)) ⟨Nat.le_of_ble_eq_true rfl, Nat.le_of_ble_eq_true rfl⟩ rfl rfl rfl (by decide) (wr := [(qrl, .inl (cC, 200, .inl lt)), (q, .inr (5, [.int (nI P), .int gr, .int (nI wd), .int (nI g), .int (nI wk), .int fr, .ref qd, .ref qh, .ref qp])), (qd, .inl (cI, 8, .inl dyr)), (qh, .inl (cI, 4, .inl hor)), (qp, .inl (cI, 4, .inl par_))]) rfl (by decide) (by decide) (fun _ => rfl) (by decide) rfl rfl rfl rfl rfl (Nat.le_of_ble_eq_true rfl) (Nat.zero_le _) (Nat.zero_le _) dX6_readClause_24 (fun u_40 w_41 => ?_)
      obtain ⟨kb, fb⟩ := u_40
      try dsimp only at w_41
      have hbl := w_41
      refine J_vret (pc := 27) X hr (at_, kb, fb, P, gr, wd, g, wk, fr, dyr, hor, par_) dX6_readClause_27 ?_ rfl
      have hb9 := rdR_bad (kd := 1) (fr := at_) hrd hatl rfl (by decide) (by decide) hbl.1 hbl.2
      first | rw [← cl_no (by assumption) (htl.mpr (by omega))] | rw [← cl_bad h115 (fun z9 => absurd (htl.mp z9) (by omega)) h104 h119 h114] | exact absurd (show lk tx ln at_ = 115 from by assumption) h115
      exact ⟨hb9, hPl, hg, hwk, hwd, fun z => absurd (hb9.1.symm.trans z) (by decide)⟩
