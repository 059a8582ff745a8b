set_option maxRecDepth 100000 in
set_option maxHeartbeats 600000 in
theorem kX6_readNight (l : Launch) (G : va_G) (cI cC cZ : ClassId) (qr : Nat) (qrl : Nat) (ln : Nat) (at_ : Nat) (fk : Nat) (fa : Int32) (lt : Nat → Int32) (tx : Nat → Int32) (q : Nat) (qd : Nat) (qh : Nat) (qp : Nat) (P : Nat) (gr : Int32) (wd : Nat) (g : Nat) (wk : Nat) (fr : Int32) (tl : Int32) (dl : Nat → Int32) (hln : ln ≤ 200) (hat : at_ < ln) (hfk : fk ≤ 4) (hlt : ∀ i9, i9 < ln → lt i9 = tx i9) (hrd : rdR ln at_ fk fa at_ 0) (hPl : P ≤ 60) (hg : g ≤ 8) (hwk : wk ≤ 4) (hwd : wd ≤ 50) (htl : tl = 0 ↔ P = 0) : CV l G (tys3 cI cC cZ) yX6_readNight cX6_readNight 5 ({ frames := 3, cells := 0, slots := 0, locals := 66 }) [.ref qr, .ref q] [(qr, .inr (6, [.ref qrl, .int (nI ln), .int (nI at_), .int (nI fk), .int fa])), (qrl, .inl (cC, 200, .inl lt)), (q, .inr (5, [.int (nI P), .int gr, .int (nI wd), .int (nI g), .int (nI wk), .int fr, .ref qd, .ref qh, .ref qp]))] (S := Nat × Nat × Int32 × Nat × Int32 × Nat) (fun (u : Nat × Nat × Int32 × Nat × Int32 × Nat) => rdR ln u.1 u.2.1 u.2.2.1 (rdLaw tx ln at_ tl dl).1 (rdLaw tx ln at_ tl dl).2.1 ∧ u.2.2.2.1 ≤ 60 ∧ u.2.2.2.2.2 ≤ 50 ∧ (u.2.1 = 0 → P = 0 ∧ 0 < u.2.2.2.1 ∧ 0 < u.2.2.2.2.2 ∧ (rdLaw tx ln at_ tl dl).2.2.1 = 1 ∧ (rdLaw tx ln at_ tl dl).2.2.2 = upd (upd (upd dl 0 (nI u.2.2.2.1)) 1 u.2.2.2.2.1) 2 (nI u.2.2.2.2.2) ∧ wIn u.2.2.2.2.1 0 40)) (fun (u : Nat × Nat × Int32 × Nat × Int32 × Nat) => [(qr, .inr (6, [.ref qrl, .int (nI ln), .int (nI u.1), .int (nI u.2.1), .int u.2.2.1])), (qrl, .inl (cC, 200, .inl lt)), (q, .inr (5, [.int (nI u.2.2.2.1), .int u.2.2.2.2.1, .int (nI u.2.2.2.2.2), .int (nI g), .int (nI wk), .int fr, .ref qd, .ref qh, .ref qp]))]) := by
  refine CV.intro (by decide) (Nat.le_of_ble_eq_true rfl) ?_
  intro p0 e0 s0 m0 ar0 be0 me0 c0 A0 X hr
  have hatl : at_ ≤ ln := by omega
  have hrg : rdR ln (at_ + 1) fk fa (at_ + 1) 0 := rdR_go hrd (by omega) rfl
  refine J_aload_n (pc := 0) X 1 dX6_readNight_0 rfl ?_
  refine J_callR (pc := 1) (As := []) (rest := []) X mtX5_isTold g323 [2] 0 (kX5_isTold l G cI cC cZ q qd qh qp P gr wd g wk fr (by first | assumption | omega) (by first | assumption | omega) (by first | assumption | omega) (by first | assumption | omega)) ⟨Nat.le_of_ble_eq_true rfl, Nat.le_of_ble_eq_true rfl⟩ rfl rfl rfl (by decide) rfl rfl rfl rfl rfl (Nat.le_of_ble_eq_true rfl) (Nat.zero_le _) (Nat.zero_le _) dX6_readNight_1 (fun r_1 u_2 w_3 => ?_)
  try dsimp only at w_3
  subst w_3
  refine J_bif_eq (pc := 4) X 17 dX6_readNight_4 (by decide) (fun c_4 => ?_) (fun c_4 => ?_)
  · skip
    refine J_aload_n (pc := 17) X 0 dX6_readNight_17 rfl ?_
    refine J_dup (pc := 18) X dX6_readNight_18 rfl ?_
    refine J_get (pc := 19) X clX6 0 2 rfl (by decide) g128 rfl dX6_readNight_19 ?_
    refine J_iconst (pc := 22) X 1 dX6_readNight_22 (by decide) ?_
    refine J_iadd (pc := 23) X dX6_readNight_23 ?_
    refine J_top (y := nI (at_ + 1)) (n_add (x := at_) (y := 1) rfl rfl (by omega)) ?_
    refine J_put (pc := 24) X clX6 0 2 [(qr, .inr (6, [.ref qrl, .int (nI ln), .int (nI (at_ + 1)), .int (nI fk), .int fa])), (qrl, .inl (cC, 200, .inl lt)), (q, .inr (5, [.int (nI P), .int gr, .int (nI wd), .int (nI g), .int (nI wk), .int fr, .ref qd, .ref qh, .ref qp]))] rfl (by decide) g128 rfl rfl rfl (Nat.le_of_ble_eq_true rfl) rfl dX6_readNight_24 ?_
    refine J_aload_n (pc := 27) X 0 dX6_readNight_27 rfl ?_
    refine J_iconst (pc := 28) X 1 dX6_readNight_28 (by decide) ?_
    refine J_bipush (pc := 29) X 60 dX6_readNight_29 (by decide) ?_
    refine J_callI (pc := 31) (As := [.int 1, .int 60]) (rest := []) X mtX6_readNumber g335 [0, 1] [2] [1, 2, 0] 0 (fun u => [(qr, .inr (6, [.ref qrl, .int (nI ln), .int (nI u.1), .int (nI u.2.1), .int u.2.2])), (qrl, .inl (cC, 200, .inl lt)), (q, .inr (5, [.int (nI P), .int gr, .int (nI wd), .int (nI g), .int (nI wk), .int fr, .ref qd, .ref qh, .ref qp]))]) (kX6_readNumber l G cI cC cZ qr qrl ln (at_ + 1) fk fa lt tx (at_ + 1) 0 1 60 (by first | assumption | omega) (by first | assumption | omega) (by first | assumption | omega) (by first | assumption | omega) hrg) ⟨Nat.le_of_ble_eq_true rfl, Nat.le_of_ble_eq_true rfl⟩ rfl rfl rfl (by decide) (wr := [(q, .inr (5, [.int (nI P), .int gr, .int (nI wd), .int (nI g), .int (nI wk), .int fr, .ref qd, .ref qh, .ref qp]))]) rfl (by decide) (by decide) (fun _ => rfl) (by decide) rfl rfl rfl rfl rfl (Nat.le_of_ble_eq_true rfl) (Nat.zero_le _) (Nat.zero_le _) dX6_readNight_31 (fun v1 u_5 w_6 => ?_)
    obtain ⟨t1, k1, f1⟩ := u_5
    try dsimp only at w_6
    obtain ⟨a1, w1, x1, hn1, hr1, hv1⟩ := nm_ex w_6
    have ht1 := rdR_le hr1
    have hk1 := rdR_k hr1
    refine J_istore_n (pc := 34) X [(2, .int v1), (0, .ref qr), (1, .ref q)] dX6_readNight_34 (by decide) rfl ?_
    refine J_aload_n (pc := 35) X 1 dX6_readNight_35 rfl ?_
    refine J_iconst (pc := 36) X 0 dX6_readNight_36 (by decide) ?_
    refine J_bipush (pc := 37) X 40 dX6_readNight_37 (by decide) ?_
    refine J_callI (pc := 39) (As := [.int 0, .int 40]) (rest := []) X mtX6_readNumber g335 [0, 1] [2] [1, 2, 0] 0 (fun u => [(qr, .inr (6, [.ref qrl, .int (nI ln), .int (nI u.1), .int (nI u.2.1), .int u.2.2])), (qrl, .inl (cC, 200, .inl lt)), (q, .inr (5, [.int (nI P), .int gr, .int (nI wd), .int (nI g), .int (nI wk), .int fr, .ref qd, .ref qh, .ref qp]))]) (kX6_readNumber l G cI cC cZ qr qrl ln t1 k1 f1 lt tx a1 w1 0 40 (by first | assumption | omega) (by first | assumption | omega) (by first | assumption | omega) (by first | assumption | omega) hr1) ⟨Nat.le_of_ble_eq_true rfl, Nat.le_of_ble_eq_true rfl⟩ rfl rfl rfl (by decide) (wr := [(q, .inr (5, [.int (nI P), .int gr, .int (nI wd), .int (nI g), .int (nI wk), .int fr, .ref qd, .ref qh, .ref qp]))]) rfl (by decide) (by decide) (fun _ => rfl) (by decide) rfl rfl rfl rfl rfl (Nat.le_of_ble_eq_true rfl) (Nat.zero_le _) (Nat.zero_le _) dX6_readNight_39 (fun v2 u_7 w_8 => ?_)
    obtain ⟨t2, k2, f2⟩ := u_7
    try dsimp only at w_8
    obtain ⟨a2, w2, x2, hn2, hr2, hv2⟩ := nm_ex w_8
    have ht2 := rdR_le hr2
    have hk2 := rdR_k hr2
    refine J_istore_n (pc := 42) X [(3, .int v2), (2, .int v1), (0, .ref qr), (1, .ref q)] dX6_readNight_42 (by decide) rfl ?_
    refine J_aload_n (pc := 43) X 2 dX6_readNight_43 rfl ?_
    refine J_iconst (pc := 44) X 1 dX6_readNight_44 (by decide) ?_
    refine J_bipush (pc := 45) X 50 dX6_readNight_45 (by decide) ?_
    refine J_callI (pc := 47) (As := [.int 1, .int 50]) (rest := []) X mtX6_readNumber g335 [0, 1] [2] [1, 2, 0] 0 (fun u => [(qr, .inr (6, [.ref qrl, .int (nI ln), .int (nI u.1), .int (nI u.2.1), .int u.2.2])), (qrl, .inl (cC, 200, .inl lt)), (q, .inr (5, [.int (nI P), .int gr, .int (nI wd), .int (nI g), .int (nI wk), .int fr, .ref qd, .ref qh, .ref qp]))]) (kX6_readNumber l G cI cC cZ qr qrl ln t2 k2 f2 lt tx a2 w2 1 50 (by first | assumption | omega) (by first | assumption | omega) (by first | assumption | omega) (by first | assumption | omega) hr2) ⟨Nat.le_of_ble_eq_true rfl, Nat.le_of_ble_eq_true rfl⟩ rfl rfl rfl (by decide) (wr := [(q, .inr (5, [.int (nI P), .int gr, .int (nI wd), .int (nI g), .int (nI wk), .int fr, .ref qd, .ref qh, .ref qp]))]) rfl (by decide) (by decide) (fun _ => rfl) (by decide) rfl rfl rfl rfl rfl (Nat.le_of_ble_eq_true rfl) (Nat.zero_le _) (Nat.zero_le _) dX6_readNight_47 (fun v3 u_9 w_10 => ?_)
    obtain ⟨t3, k3, f3⟩ := u_9
    try dsimp only at w_10
    obtain ⟨a3, w3, x3, hn3, hr3, hv3⟩ := nm_ex w_10
    have ht3 := rdR_le hr3
    have hk3 := rdR_k hr3
    refine J_istore (pc := 50) X [(4, .int v3), (3, .int v2), (2, .int v1), (0, .ref qr), (1, .ref q)] dX6_readNight_50 (by decide) rfl ?_
    refine J_aload_n (pc := 52) X 3 dX6_readNight_52 rfl ?_
    refine J_callV (pc := 53) (As := []) (rest := []) X mtX6_readEnd g342 [0, 1] [2] [1, 2, 0] 0 (fun u => [(qr, .inr (6, [.ref qrl, .int (nI ln), .int (nI u.1), .int (nI u.2.1), .int u.2.2])), (qrl, .inl (cC, 200, .inl lt)), (q, .inr (5, [.int (nI P), .int gr, .int (nI wd), .int (nI g), .int (nI wk), .int fr, .ref qd, .ref qh, .ref qp]))]) (kX6_readEnd l G cI cC cZ qr qrl ln t3 k3 f3 lt tx a3 w3 (by first | assumption | omega) (by first | assumption | omega) (by first | assumption | omega) (by first | assumption | omega) hr3) ⟨Nat.le_of_ble_eq_true rfl, Nat.le_of_ble_eq_true rfl⟩ rfl rfl rfl (by decide) (wr := [(q, .inr (5, [.int (nI P), .int gr, .int (nI wd), .int (nI g), .int (nI wk), .int fr, .ref qd, .ref qh, .ref qp]))]) rfl (by decide) (by decide) (fun _ => rfl) (by decide) rfl rfl rfl rfl rfl (Nat.le_of_ble_eq_true rfl) (Nat.zero_le _) (Nat.zero_le _) dX6_readNight_53 (fun u_12 w_13 => ?_)
    obtain ⟨t4, k4, f4⟩ := u_12
    try dsimp only at w_13
    obtain ⟨a4, w4, hn4, hr4, hv4⟩ := wd_ex w_13
    have ht4 := rdR_le hr4
    have hk4 := rdR_k hr4
    refine J_aload_n (pc := 56) X 3 dX6_readNight_56 rfl ?_
    refine J_callR (pc := 57) (As := []) (rest := []) X mtX6_hasFault g315 [0] 0 (kX6_hasFault l G cI cC cZ qr qrl ln t4 k4 f4 (by first | assumption | omega)) ⟨Nat.le_of_ble_eq_true rfl, Nat.le_of_ble_eq_true rfl⟩ rfl rfl rfl (by decide) rfl rfl rfl rfl rfl (Nat.le_of_ble_eq_true rfl) (Nat.zero_le _) (Nat.zero_le _) dX6_readNight_57 (fun r_14 u_15 w_16 => ?_)
    try dsimp only at w_16
    subst w_16
    refine J_bif_ne (pc := 60) X 71 dX6_readNight_60 (by decide) (fun c_17 => ?_) (fun c_17 => ?_)
    · skip
      refine J_vret (pc := 71) X hr (t4, k4, f4, P, gr, wd) dX6_readNight_71 ?_ rfl
      have e9 := rdLaw_t (dl := dl) (htl.mpr (by omega)) hn1 hn2 hn3 hn4
      rw [← e9]
      exact ⟨hr4, hPl, hwd, fun z => absurd z (by omega)⟩
    · skip
      have z4 := hv4 (by omega)
      have z3 := hv3 (hr3.1.trans z4)
      have z2 := hv2 (hr2.1.trans z3.2.1)
      have z1 := hv1 (hr1.1.trans z2.2.1)
      obtain ⟨Pq, hPq1, hPq2, rfl⟩ := wIn_ex 1 60 (by decide) (by decide) z1.2.2
      obtain ⟨wq, hwq1, hwq2, rfl⟩ := wIn_ex 1 50 (by decide) (by decide) z3.2.2
      refine J_aload_n (pc := 63) X 4 dX6_readNight_63 rfl ?_
      refine J_iload_n (pc := 64) X 2 dX6_readNight_64 rfl ?_
      refine J_iload_n (pc := 65) X 1 dX6_readNight_65 rfl ?_
      refine J_iload (pc := 66) X 0 dX6_readNight_66 rfl ?_
      refine J_callV (pc := 68) (As := [.int (nI Pq), .int v2, .int (nI wq)]) (rest := []) X mtX5_tellNight g346 [2] [0, 1] [0, 1, 2] 0 (fun u => [(qr, .inr (6, [.ref qrl, .int (nI ln), .int (nI t4), .int (nI k4), .int f4])), (qrl, .inl (cC, 200, .inl lt)), (q, .inr (5, [.int (nI Pq), .int v2, .int (nI wq), .int (nI g), .int (nI wk), .int fr, .ref qd, .ref qh, .ref qp]))]) (kX5_tellNight l G cI cC cZ q qd qh qp P gr wd g wk fr Pq v2 wq ) ⟨Nat.le_of_ble_eq_true rfl, Nat.le_of_ble_eq_true rfl⟩ rfl rfl rfl (by decide) (wr := [(qr, .inr (6, [.ref qrl, .int (nI ln), .int (nI t4), .int (nI k4), .int f4])), (qrl, .inl (cC, 200, .inl lt))]) rfl (by decide) (by decide) (fun _ => rfl) (by decide) rfl rfl rfl rfl rfl (Nat.le_of_ble_eq_true rfl) (Nat.zero_le _) (Nat.zero_le _) dX6_readNight_68 (fun u_19 w_20 => ?_)
      try dsimp only at w_20
      refine J_vret (pc := 71) X hr (t4, k4, f4, Pq, v2, wq) dX6_readNight_71 ?_ rfl
      have e9 := rdLaw_t (dl := dl) (htl.mpr (by omega)) hn1 hn2 hn3 hn4
      rw [← e9]
      exact ⟨hr4, hPq2, hwq2, fun _ => ⟨by omega, (show 0 < Pq from by omega), (show 0 < wq from by omega), rfl, by rw [z1.1, z2.1, z3.1], z2.2.2⟩⟩
  · skip
    refine J_aload_n (pc := 7) X 0 dX6_readNight_7 rfl ?_
    refine J_iconst (pc := 8) X 3 dX6_readNight_8 (by decide) ?_
    refine J_aload_n (pc := 9) X 0 dX6_readNight_9 rfl ?_
    refine J_get (pc := 10) X clX6 0 2 rfl (by decide) g128 rfl dX6_readNight_10 ?_
    refine J_callV (pc := 13) (As := [.int 3, .int (nI at_)]) (rest := []) X mtX6_blame g327 [0] [1, 2] [2, 0, 1] 0 (fun u => [(qr, .inr (6, [.ref qrl, .int (nI ln), .int (nI at_), .int (nI u.1), .int u.2])), (qrl, .inl (cC, 200, .inl lt)), (q, .inr (5, [.int (nI P), .int gr, .int (nI wd), .int (nI g), .int (nI wk), .int fr, .ref qd, .ref qh, .ref qp]))]) (kX6_blame l G cI cC cZ qr qrl ln at_ fk fa 3 at_ (by first | assumption | omega)) ⟨Nat.le_of_ble_eq_true rfl, Nat.le_of_ble_eq_true rfl⟩ rfl rfl rfl (by decide) (wr := [(qrl, .inl (cC, 200, .inl lt)), (q, .inr (5, [.int (nI P), .int gr, .int (nI wd), .int (nI g), .int (nI wk), .int fr, .ref qd, .ref qh, .ref qp]))]) rfl (by decide) (by decide) (fun _ => rfl) (by decide) rfl rfl rfl rfl rfl (Nat.le_of_ble_eq_true rfl) (Nat.zero_le _) (Nat.zero_le _) dX6_readNight_13 (fun u_22 w_23 => ?_)
    obtain ⟨kb, fb⟩ := u_22
    try dsimp only at w_23
    have hbl := w_23
    refine J_vret (pc := 16) X hr (at_, kb, fb, P, gr, wd) dX6_readNight_16 ?_ rfl
    rw [show rdLaw tx ln at_ tl dl = (at_, 3, tl, dl) from if_neg (fun z => absurd (htl.mp z) (by omega))]
    have hb9 := rdR_bad (kd := 3) (fr := at_) hrd hatl rfl (by decide) (by decide) hbl.1 hbl.2
    exact ⟨hb9, hPl, hwd, fun z => absurd (hb9.1.symm.trans z) (by decide)⟩
set_option maxRecDepth 100000 in
set_option maxHeartbeats 600000 in
theorem kX6_readWalker (l : Launch) (G : va_G) (cI cC cZ : ClassId) (qr : Nat) (qrl : Nat) (ln : Nat) (at_ : Nat) (fk : Nat) (fa : Int32) (lt : Nat → Int32) (tx : Nat → Int32) (q : Nat) (qd : Nat) (qh : Nat) (qp : Nat) (P : Nat) (gr : Int32) (wd : Nat) (g : Nat) (wk : Nat) (fr : Int32) (hor : Nat → Int32) (par_ : Nat → Int32) (hs : Nat) (dh : Nat → Int32) (dp : Nat → Int32) (hln : ln ≤ 200) (hat : at_ < ln) (hfk : fk ≤ 4) (hlt : ∀ i9, i9 < ln → lt i9 = tx i9) (hrd : rdR ln at_ fk fa at_ 0) (hPl : P ≤ 60) (hg : g ≤ 8) (hwk : wk ≤ 4) (hwd : wd ≤ 50) (hhs : (g = 0 ∧ hs = 0) ∨ (0 < g ∧ hs = g + 1)) : CV l G (tys3 cI cC cZ) yX6_readWalker cX6_readWalker 4 ({ frames := 3, cells := 0, slots := 0, locals := 66 }) [.ref qr, .ref q] [(qr, .inr (6, [.ref qrl, .int (nI ln), .int (nI at_), .int (nI fk), .int fa])), (qrl, .inl (cC, 200, .inl lt)), (q, .inr (5, [.int (nI P), .int gr, .int (nI wd), .int (nI g), .int (nI wk), .int fr, .ref qd, .ref qh, .ref qp])), (qh, .inl (cI, 4, .inl hor)), (qp, .inl (cI, 4, .inl par_))] (S := Nat × Nat × Int32 × Nat × (Nat → Int32) × (Nat → Int32)) (fun (u : Nat × Nat × Int32 × Nat × (Nat → Int32) × (Nat → Int32)) => rdR ln u.1 u.2.1 u.2.2.1 (rdWalk tx ln at_ g wk dh dp).1 (rdWalk tx ln at_ g wk dh dp).2.1 ∧ u.2.2.2.1 ≤ 4 ∧ (u.2.1 = 0 → u.2.2.2.1 = wk + 1 ∧ (rdWalk tx ln at_ g wk dh dp).2.2.1 = wk + 1 ∧ ∃ x9 y9 : Int32, (rdWalk tx ln at_ g wk dh dp).2.2.2.1 = upd dh wk x9 ∧ (rdWalk tx ln at_ g wk dh dp).2.2.2.2 = upd dp wk y9 ∧ u.2.2.2.2.1 = upd hor wk x9 ∧ u.2.2.2.2.2 = upd par_ wk y9 ∧ wIn x9 0 (nI hs - 1) ∧ wIn y9 1 40)) (fun (u : Nat × Nat × Int32 × Nat × (Nat → Int32) × (Nat → Int32)) => [(qr, .inr (6, [.ref qrl, .int (nI ln), .int (nI u.1), .int (nI u.2.1), .int u.2.2.1])), (qrl, .inl (cC, 200, .inl lt)), (q, .inr (5, [.int (nI P), .int gr, .int (nI wd), .int (nI g), .int (nI u.2.2.2.1), .int fr, .ref qd, .ref qh, .ref qp])), (qh, .inl (cI, 4, .inl u.2.2.2.2.1)), (qp, .inl (cI, 4, .inl u.2.2.2.2.2))]) := by
  refine CV.intro (by decide) (Nat.le_of_ble_eq_true rfl) ?_
  intro p0 e0 s0 m0 ar0 be0 me0 c0 A0 X hr
  have hatl : at_ ≤ ln := by omega
  have hrg : rdR ln (at_ + 1) fk fa (at_ + 1) 0 := rdR_go hrd (by omega) rfl
  refine J_aload_n (pc := 0) X 1 dX6_readWalker_0 rfl ?_
  refine J_callR (pc := 1) (As := []) (rest := []) X mtX5_walkerCount g366 [2] 0 (kX5_walkerCount l G cI cC cZ q qd qh qp P gr wd g wk fr ) ⟨Nat.le_of_ble_eq_true rfl, Nat.le_of_ble_eq_true rfl⟩ rfl rfl rfl (by decide) rfl rfl rfl rfl rfl (Nat.le_of_ble_eq_true rfl) (Nat.zero_le _) (Nat.zero_le _) dX6_readWalker_1 (fun r_1 u_2 w_3 => ?_)
  try dsimp only at w_3
  subst w_3
  refine J_iconst (pc := 4) X 4 dX6_readWalker_4 (by decide) ?_
  refine J_icmp_lt (pc := 5) X 18 dX6_readWalker_5 (by decide) (fun c_4 => ?_) (fun c_4 => ?_)
  · have c_4 : wk < 4 := n_lt_of (a := wk) (b := 4) (by omega) (by omega) c_4
    refine J_aload_n (pc := 18) X 0 dX6_readWalker_18 rfl ?_
    refine J_dup (pc := 19) X dX6_readWalker_19 rfl ?_
    refine J_get (pc := 20) X clX6 0 2 rfl (by decide) g128 rfl dX6_readWalker_20 ?_
    refine J_iconst (pc := 23) X 1 dX6_readWalker_23 (by decide) ?_
    refine J_iadd (pc := 24) X dX6_readWalker_24 ?_
    refine J_top (y := nI (at_ + 1)) (n_add (x := at_) (y := 1) rfl rfl (by omega)) ?_
    refine J_put (pc := 25) X clX6 0 2 [(qr, .inr (6, [.ref qrl, .int (nI ln), .int (nI (at_ + 1)), .int (nI fk), .int fa])), (qrl, .inl (cC, 200, .inl lt)), (q, .inr (5, [.int (nI P), .int gr, .int (nI wd), .int (nI g), .int (nI wk), .int fr, .ref qd, .ref qh, .ref qp])), (qh, .inl (cI, 4, .inl hor)), (qp, .inl (cI, 4, .inl par_))] rfl (by decide) g128 rfl rfl rfl (Nat.le_of_ble_eq_true rfl) rfl dX6_readWalker_25 ?_
    refine J_aload_n (pc := 28) X 0 dX6_readWalker_28 rfl ?_
    refine J_iconst (pc := 29) X 0 dX6_readWalker_29 (by decide) ?_
    refine J_aload_n (pc := 30) X 1 dX6_readWalker_30 rfl ?_
    refine J_callR (pc := 31) (As := []) (rest := [.int 0, .ref qr]) X mtX5_houseCount g370 [2] 0 (kX5_houseCount l G cI cC cZ q qd qh qp P gr wd g wk fr hs (by first | assumption | omega) (by first | assumption | omega) (by first | assumption | omega) (by first | assumption | omega) (by first | assumption | omega)) ⟨Nat.le_of_ble_eq_true rfl, Nat.le_of_ble_eq_true rfl⟩ rfl rfl rfl (by decide) rfl rfl rfl rfl rfl (Nat.le_of_ble_eq_true rfl) (Nat.zero_le _) (Nat.zero_le _) dX6_readWalker_31 (fun r_5 u_6 w_7 => ?_)
    try dsimp only at w_7
    subst w_7
    refine J_iconst (pc := 34) X 1 dX6_readWalker_34 (by decide) ?_
    refine J_isub (pc := 35) X dX6_readWalker_35 ?_
    refine J_callI (pc := 36) (As := [.int 0, .int ((nI hs) - 1)]) (rest := []) X mtX6_readNumber g335 [0, 1] [2, 3, 4] [3, 4, 0, 1, 2] 0 (fun u => [(qr, .inr (6, [.ref qrl, .int (nI ln), .int (nI u.1), .int (nI u.2.1), .int u.2.2])), (qrl, .inl (cC, 200, .inl lt)), (q, .inr (5, [.int (nI P), .int gr, .int (nI wd), .int (nI g), .int (nI wk), .int fr, .ref qd, .ref qh, .ref qp])), (qh, .inl (cI, 4, .inl hor)), (qp, .inl (cI, 4, .inl par_))]) (kX6_readNumber l G cI cC cZ qr qrl ln (at_ + 1) fk fa lt tx (at_ + 1) 0 0 ((nI hs) - 1) (by first | assumption | omega) (by first | assumption | omega) (by first | assumption | omega) (by first | assumption | omega) hrg) ⟨Nat.le_of_ble_eq_true rfl, Nat.le_of_ble_eq_true rfl⟩ rfl rfl rfl (by decide) (wr := [(q, .inr (5, [.int (nI P), .int gr, .int (nI wd), .int (nI g), .int (nI wk), .int fr, .ref qd, .ref qh, .ref qp])), (qh, .inl (cI, 4, .inl hor)), (qp, .inl (cI, 4, .inl par_))]) rfl (by decide) (by decide) (fun _ => rfl) (by decide) rfl rfl rfl rfl rfl (Nat.le_of_ble_eq_true rfl) (Nat.zero_le _) (Nat.zero_le _) dX6_readWalker_36 (fun v1 u_8 w_9 => ?_)
    obtain ⟨t1, k1, f1⟩ := u_8
    try dsimp only at w_9
    obtain ⟨a1, w1, x1, hn1, hr1, hv1⟩ := nm_ex w_9
    have ht1 := rdR_le hr1
    have hk1 := rdR_k hr1
    refine J_istore_n (pc := 39) X [(2, .int v1), (0, .ref qr), (1, .ref q)] dX6_readWalker_39 (by decide) rfl ?_
    refine J_aload_n (pc := 40) X 1 dX6_readWalker_40 rfl ?_
    refine J_iconst (pc := 41) X 1 dX6_readWalker_41 (by decide) ?_
    refine J_bipush (pc := 42) X 40 dX6_readWalker_42 (by decide) ?_
    refine J_callI (pc := 44) (As := [.int 1, .int 40]) (rest := []) X mtX6_readNumber g335 [0, 1] [2, 3, 4] [3, 4, 0, 1, 2] 0 (fun u => [(qr, .inr (6, [.ref qrl, .int (nI ln), .int (nI u.1), .int (nI u.2.1), .int u.2.2])), (qrl, .inl (cC, 200, .inl lt)), (q, .inr (5, [.int (nI P), .int gr, .int (nI wd), .int (nI g), .int (nI wk), .int fr, .ref qd, .ref qh, .ref qp])), (qh, .inl (cI, 4, .inl hor)), (qp, .inl (cI, 4, .inl par_))]) (kX6_readNumber l G cI cC cZ qr qrl ln t1 k1 f1 lt tx a1 w1 1 40 (by first | assumption | omega) (by first | assumption | omega) (by first | assumption | omega) (by first | assumption | omega) hr1) ⟨Nat.le_of_ble_eq_true rfl, Nat.le_of_ble_eq_true rfl⟩ rfl rfl rfl (by decide) (wr := [(q, .inr (5, [.int (nI P), .int gr, .int (nI wd), .int (nI g), .int (nI wk), .int fr, .ref qd, .ref qh, .ref qp])), (qh, .inl (cI, 4, .inl hor)), (qp, .inl (cI, 4, .inl par_))]) rfl (by decide) (by decide) (fun _ => rfl) (by decide) rfl rfl rfl rfl rfl (Nat.le_of_ble_eq_true rfl) (Nat.zero_le _) (Nat.zero_le _) dX6_readWalker_44 (fun v2 u_10 w_11 => ?_)
    obtain ⟨t2, k2, f2⟩ := u_10
    try dsimp only at w_11
    obtain ⟨a2, w2, x2, hn2, hr2, hv2⟩ := nm_ex w_11
    have ht2 := rdR_le hr2
    have hk2 := rdR_k hr2
    refine J_istore_n (pc := 47) X [(3, .int v2), (2, .int v1), (0, .ref qr), (1, .ref q)] dX6_readWalker_47 (by decide) rfl ?_
    refine J_aload_n (pc := 48) X 2 dX6_readWalker_48 rfl ?_
    refine J_callV (pc := 49) (As := []) (rest := []) X mtX6_readEnd g342 [0, 1] [2, 3, 4] [3, 4, 0, 1, 2] 0 (fun u => [(qr, .inr (6, [.ref qrl, .int (nI ln), .int (nI u.1), .int (nI u.2.1), .int u.2.2])), (qrl, .inl (cC, 200, .inl lt)), (q, .inr (5, [.int (nI P), .int gr, .int (nI wd), .int (nI g), .int (nI wk), .int fr, .ref qd, .ref qh, .ref qp])), (qh, .inl (cI, 4, .inl hor)), (qp, .inl (cI, 4, .inl par_))]) (kX6_readEnd l G cI cC cZ qr qrl ln t2 k2 f2 lt tx a2 w2 (by first | assumption | omega) (by first | assumption | omega) (by first | assumption | omega) (by first | assumption | omega) hr2) ⟨Nat.le_of_ble_eq_true rfl, Nat.le_of_ble_eq_true rfl⟩ rfl rfl rfl (by decide) (wr := [(q, .inr (5, [.int (nI P), .int gr, .int (nI wd), .int (nI g), .int (nI wk), .int fr, .ref qd, .ref qh, .ref qp])), (qh, .inl (cI, 4, .inl hor)), (qp, .inl (cI, 4, .inl par_))]) rfl (by decide) (by decide) (fun _ => rfl) (by decide) rfl rfl rfl rfl rfl (Nat.le_of_ble_eq_true rfl) (Nat.zero_le _) (Nat.zero_le _) dX6_readWalker_49 (fun u_13 w_14 => ?_)
    obtain ⟨t4, k4, f4⟩ := u_13
    try dsimp only at w_14
    obtain ⟨a4, w4, hn4, hr4, hv4⟩ := wd_ex w_14
    have ht4 := rdR_le hr4
    have hk4 := rdR_k hr4
    refine J_aload_n (pc := 52) X 3 dX6_readWalker_52 rfl ?_
    refine J_iload_n (pc := 53) X 1 dX6_readWalker_53 rfl ?_
    refine J_iload_n (pc := 54) X 0 dX6_readWalker_54 rfl ?_
    refine J_callV (pc := 55) (As := [.int v1, .int v2]) (rest := []) X mtX5_addWalker g374 [2, 3, 4] [0, 1] [0, 1, 2, 3, 4] 0 (fun u => [(qr, .inr (6, [.ref qrl, .int (nI ln), .int (nI t4), .int (nI k4), .int f4])), (qrl, .inl (cC, 200, .inl lt)), (q, .inr (5, [.int (nI P), .int gr, .int (nI wd), .int (nI g), .int (nI (wk + 1)), .int fr, .ref qd, .ref qh, .ref qp])), (qh, .inl (cI, 4, .inl (upd hor wk v1))), (qp, .inl (cI, 4, .inl (upd par_ wk v2)))]) (kX5_addWalker l G cI cC cZ q qd qh qp P gr wd g wk fr hor par_ v1 v2 (by first | assumption | omega)) ⟨Nat.le_of_ble_eq_true rfl, Nat.le_of_ble_eq_true rfl⟩ rfl rfl rfl (by decide) (wr := [(qr, .inr (6, [.ref qrl, .int (nI ln), .int (nI t4), .int (nI k4), .int f4])), (qrl, .inl (cC, 200, .inl lt))]) rfl (by decide) (by decide) (fun _ => rfl) (by decide) rfl rfl rfl rfl rfl (Nat.le_of_ble_eq_true rfl) (Nat.zero_le _) (Nat.zero_le _) dX6_readWalker_55 (fun u_16 w_17 => ?_)
    try dsimp only at w_17
    refine J_vret (pc := 58) X hr (t4, k4, f4, (wk + 1), (upd hor wk v1), (upd par_ wk v2)) dX6_readWalker_58 ?_ rfl
    have e9 := rdWalk_t (dh := dh) (dp := dp) (show ¬ wk = 4 from by omega) (hs_x hhs) hn1 hn2 hn4
    rw [← e9]
    refine ⟨hr4, (show wk + 1 ≤ 4 from by omega), fun z => ?_⟩
    have z2 := hv2 (hr2.1.trans (hv4 z))
    have z1 := hv1 (hr1.1.trans z2.2.1)
    exact ⟨rfl, rfl, v1, v2, by rw [z1.1], by rw [z2.1], rfl, rfl, z1.2.2, z2.2.2⟩
  · have c_4 : 4 ≤ wk := n_nlt_of (a := wk) (b := 4) (by omega) (by omega) c_4
    refine J_aload_n (pc := 8) X 0 dX6_readWalker_8 rfl ?_
    refine J_iconst (pc := 9) X 3 dX6_readWalker_9 (by decide) ?_
    refine J_aload_n (pc := 10) X 0 dX6_readWalker_10 rfl ?_
    refine J_get (pc := 11) X clX6 0 2 rfl (by decide) g128 rfl dX6_readWalker_11 ?_
    refine J_callV (pc := 14) (As := [.int 3, .int (nI at_)]) (rest := []) X mtX6_blame g327 [0] [1, 2, 3, 4] [4, 0, 1, 2, 3] 0 (fun u => [(qr, .inr (6, [.ref qrl, .int (nI ln), .int (nI at_), .int (nI u.1), .int u.2])), (qrl, .inl (cC, 200, .inl lt)), (q, .inr (5, [.int (nI P), .int gr, .int (nI wd), .int (nI g), .int (nI wk), .int fr, .ref qd, .ref qh, .ref qp])), (qh, .inl (cI, 4, .inl hor)), (qp, .inl (cI, 4, .inl par_))]) (kX6_blame l G cI cC cZ qr qrl ln at_ fk fa 3 at_ (by first | assumption | omega)) ⟨Nat.le_of_ble_eq_true rfl, Nat.le_of_ble_eq_true rfl⟩ rfl rfl rfl (by decide) (wr := [(qrl, .inl (cC, 200, .inl lt)), (q, .inr (5, [.int (nI P), .int gr, .int (nI wd), .int (nI g), .int (nI wk), .int fr, .ref qd, .ref qh, .ref qp])), (qh, .inl (cI, 4, .inl hor)), (qp, .inl (cI, 4, .inl par_))]) rfl (by decide) (by decide) (fun _ => rfl) (by decide) rfl rfl rfl rfl rfl (Nat.le_of_ble_eq_true rfl) (Nat.zero_le _) (Nat.zero_le _) dX6_readWalker_14 (fun u_19 w_20 => ?_)
    obtain ⟨kb, fb⟩ := u_19
    try dsimp only at w_20
    have hbl := w_20
    refine J_vret (pc := 17) X hr (at_, kb, fb, wk, hor, par_) dX6_readWalker_17 ?_ rfl
    rw [show rdWalk tx ln at_ g wk dh dp = (at_, 3, wk, dh, dp) from if_pos (by omega)]
    have hb9 := rdR_bad (kd := 3) (fr := at_) hrd hatl rfl (by decide) (by decide) hbl.1 hbl.2
    exact ⟨hb9, hwk, fun z => absurd (hb9.1.symm.trans z) (by decide)⟩
set_option maxRecDepth 100000 in
set_option maxHeartbeats 600000 in
theorem kX6_readRope (l : Launch) (G : va_G) (cI cC cZ : ClassId) (qr : Nat) (qrl : Nat) (ln : Nat) (at_ : Nat) (fk : Nat) (fa : Int32) (lt : Nat → Int32) (tx : Nat → Int32) (q : Nat) (qd : Nat) (qh : Nat) (qp : Nat) (P : Nat) (gr : Int32) (wd : Nat) (g : Nat) (wk : Nat) (fr : Int32) (hln : ln ≤ 200) (hat : at_ < ln) (hfk : fk ≤ 4) (hlt : ∀ i9, i9 < ln → lt i9 = tx i9) (hrd : rdR ln at_ fk fa at_ 0) (hPl : P ≤ 60) (hg : g ≤ 8) (hwk : wk ≤ 4) (hwd : wd ≤ 50) : CV l G (tys3 cI cC cZ) yX6_readRope cX6_readRope 4 ({ frames := 3, cells := 0, slots := 0, locals := 66 }) [.ref qr, .ref q] [(qr, .inr (6, [.ref qrl, .int (nI ln), .int (nI at_), .int (nI fk), .int fa])), (qrl, .inl (cC, 200, .inl lt)), (q, .inr (5, [.int (nI P), .int gr, .int (nI wd), .int (nI g), .int (nI wk), .int fr, .ref qd, .ref qh, .ref qp]))] (S := Nat × Nat × Int32 × Int32) (fun (u : Nat × Nat × Int32 × Int32) => rdR ln u.1 u.2.1 u.2.2.1 (rdRope tx ln at_ g fr).1 (rdRope tx ln at_ g fr).2.1 ∧ (u.2.1 = 0 → u.2.2.2 = (rdRope tx ln at_ g fr).2.2)) (fun (u : Nat × Nat × Int32 × Int32) => [(qr, .inr (6, [.ref qrl, .int (nI ln), .int (nI u.1), .int (nI u.2.1), .int u.2.2.1])), (qrl, .inl (cC, 200, .inl lt)), (q, .inr (5, [.int (nI P), .int gr, .int (nI wd), .int (nI g), .int (nI wk), .int u.2.2.2, .ref qd, .ref qh, .ref qp]))]) := by
  refine CV.intro (by decide) (Nat.le_of_ble_eq_true rfl) ?_
  intro p0 e0 s0 m0 ar0 be0 me0 c0 A0 X hr
  have hatl : at_ ≤ ln := by omega
  have hrg : rdR ln (at_ + 1) fk fa (at_ + 1) 0 := rdR_go hrd (by omega) rfl
  refine J_aload_n (pc := 0) X 0 dX6_readRope_0 rfl ?_
  refine J_dup (pc := 1) X dX6_readRope_1 rfl ?_
  refine J_get (pc := 2) X clX6 0 2 rfl (by decide) g128 rfl dX6_readRope_2 ?_
  refine J_iconst (pc := 5) X 1 dX6_readRope_5 (by decide) ?_
  refine J_iadd (pc := 6) X dX6_readRope_6 ?_
  refine J_top (y := nI (at_ + 1)) (n_add (x := at_) (y := 1) rfl rfl (by omega)) ?_
  refine J_put (pc := 7) X clX6 0 2 [(qr, .inr (6, [.ref qrl, .int (nI ln), .int (nI (at_ + 1)), .int (nI fk), .int fa])), (qrl, .inl (cC, 200, .inl lt)), (q, .inr (5, [.int (nI P), .int gr, .int (nI wd), .int (nI g), .int (nI wk), .int fr, .ref qd, .ref qh, .ref qp]))] rfl (by decide) g128 rfl rfl rfl (Nat.le_of_ble_eq_true rfl) rfl dX6_readRope_7 ?_
  refine J_aload_n (pc := 10) X 0 dX6_readRope_10 rfl ?_
  refine J_callV (pc := 11) (As := []) (rest := []) X mtX6_skipBlanks g307 [0, 1] [2] [1, 2, 0] 0 (fun u => [(qr, .inr (6, [.ref qrl, .int (nI ln), .int (nI u), .int (nI fk), .int fa])), (qrl, .inl (cC, 200, .inl lt)), (q, .inr (5, [.int (nI P), .int gr, .int (nI wd), .int (nI g), .int (nI wk), .int fr, .ref qd, .ref qh, .ref qp]))]) (kX6_skipBlanks l G cI cC cZ qr qrl ln (at_ + 1) fk fa lt tx (by first | assumption | omega) (by first | assumption | omega) (by first | assumption | omega) (by first | assumption | omega)) ⟨Nat.le_of_ble_eq_true rfl, Nat.le_of_ble_eq_true rfl⟩ rfl rfl rfl (by decide) (wr := [(q, .inr (5, [.int (nI P), .int gr, .int (nI wd), .int (nI g), .int (nI wk), .int fr, .ref qd, .ref qh, .ref qp]))]) rfl (by decide) (by decide) (fun _ => rfl) (by decide) rfl rfl rfl rfl rfl (Nat.le_of_ble_eq_true rfl) (Nat.zero_le _) (Nat.zero_le _) dX6_readRope_11 (fun u_2 w_3 => ?_)
  obtain ⟨i1, rfl⟩ : ∃ z, z = u_2 := ⟨_, rfl⟩
  try dsimp only at w_3
  have hi1 := w_3
  have hil : i1 ≤ ln := by rw [hi1]; exact sk_le (by omega)
  have hri : rdR ln i1 fk fa i1 0 := rdR_go hrd hil rfl
  refine J_aload_n (pc := 14) X 0 dX6_readRope_14 rfl ?_
  refine J_get (pc := 15) X clX6 0 2 rfl (by decide) g128 rfl dX6_readRope_15 ?_
  refine J_istore_n (pc := 18) X [(2, .int (nI i1)), (0, .ref qr), (1, .ref q)] dX6_readRope_18 (by decide) rfl ?_
  refine J_aload_n (pc := 19) X 1 dX6_readRope_19 rfl ?_
  refine J_iconst (pc := 20) X 0 dX6_readRope_20 (by decide) ?_
  refine J_aload_n (pc := 21) X 2 dX6_readRope_21 rfl ?_
  refine J_callR (pc := 22) (As := []) (rest := [.int 0, .ref qr]) X mtX5_gapCount g354 [2] 0 (kX5_gapCount l G cI cC cZ q qd qh qp P gr wd g wk fr ) ⟨Nat.le_of_ble_eq_true rfl, Nat.le_of_ble_eq_true rfl⟩ rfl rfl rfl (by decide) rfl rfl rfl rfl rfl (Nat.le_of_ble_eq_true rfl) (Nat.zero_le _) (Nat.zero_le _) dX6_readRope_22 (fun r_4 u_5 w_6 => ?_)
  try dsimp only at w_6
  subst w_6
  refine J_iconst (pc := 25) X 1 dX6_readRope_25 (by decide) ?_
  refine J_isub (pc := 26) X dX6_readRope_26 ?_
  refine J_callI (pc := 27) (As := [.int 0, .int ((nI g) - 1)]) (rest := []) X mtX6_readNumber g335 [0, 1] [2] [1, 2, 0] 0 (fun u => [(qr, .inr (6, [.ref qrl, .int (nI ln), .int (nI u.1), .int (nI u.2.1), .int u.2.2])), (qrl, .inl (cC, 200, .inl lt)), (q, .inr (5, [.int (nI P), .int gr, .int (nI wd), .int (nI g), .int (nI wk), .int fr, .ref qd, .ref qh, .ref qp]))]) (kX6_readNumber l G cI cC cZ qr qrl ln i1 fk fa lt tx i1 0 0 ((nI g) - 1) (by first | assumption | omega) (by first | assumption | omega) (by first | assumption | omega) (by first | assumption | omega) hri) ⟨Nat.le_of_ble_eq_true rfl, Nat.le_of_ble_eq_true rfl⟩ rfl rfl rfl (by decide) (wr := [(q, .inr (5, [.int (nI P), .int gr, .int (nI wd), .int (nI g), .int (nI wk), .int fr, .ref qd, .ref qh, .ref qp]))]) rfl (by decide) (by decide) (fun _ => rfl) (by decide) rfl rfl rfl rfl rfl (Nat.le_of_ble_eq_true rfl) (Nat.zero_le _) (Nat.zero_le _) dX6_readRope_27 (fun v1 u_7 w_8 => ?_)
  obtain ⟨t1, k1, f1⟩ := u_7
  try dsimp only at w_8
  obtain ⟨a1, w1, x1, hn1, hr1, hv1⟩ := nm_ex w_8
  have ht1 := rdR_le hr1
  have hk1 := rdR_k hr1
  refine J_istore_n (pc := 30) X [(3, .int v1), (2, .int (nI i1)), (0, .ref qr), (1, .ref q)] dX6_readRope_30 (by decide) rfl ?_
  refine J_aload_n (pc := 31) X 2 dX6_readRope_31 rfl ?_
  refine J_callR (pc := 32) (As := []) (rest := []) X mtX6_hasFault g315 [0] 0 (kX6_hasFault l G cI cC cZ qr qrl ln t1 k1 f1 (by first | assumption | omega)) ⟨Nat.le_of_ble_eq_true rfl, Nat.le_of_ble_eq_true rfl⟩ rfl rfl rfl (by decide) rfl rfl rfl rfl rfl (Nat.le_of_ble_eq_true rfl) (Nat.zero_le _) (Nat.zero_le _) dX6_readRope_32 (fun r_9 u_10 w_11 => ?_)
  try dsimp only at w_11
  subst w_11
  refine J_bif_ne (pc := 35) X 56 dX6_readRope_35 (by decide) (fun c_12 => ?_) (fun c_12 => ?_)
  · skip
    try have hk9 : ¬ k1 = 0 := by assumption
    try have hhas2 : ¬ (fr >>> (v1 &&& 31)) &&& 1 = 1 := by assumption
    refine J_aload_n (pc := 56) X 2 dX6_readRope_56 rfl ?_
    refine J_callV (pc := 57) (As := []) (rest := []) X mtX6_readEnd g342 [0, 1] [2] [1, 2, 0] 0 (fun u => [(qr, .inr (6, [.ref qrl, .int (nI ln), .int (nI u.1), .int (nI u.2.1), .int u.2.2])), (qrl, .inl (cC, 200, .inl lt)), (q, .inr (5, [.int (nI P), .int gr, .int (nI wd), .int (nI g), .int (nI wk), .int fr, .ref qd, .ref qh, .ref qp]))]) (kX6_readEnd l G cI cC cZ qr qrl ln t1 k1 f1 lt tx a1 w1 (by first | assumption | omega) (by first | assumption | omega) (rdR_k hr1) (by first | assumption | omega) hr1) ⟨Nat.le_of_ble_eq_true rfl, Nat.le_of_ble_eq_true rfl⟩ rfl rfl rfl (by decide) (wr := [(q, .inr (5, [.int (nI P), .int gr, .int (nI wd), .int (nI g), .int (nI wk), .int fr, .ref qd, .ref qh, .ref qp]))]) rfl (by decide) (by decide) (fun _ => rfl) (by decide) rfl rfl rfl rfl rfl (Nat.le_of_ble_eq_true rfl) (Nat.zero_le _) (Nat.zero_le _) dX6_readRope_57 (fun u_14 w_15 => ?_)
    obtain ⟨t4, k4, f4⟩ := u_14
    try dsimp only at w_15
    obtain ⟨a4, w4, hn4, hr4, hv4⟩ := wd_ex w_15
    have ht4 := rdR_le hr4
    have hk4 := rdR_k hr4
    refine J_aload_n (pc := 60) X 2 dX6_readRope_60 rfl ?_
    refine J_callR (pc := 61) (As := []) (rest := []) X mtX6_hasFault g315 [0] 0 (kX6_hasFault l G cI cC cZ qr qrl ln t4 k4 f4 (by first | assumption | omega)) ⟨Nat.le_of_ble_eq_true rfl, Nat.le_of_ble_eq_true rfl⟩ rfl rfl rfl (by decide) rfl rfl rfl rfl rfl (Nat.le_of_ble_eq_true rfl) (Nat.zero_le _) (Nat.zero_le _) dX6_readRope_61 (fun r_16 u_17 w_18 => ?_)
    try dsimp only at w_18
    subst w_18
    refine J_bif_ne (pc := 64) X 72 dX6_readRope_64 (by decide) (fun c_19 => ?_) (fun c_19 => ?_)
    · skip
      refine J_vret (pc := 72) X hr (t4, k4, f4, fr) dX6_readRope_72 ?_ rfl
      first | (have e9 := rdRope_4 (dr := fr) hi1 hn1 (hr1.1.symm.trans hk0) hhas; rw [← e9]; rw [wd_w (by decide)] at hn4; obtain ⟨rfl, rfl⟩ := Prod.mk.inj hn4; exact ⟨hr4, fun z => absurd (hv4 z) (by decide)⟩) | (have e8 := hr1.1.symm.trans hk0; subst e8; have e9 := rdRope_0 (dr := fr) hi1 hn1 rfl (by rw [← (hv1 hk0).1]; exact hhas2) hn4; rw [← e9]; exact ⟨hr4, fun z => by rw [(hv1 hk0).1]⟩) | (have e8 := hr1.1.symm.trans hk0; subst e8; have e9 := rdRope_0 (dr := fr) hi1 hn1 rfl (by rw [← (hv1 hk0).1]; exact hhas2) hn4; rw [← e9]; exact ⟨hr4, fun z => absurd z (by omega)⟩) | (have e8 : ¬ w1 = 0 := fun z => hk9 (hr1.1.trans z); have e9 := rdRope_w (dr := fr) hi1 hn1 e8; rw [← e9]; rw [wd_w e8] at hn4; obtain ⟨rfl, rfl⟩ := Prod.mk.inj hn4; exact ⟨hr4, fun z => absurd (hv4 z) e8⟩)
    · skip
      refine J_aload_n (pc := 67) X 3 dX6_readRope_67 rfl ?_
      refine J_iload_n (pc := 68) X 0 dX6_readRope_68 rfl ?_
      refine J_callV (pc := 69) (As := [.int v1]) (rest := []) X mtX5_addRope g386 [2] [0, 1] [0, 1, 2] 0 (fun u => [(qr, .inr (6, [.ref qrl, .int (nI ln), .int (nI t4), .int (nI k4), .int f4])), (qrl, .inl (cC, 200, .inl lt)), (q, .inr (5, [.int (nI P), .int gr, .int (nI wd), .int (nI g), .int (nI wk), .int (fr ||| (1 : Int32) <<< (v1 &&& 31)), .ref qd, .ref qh, .ref qp]))]) (kX5_addRope l G cI cC cZ q qd qh qp P gr wd g wk fr v1 ) ⟨Nat.le_of_ble_eq_true rfl, Nat.le_of_ble_eq_true rfl⟩ rfl rfl rfl (by decide) (wr := [(qr, .inr (6, [.ref qrl, .int (nI ln), .int (nI t4), .int (nI k4), .int f4])), (qrl, .inl (cC, 200, .inl lt))]) rfl (by decide) (by decide) (fun _ => rfl) (by decide) rfl rfl rfl rfl rfl (Nat.le_of_ble_eq_true rfl) (Nat.zero_le _) (Nat.zero_le _) dX6_readRope_69 (fun u_21 w_22 => ?_)
      try dsimp only at w_22
      refine J_vret (pc := 72) X hr (t4, k4, f4, (fr ||| (1 : Int32) <<< (v1 &&& 31))) dX6_readRope_72 ?_ rfl
      first | (have e9 := rdRope_4 (dr := fr) hi1 hn1 (hr1.1.symm.trans hk0) hhas; rw [← e9]; rw [wd_w (by decide)] at hn4; obtain ⟨rfl, rfl⟩ := Prod.mk.inj hn4; exact ⟨hr4, fun z => absurd (hv4 z) (by decide)⟩) | (have e8 := hr1.1.symm.trans hk0; subst e8; have e9 := rdRope_0 (dr := fr) hi1 hn1 rfl (by rw [← (hv1 hk0).1]; exact hhas2) hn4; rw [← e9]; exact ⟨hr4, fun z => by rw [(hv1 hk0).1]⟩) | (have e8 := hr1.1.symm.trans hk0; subst e8; have e9 := rdRope_0 (dr := fr) hi1 hn1 rfl (by rw [← (hv1 hk0).1]; exact hhas2) hn4; rw [← e9]; exact ⟨hr4, fun z => absurd z (by omega)⟩) | (have e8 : ¬ w1 = 0 := fun z => hk9 (hr1.1.trans z); have e9 := rdRope_w (dr := fr) hi1 hn1 e8; rw [← e9]; rw [wd_w e8] at hn4; obtain ⟨rfl, rfl⟩ := Prod.mk.inj hn4; exact ⟨hr4, fun z => absurd (hv4 z) e8⟩)
  · skip
    have hk0 : k1 = 0 := by omega
    refine J_aload_n (pc := 38) X 3 dX6_readRope_38 rfl ?_
    refine J_callR (pc := 39) (As := []) (rest := []) X mtX5_ropesAtFirst g382 [2] 0 (kX5_ropesAtFirst l G cI cC cZ q qd qh qp P gr wd g wk fr ) ⟨Nat.le_of_ble_eq_true rfl, Nat.le_of_ble_eq_true rfl⟩ rfl rfl rfl (by decide) rfl rfl rfl rfl rfl (Nat.le_of_ble_eq_true rfl) (Nat.zero_le _) (Nat.zero_le _) dX6_readRope_39 (fun r_23 u_24 w_25 => ?_)
    try dsimp only at w_25
    have w_25 := w_25.symm; subst w_25
    refine J_iload_n (pc := 42) X 0 dX6_readRope_42 rfl ?_
    refine J_ishr (pc := 43) X dX6_readRope_43 ?_
    refine J_iconst (pc := 44) X 1 dX6_readRope_44 (by decide) ?_
    refine J_iand (pc := 45) X dX6_readRope_45 ?_
    refine J_iconst (pc := 46) X 1 dX6_readRope_46 (by decide) ?_
    refine J_icmp_ne (pc := 47) X 56 dX6_readRope_47 (by decide) (fun c_26 => ?_) (fun c_26 => ?_)
    · skip
      try have hk9 : ¬ k1 = 0 := by assumption
      try have hhas2 : ¬ (fr >>> (v1 &&& 31)) &&& 1 = 1 := by assumption
      refine J_aload_n (pc := 56) X 2 dX6_readRope_56 rfl ?_
      refine J_callV (pc := 57) (As := []) (rest := []) X mtX6_readEnd g342 [0, 1] [2] [1, 2, 0] 0 (fun u => [(qr, .inr (6, [.ref qrl, .int (nI ln), .int (nI u.1), .int (nI u.2.1), .int u.2.2])), (qrl, .inl (cC, 200, .inl lt)), (q, .inr (5, [.int (nI P), .int gr, .int (nI wd), .int (nI g), .int (nI wk), .int fr, .ref qd, .ref qh, .ref qp]))]) (kX6_readEnd l G cI cC cZ qr qrl ln t1 k1 f1 lt tx a1 w1 (by first | assumption | omega) (by first | assumption | omega) (rdR_k hr1) (by first | assumption | omega) hr1) ⟨Nat.le_of_ble_eq_true rfl, Nat.le_of_ble_eq_true rfl⟩ rfl rfl rfl (by decide) (wr := [(q, .inr (5, [.int (nI P), .int gr, .int (nI wd), .int (nI g), .int (nI wk), .int fr, .ref qd, .ref qh, .ref qp]))]) rfl (by decide) (by decide) (fun _ => rfl) (by decide) rfl rfl rfl rfl rfl (Nat.le_of_ble_eq_true rfl) (Nat.zero_le _) (Nat.zero_le _) dX6_readRope_57 (fun u_28 w_29 => ?_)
      obtain ⟨t4, k4, f4⟩ := u_28
      try dsimp only at w_29
      obtain ⟨a4, w4, hn4, hr4, hv4⟩ := wd_ex w_29
      have ht4 := rdR_le hr4
      have hk4 := rdR_k hr4
      refine J_aload_n (pc := 60) X 2 dX6_readRope_60 rfl ?_
      refine J_callR (pc := 61) (As := []) (rest := []) X mtX6_hasFault g315 [0] 0 (kX6_hasFault l G cI cC cZ qr qrl ln t4 k4 f4 (by first | assumption | omega)) ⟨Nat.le_of_ble_eq_true rfl, Nat.le_of_ble_eq_true rfl⟩ rfl rfl rfl (by decide) rfl rfl rfl rfl rfl (Nat.le_of_ble_eq_true rfl) (Nat.zero_le _) (Nat.zero_le _) dX6_readRope_61 (fun r_30 u_31 w_32 => ?_)
      try dsimp only at w_32
      subst w_32
      refine J_bif_ne (pc := 64) X 72 dX6_readRope_64 (by decide) (fun c_33 => ?_) (fun c_33 => ?_)
      · skip
        refine J_vret (pc := 72) X hr (t4, k4, f4, fr) dX6_readRope_72 ?_ rfl
        first | (have e9 := rdRope_4 (dr := fr) hi1 hn1 (hr1.1.symm.trans hk0) hhas; rw [← e9]; rw [wd_w (by decide)] at hn4; obtain ⟨rfl, rfl⟩ := Prod.mk.inj hn4; exact ⟨hr4, fun z => absurd (hv4 z) (by decide)⟩) | (have e8 := hr1.1.symm.trans hk0; subst e8; have e9 := rdRope_0 (dr := fr) hi1 hn1 rfl (by rw [← (hv1 hk0).1]; exact hhas2) hn4; rw [← e9]; exact ⟨hr4, fun z => by rw [(hv1 hk0).1]⟩) | (have e8 := hr1.1.symm.trans hk0; subst e8; have e9 := rdRope_0 (dr := fr) hi1 hn1 rfl (by rw [← (hv1 hk0).1]; exact hhas2) hn4; rw [← e9]; exact ⟨hr4, fun z => absurd z (by omega)⟩) | (have e8 : ¬ w1 = 0 := fun z => hk9 (hr1.1.trans z); have e9 := rdRope_w (dr := fr) hi1 hn1 e8; rw [← e9]; rw [wd_w e8] at hn4; obtain ⟨rfl, rfl⟩ := Prod.mk.inj hn4; exact ⟨hr4, fun z => absurd (hv4 z) e8⟩)
      · skip
        refine J_aload_n (pc := 67) X 3 dX6_readRope_67 rfl ?_
        refine J_iload_n (pc := 68) X 0 dX6_readRope_68 rfl ?_
        refine J_callV (pc := 69) (As := [.int v1]) (rest := []) X mtX5_addRope g386 [2] [0, 1] [0, 1, 2] 0 (fun u => [(qr, .inr (6, [.ref qrl, .int (nI ln), .int (nI t4), .int (nI k4), .int f4])), (qrl, .inl (cC, 200, .inl lt)), (q, .inr (5, [.int (nI P), .int gr, .int (nI wd), .int (nI g), .int (nI wk), .int (fr ||| (1 : Int32) <<< (v1 &&& 31)), .ref qd, .ref qh, .ref qp]))]) (kX5_addRope l G cI cC cZ q qd qh qp P gr wd g wk fr v1 ) ⟨Nat.le_of_ble_eq_true rfl, Nat.le_of_ble_eq_true rfl⟩ rfl rfl rfl (by decide) (wr := [(qr, .inr (6, [.ref qrl, .int (nI ln), .int (nI t4), .int (nI k4), .int f4])), (qrl, .inl (cC, 200, .inl lt))]) rfl (by decide) (by decide) (fun _ => rfl) (by decide) rfl rfl rfl rfl rfl (Nat.le_of_ble_eq_true rfl) (Nat.zero_le _) (Nat.zero_le _) dX6_readRope_69 (fun u_35 w_36 => ?_)
        try dsimp only at w_36
        refine J_vret (pc := 72) X hr (t4, k4, f4, (fr ||| (1 : Int32) <<< (v1 &&& 31))) dX6_readRope_72 ?_ rfl
        first | (have e9 := rdRope_4 (dr := fr) hi1 hn1 (hr1.1.symm.trans hk0) hhas; rw [← e9]; rw [wd_w (by decide)] at hn4; obtain ⟨rfl, rfl⟩ := Prod.mk.inj hn4; exact ⟨hr4, fun z => absurd (hv4 z) (by decide)⟩) | (have e8 := hr1.1.symm.trans hk0; subst e8; have e9 := rdRope_0 (dr := fr) hi1 hn1 rfl (by rw [← (hv1 hk0).1]; exact hhas2) hn4; rw [← e9]; exact ⟨hr4, fun z => by rw [(hv1 hk0).1]⟩) | (have e8 := hr1.1.symm.trans hk0; subst e8; have e9 := rdRope_0 (dr := fr) hi1 hn1 rfl (by rw [← (hv1 hk0).1]; exact hhas2) hn4; rw [← e9]; exact ⟨hr4, fun z => absurd z (by omega)⟩) | (have e8 : ¬ w1 = 0 := fun z => hk9 (hr1.1.trans z); have e9 := rdRope_w (dr := fr) hi1 hn1 e8; rw [← e9]; rw [wd_w e8] at hn4; obtain ⟨rfl, rfl⟩ := Prod.mk.inj hn4; exact ⟨hr4, fun z => absurd (hv4 z) e8⟩)
    · skip
      have hhas : hasK fr x1 := by rw [← (hv1 hk0).1]; assumption
      refine J_aload_n (pc := 50) X 2 dX6_readRope_50 rfl ?_
      refine J_iconst (pc := 51) X 4 dX6_readRope_51 (by decide) ?_
      refine J_iload_n (pc := 52) X 1 dX6_readRope_52 rfl ?_
      refine J_callV (pc := 53) (As := [.int 4, .int (nI i1)]) (rest := []) X mtX6_blame g327 [0] [1, 2] [2, 0, 1] 0 (fun u => [(qr, .inr (6, [.ref qrl, .int (nI ln), .int (nI t1), .int (nI u.1), .int u.2])), (qrl, .inl (cC, 200, .inl lt)), (q, .inr (5, [.int (nI P), .int gr, .int (nI wd), .int (nI g), .int (nI wk), .int fr, .ref qd, .ref qh, .ref qp]))]) (kX6_blame l G cI cC cZ qr qrl ln t1 k1 f1 4 i1 (by first | assumption | omega)) ⟨Nat.le_of_ble_eq_true rfl, Nat.le_of_ble_eq_true rfl⟩ rfl rfl rfl (by decide) (wr := [(qrl, .inl (cC, 200, .inl lt)), (q, .inr (5, [.int (nI P), .int gr, .int (nI wd), .int (nI g), .int (nI wk), .int fr, .ref qd, .ref qh, .ref qp]))]) rfl (by decide) (by decide) (fun _ => rfl) (by decide) rfl rfl rfl rfl rfl (Nat.le_of_ble_eq_true rfl) (Nat.zero_le _) (Nat.zero_le _) dX6_readRope_53 (fun u_38 w_39 => ?_)
      obtain ⟨kb, fb⟩ := u_38
      try dsimp only at w_39
      have hbl := w_39
      have hb9 := rdR_bad (kd := 4) (fr := i1) hr1 ht1 (hr1.1.symm.trans hk0) (by decide) (by decide) hbl.1 hbl.2
      have hkb := rdR_k hb9
      refine J_aload_n (pc := 56) X 2 dX6_readRope_56 rfl ?_
      refine J_callV (pc := 57) (As := []) (rest := []) X mtX6_readEnd g342 [0, 1] [2] [1, 2, 0] 0 (fun u => [(qr, .inr (6, [.ref qrl, .int (nI ln), .int (nI u.1), .int (nI u.2.1), .int u.2.2])), (qrl, .inl (cC, 200, .inl lt)), (q, .inr (5, [.int (nI P), .int gr, .int (nI wd), .int (nI g), .int (nI wk), .int fr, .ref qd, .ref qh, .ref qp]))]) (kX6_readEnd l G cI cC cZ qr qrl ln t1 kb fb lt tx i1 4 (by first | assumption | omega) (by first | assumption | omega) (rdR_k hb9) (by first | assumption | omega) hb9) ⟨Nat.le_of_ble_eq_true rfl, Nat.le_of_ble_eq_true rfl⟩ rfl rfl rfl (by decide) (wr := [(q, .inr (5, [.int (nI P), .int gr, .int (nI wd), .int (nI g), .int (nI wk), .int fr, .ref qd, .ref qh, .ref qp]))]) rfl (by decide) (by decide) (fun _ => rfl) (by decide) rfl rfl rfl rfl rfl (Nat.le_of_ble_eq_true rfl) (Nat.zero_le _) (Nat.zero_le _) dX6_readRope_57 (fun u_41 w_42 => ?_)
      obtain ⟨t4, k4, f4⟩ := u_41
      try dsimp only at w_42
      obtain ⟨a4, w4, hn4, hr4, hv4⟩ := wd_ex w_42
      have ht4 := rdR_le hr4
      have hk4 := rdR_k hr4
      refine J_aload_n (pc := 60) X 2 dX6_readRope_60 rfl ?_
      refine J_callR (pc := 61) (As := []) (rest := []) X mtX6_hasFault g315 [0] 0 (kX6_hasFault l G cI cC cZ qr qrl ln t4 k4 f4 (by first | assumption | omega)) ⟨Nat.le_of_ble_eq_true rfl, Nat.le_of_ble_eq_true rfl⟩ rfl rfl rfl (by decide) rfl rfl rfl rfl rfl (Nat.le_of_ble_eq_true rfl) (Nat.zero_le _) (Nat.zero_le _) dX6_readRope_61 (fun r_43 u_44 w_45 => ?_)
      try dsimp only at w_45
      subst w_45
      refine J_bif_ne (pc := 64) X 72 dX6_readRope_64 (by decide) (fun c_46 => ?_) (fun c_46 => ?_)
      · skip
        refine J_vret (pc := 72) X hr (t4, k4, f4, fr) dX6_readRope_72 ?_ rfl
        first | (have e9 := rdRope_4 (dr := fr) hi1 hn1 (hr1.1.symm.trans hk0) hhas; rw [← e9]; rw [wd_w (by decide)] at hn4; obtain ⟨rfl, rfl⟩ := Prod.mk.inj hn4; exact ⟨hr4, fun z => absurd (hv4 z) (by decide)⟩) | (have e8 := hr1.1.symm.trans hk0; subst e8; have e9 := rdRope_0 (dr := fr) hi1 hn1 rfl (by rw [← (hv1 hk0).1]; exact hhas2) hn4; rw [← e9]; exact ⟨hr4, fun z => by rw [(hv1 hk0).1]⟩) | (have e8 := hr1.1.symm.trans hk0; subst e8; have e9 := rdRope_0 (dr := fr) hi1 hn1 rfl (by rw [← (hv1 hk0).1]; exact hhas2) hn4; rw [← e9]; exact ⟨hr4, fun z => absurd z (by omega)⟩) | (have e8 : ¬ w1 = 0 := fun z => hk9 (hr1.1.trans z); have e9 := rdRope_w (dr := fr) hi1 hn1 e8; rw [← e9]; rw [wd_w e8] at hn4; obtain ⟨rfl, rfl⟩ := Prod.mk.inj hn4; exact ⟨hr4, fun z => absurd (hv4 z) e8⟩)
      · skip
        refine J_aload_n (pc := 67) X 3 dX6_readRope_67 rfl ?_
        refine J_iload_n (pc := 68) X 0 dX6_readRope_68 rfl ?_
        refine J_callV (pc := 69) (As := [.int v1]) (rest := []) X mtX5_addRope g386 [2] [0, 1] [0, 1, 2] 0 (fun u => [(qr, .inr (6, [.ref qrl, .int (nI ln), .int (nI t4), .int (nI k4), .int f4])), (qrl, .inl (cC, 200, .inl lt)), (q, .inr (5, [.int (nI P), .int gr, .int (nI wd), .int (nI g), .int (nI wk), .int (fr ||| (1 : Int32) <<< (v1 &&& 31)), .ref qd, .ref qh, .ref qp]))]) (kX5_addRope l G cI cC cZ q qd qh qp P gr wd g wk fr v1 ) ⟨Nat.le_of_ble_eq_true rfl, Nat.le_of_ble_eq_true rfl⟩ rfl rfl rfl (by decide) (wr := [(qr, .inr (6, [.ref qrl, .int (nI ln), .int (nI t4), .int (nI k4), .int f4])), (qrl, .inl (cC, 200, .inl lt))]) rfl (by decide) (by decide) (fun _ => rfl) (by decide) rfl rfl rfl rfl rfl (Nat.le_of_ble_eq_true rfl) (Nat.zero_le _) (Nat.zero_le _) dX6_readRope_69 (fun u_48 w_49 => ?_)
        try dsimp only at w_49
        refine J_vret (pc := 72) X hr (t4, k4, f4, (fr ||| (1 : Int32) <<< (v1 &&& 31))) dX6_readRope_72 ?_ rfl
        first | (have e9 := rdRope_4 (dr := fr) hi1 hn1 (hr1.1.symm.trans hk0) hhas; rw [← e9]; rw [wd_w (by decide)] at hn4; obtain ⟨rfl, rfl⟩ := Prod.mk.inj hn4; exact ⟨hr4, fun z => absurd (hv4 z) (by decide)⟩) | (have e8 := hr1.1.symm.trans hk0; subst e8; have e9 := rdRope_0 (dr := fr) hi1 hn1 rfl (by rw [← (hv1 hk0).1]; exact hhas2) hn4; rw [← e9]; exact ⟨hr4, fun z => by rw [(hv1 hk0).1]⟩) | (have e8 := hr1.1.symm.trans hk0; subst e8; have e9 := rdRope_0 (dr := fr) hi1 hn1 rfl (by rw [← (hv1 hk0).1]; exact hhas2) hn4; rw [← e9]; exact ⟨hr4, fun z => absurd z (by omega)⟩) | (have e8 : ¬ w1 = 0 := fun z => hk9 (hr1.1.trans z); have e9 := rdRope_w (dr := fr) hi1 hn1 e8; rw [← e9]; rw [wd_w e8] at hn4; obtain ⟨rfl, rfl⟩ := Prod.mk.inj hn4; exact ⟨hr4, fun z => absurd (hv4 z) e8⟩)
