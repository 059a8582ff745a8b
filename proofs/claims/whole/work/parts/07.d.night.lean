set_option maxRecDepth 100000 in
set_option maxHeartbeats 600000 in
theorem kX9_feed (l : Launch) (G : va_G) (cI cC cZ : ClassId) (qx : Nat) (q : Nat) (qq : Nat) (qr : Nat) (qs : Nat) (qt : Nat) (qpa : Nat) (qi : Nat) (ql : Nat) (qb : Nat) (qg : Nat) (qw : Nat) (qn : Nat) (qrl : Nat) (ln : Nat) (at_ : Nat) (fk : Nat) (fa : Int32) (lt : Nat → Int32) (cl : Int32) (hln : ln ≤ 200) : CI l G (tys3 cI cC cZ) yX9_feed cX9_feed 2 (some .int) ({ frames := 1, cells := 0, slots := 0, locals := 22 }) [.ref qx, .int cl] [(qx, .inr (9, [.ref q, .ref qq, .ref qr, .ref qs, .ref qt, .ref qpa, .ref qi, .ref ql, .ref qb, .ref qg, .ref qw, .ref qn])), (qr, .inr (6, [.ref qrl, .int (nI ln), .int (nI at_), .int (nI fk), .int fa])), (qrl, .inl (cC, 200, .inl lt))] (S := Nat × (Nat → Int32)) (fun (r : Int32) (u : Nat × (Nat → Int32)) => r = spFeed ln cl ∧ (¬ spFeed ln cl < 0 → u.1 = ln + 1 ∧ u.2 = upd lt ln cl) ∧ (spFeed ln cl < 0 → u.1 = ln ∧ u.2 = lt)) (fun (u : Nat × (Nat → Int32)) => [(qx, .inr (9, [.ref q, .ref qq, .ref qr, .ref qs, .ref qt, .ref qpa, .ref qi, .ref ql, .ref qb, .ref qg, .ref qw, .ref qn])), (qr, .inr (6, [.ref qrl, .int (nI u.1), .int (nI at_), .int (nI fk), .int fa])), (qrl, .inl (cC, 200, .inl u.2))]) := by
  refine CI.intro (by decide) (Nat.le_of_ble_eq_true rfl) ?_
  intro p0 e0 s0 m0 ar0 be0 me0 c0 A0 X hr
  refine J_iload_n (pc := 0) X 1 dX9_feed_0 rfl ?_
  refine J_iconst (pc := 1) X 0 dX9_feed_1 (by decide) ?_
  refine J_sipush (pc := 2) X 255 dX9_feed_2 (by decide) ?_
  refine J_callS (pc := 5) (As := [.int cl, .int 0, .int 255]) (rest := []) X mtX9_isWithin g282 [] (kX9_isWithin l G cI cC cZ cl 0 255 ) ⟨Nat.le_of_ble_eq_true rfl, Nat.le_of_ble_eq_true rfl⟩ rfl rfl rfl (by decide) rfl rfl (Nat.le_of_ble_eq_true rfl) (Nat.zero_le _) (Nat.zero_le _) dX9_feed_5 (fun r_1 u_2 w_3 => ?_)
  try dsimp only at w_3
  subst w_3
  refine J_bif_ne (pc := 8) X 14 dX9_feed_8 (by decide) (fun c_4 => ?_) (fun c_4 => ?_)
  · skip
    refine J_aload_n (pc := 14) X 0 dX9_feed_14 rfl ?_
    refine J_get (pc := 15) X clX9 0 2 rfl (by decide) g243 rfl dX9_feed_15 ?_
    refine J_iload_n (pc := 18) X 1 dX9_feed_18 rfl ?_
    refine J_callI (pc := 19) (As := [.int cl]) (rest := []) X mtX6_append g286 [1, 2] [0] [0, 1, 2] 0 (fun u => [(qx, .inr (9, [.ref q, .ref qq, .ref qr, .ref qs, .ref qt, .ref qpa, .ref qi, .ref ql, .ref qb, .ref qg, .ref qw, .ref qn])), (qr, .inr (6, [.ref qrl, .int (nI u.1), .int (nI at_), .int (nI fk), .int fa])), (qrl, .inl (cC, 200, .inl u.2))]) (kX6_append l G cI cC cZ qr qrl ln at_ fk fa lt cl (by first | assumption | omega)) ⟨Nat.le_of_ble_eq_true rfl, Nat.le_of_ble_eq_true rfl⟩ rfl rfl rfl (by decide) (wr := [(qx, .inr (9, [.ref q, .ref qq, .ref qr, .ref qs, .ref qt, .ref qpa, .ref qi, .ref ql, .ref qb, .ref qg, .ref qw, .ref qn]))]) rfl (by decide) (by decide) (fun _ => rfl) (by decide) rfl rfl rfl rfl rfl (Nat.le_of_ble_eq_true rfl) (Nat.zero_le _) (Nat.zero_le _) dX9_feed_19 (fun r_5 u_6 w_7 => ?_)
    obtain ⟨n2, lt2⟩ := u_6
    try dsimp only at w_7
    try dsimp only at w_7
    obtain ⟨w_7_r, w_7⟩ := w_7; subst w_7_r
    have hap := w_7
    refine J_bif_eq (pc := 22) X 35 dX9_feed_22 (by decide) (fun c_8 => ?_) (fun c_8 => ?_)
    · skip
      refine J_ldc (pc := 35) X g294 dX9_feed_35 ?_
      refine J_iret (pc := 37) X hr (n2, lt2) dX9_feed_37 ?_ rfl
      obtain ⟨rfl, rfl⟩ := hap.2 (by assumption)
      have hz : spFeed n2 cl = -1000000004 := by rw [spFeed, if_pos (by assumption), if_pos (by omega)]
      rw [hz]
      exact ⟨rfl, fun h => absurd h (by decide), fun _ => ⟨rfl, rfl⟩⟩
    · skip
      refine J_aload_n (pc := 25) X 0 dX9_feed_25 rfl ?_
      refine J_get (pc := 26) X clX9 0 2 rfl (by decide) g243 rfl dX9_feed_26 ?_
      refine J_callR (pc := 29) (As := []) (rest := []) X mtX6_length g290 [1] 0 (kX6_length l G cI cC cZ qr qrl n2 at_ fk fa ) ⟨Nat.le_of_ble_eq_true rfl, Nat.le_of_ble_eq_true rfl⟩ rfl rfl rfl (by decide) rfl rfl rfl rfl rfl (Nat.le_of_ble_eq_true rfl) (Nat.zero_le _) (Nat.zero_le _) dX9_feed_29 (fun r_9 u_10 w_11 => ?_)
      try dsimp only at w_11
      subst w_11
      refine J_goto (pc := 32) X 37 dX9_feed_32 (by decide) ?_
      refine J_iret (pc := 37) X hr (n2, lt2) dX9_feed_37 ?_ rfl
      obtain ⟨rfl, rfl⟩ := hap.1 (by assumption)
      have hz : spFeed ln cl = nI (ln + 1) := by rw [spFeed, if_pos (by assumption), if_neg (by omega)]
      rw [hz]
      exact ⟨rfl, fun _ => ⟨rfl, by rw [nar_cl (by assumption)]⟩, fun h => absurd h (nI_pos (by omega))⟩
  · skip
    refine J_ldc (pc := 11) X g285 dX9_feed_11 ?_
    refine J_iret (pc := 13) X hr (ln, lt) dX9_feed_13 ?_ rfl
    have hz : spFeed ln cl = -1000000002 := if_neg (by assumption)
    rw [hz]
    exact ⟨rfl, fun h => absurd h (by decide), fun _ => ⟨rfl, rfl⟩⟩
set_option maxRecDepth 100000 in
set_option maxHeartbeats 600000 in
theorem kX9_told (l : Launch) (G : va_G) (cI cC cZ : ClassId) (qx : Nat) (q : Nat) (qq : Nat) (qr : Nat) (qs : Nat) (qt : Nat) (qpa : Nat) (qi : Nat) (ql : Nat) (qb : Nat) (qg : Nat) (qw : Nat) (qn : Nat) (qd : Nat) (qh : Nat) (qp : Nat) (P : Nat) (gr : Int32) (wd : Nat) (g : Nat) (wk : Nat) (fr : Int32) (hs : Nat) (qrl : Nat) (ln : Nat) (at_ : Nat) (fk : Nat) (fa : Int32) (qsc : Nat) (c : Nat → Int32) (qlf : Nat) (qls : Nat) (fn : Nat) (qbf : Nat) (qbs : Nat) (en : Nat) (qpr : Nat) (o : Nat) (dn : Nat) (nw : Nat → Int32) (what : Int32) (hPl : P ≤ 60) (hg : g ≤ 8) (hwk : wk ≤ 4) (hwd : wd ≤ 50) (hhs : (g = 0 ∧ hs = 0) ∨ (0 < g ∧ hs = g + 1)) (hsc : scR c nw wk) : CI l G (tys3 cI cC cZ) yX9_told cX9_told 2 (some .int) ({ frames := 1, cells := 0, slots := 0, locals := 20 }) [.ref qx, .int what] [(qx, .inr (9, [.ref q, .ref qq, .ref qr, .ref qs, .ref qt, .ref qpa, .ref qi, .ref ql, .ref qb, .ref qg, .ref qw, .ref qn])), (q, .inr (5, [.int (nI P), .int gr, .int (nI wd), .int (nI g), .int (nI wk), .int fr, .ref qd, .ref qh, .ref qp])), (qr, .inr (6, [.ref qrl, .int (nI ln), .int (nI at_), .int (nI fk), .int fa])), (qs, .inr (7, [.ref qsc])), (qsc, .inl (cI, 18, .inl c)), (ql, .inr (3, [.ref qlf, .ref qls, .int (nI fn)])), (qb, .inr (3, [.ref qbf, .ref qbs, .int (nI en)])), (qpa, .inr (4, [.ref qpr, .int (nI o), .int (nI dn)]))] (S := Unit) (fun (r : Int32) (u : Unit) => r = spTold P wd hs wk ln fn en dn gr (nw 0) (nw 1) what) (fun _ => [(qx, .inr (9, [.ref q, .ref qq, .ref qr, .ref qs, .ref qt, .ref qpa, .ref qi, .ref ql, .ref qb, .ref qg, .ref qw, .ref qn])), (q, .inr (5, [.int (nI P), .int gr, .int (nI wd), .int (nI g), .int (nI wk), .int fr, .ref qd, .ref qh, .ref qp])), (qr, .inr (6, [.ref qrl, .int (nI ln), .int (nI at_), .int (nI fk), .int fa])), (qs, .inr (7, [.ref qsc])), (qsc, .inl (cI, 18, .inl c)), (ql, .inr (3, [.ref qlf, .ref qls, .int (nI fn)])), (qb, .inr (3, [.ref qbf, .ref qbs, .int (nI en)])), (qpa, .inr (4, [.ref qpr, .int (nI o), .int (nI dn)]))]) := by
  refine CI.intro (by decide) (Nat.le_of_ble_eq_true rfl) ?_
  intro p0 e0 s0 m0 ar0 be0 me0 c0 A0 X hr
  refine J_iload_n (pc := 0) X 1 dX9_told_0 rfl ?_
  rcases pk_ix what (n := 11) (by decide) with sw_1 | sw_1 | ⟨j_sw_1, hj_sw_1, sw_1⟩
  · refine J_tout (pc := 1) (n := 11) X 148 dX9_told_1 (Or.inl sw_1) (by decide) (by decide) ?_
    have nsw_1_0 : ¬ what = 0 := sw_a (j := 0) (by decide) sw_1
    have nsw_1_1 : ¬ what = 1 := sw_a (j := 1) (by decide) sw_1
    have nsw_1_2 : ¬ what = 2 := sw_a (j := 2) (by decide) sw_1
    have nsw_1_3 : ¬ what = 3 := sw_a (j := 3) (by decide) sw_1
    have nsw_1_4 : ¬ what = 4 := sw_a (j := 4) (by decide) sw_1
    have nsw_1_5 : ¬ what = 5 := sw_a (j := 5) (by decide) sw_1
    have nsw_1_6 : ¬ what = 6 := sw_a (j := 6) (by decide) sw_1
    have nsw_1_7 : ¬ what = 7 := sw_a (j := 7) (by decide) sw_1
    have nsw_1_8 : ¬ what = 8 := sw_a (j := 8) (by decide) sw_1
    have nsw_1_9 : ¬ what = 9 := sw_a (j := 9) (by decide) sw_1
    have nsw_1_10 : ¬ what = 10 := sw_a (j := 10) (by decide) sw_1
    refine J_ldc (pc := 148) X g285 dX9_told_148 ?_
    refine J_iret (pc := 150) X hr () dX9_told_150 ?_ rfl
    simp [spTold, sw_1, nsw_1_0, nsw_1_1, nsw_1_2, nsw_1_3, nsw_1_4, nsw_1_5, nsw_1_6, nsw_1_7, nsw_1_8, nsw_1_9, nsw_1_10]
  · refine J_tout (pc := 1) (n := 11) X 148 dX9_told_1 (Or.inr sw_1) (by decide) (by decide) ?_
    have nsw_1_0 : ¬ what = 0 := sw_b (j := 0) (n := 11) (by decide) (by decide) sw_1
    have nsw_1_1 : ¬ what = 1 := sw_b (j := 1) (n := 11) (by decide) (by decide) sw_1
    have nsw_1_2 : ¬ what = 2 := sw_b (j := 2) (n := 11) (by decide) (by decide) sw_1
    have nsw_1_3 : ¬ what = 3 := sw_b (j := 3) (n := 11) (by decide) (by decide) sw_1
    have nsw_1_4 : ¬ what = 4 := sw_b (j := 4) (n := 11) (by decide) (by decide) sw_1
    have nsw_1_5 : ¬ what = 5 := sw_b (j := 5) (n := 11) (by decide) (by decide) sw_1
    have nsw_1_6 : ¬ what = 6 := sw_b (j := 6) (n := 11) (by decide) (by decide) sw_1
    have nsw_1_7 : ¬ what = 7 := sw_b (j := 7) (n := 11) (by decide) (by decide) sw_1
    have nsw_1_8 : ¬ what = 8 := sw_b (j := 8) (n := 11) (by decide) (by decide) sw_1
    have nsw_1_9 : ¬ what = 9 := sw_b (j := 9) (n := 11) (by decide) (by decide) sw_1
    have nsw_1_10 : ¬ what = 10 := sw_b (j := 10) (n := 11) (by decide) (by decide) sw_1
    refine J_ldc (pc := 148) X g285 dX9_told_148 ?_
    refine J_iret (pc := 150) X hr () dX9_told_150 ?_ rfl
    simp [spTold, sw_1, nsw_1_0, nsw_1_1, nsw_1_2, nsw_1_3, nsw_1_4, nsw_1_5, nsw_1_6, nsw_1_7, nsw_1_8, nsw_1_9, nsw_1_10]
  · rcases (show j_sw_1 = 0 ∨ j_sw_1 = 1 ∨ j_sw_1 = 2 ∨ j_sw_1 = 3 ∨ j_sw_1 = 4 ∨ j_sw_1 = 5 ∨ j_sw_1 = 6 ∨ j_sw_1 = 7 ∨ j_sw_1 = 8 ∨ j_sw_1 = 9 ∨ j_sw_1 = 10 by omega) with rfl | rfl | rfl | rfl | rfl | rfl | rfl | rfl | rfl | rfl | rfl
    · refine J_tin (pc := 1) X 0 60 sw_1 dX9_told_1 (by decide) (by decide) rfl (by decide) ?_
      subst sw_1
      refine J_aload_n (pc := 60) X 0 dX9_told_60 rfl ?_
      refine J_get (pc := 61) X clX9 0 0 rfl (by decide) g241 rfl dX9_told_61 ?_
      refine J_callR (pc := 64) (As := []) (rest := []) X mtX5_rise g436 [1] 0 (kX5_rise l G cI cC cZ q qd qh qp P gr wd g wk fr ) ⟨Nat.le_of_ble_eq_true rfl, Nat.le_of_ble_eq_true rfl⟩ rfl rfl rfl (by decide) rfl rfl rfl rfl rfl (Nat.le_of_ble_eq_true rfl) (Nat.zero_le _) (Nat.zero_le _) dX9_told_64 (fun r_2 u_3 w_4 => ?_)
      try dsimp only at w_4
      subst w_4
      refine J_iret (pc := 67) X hr () dX9_told_67 ?_ rfl
      rfl
    · refine J_tin (pc := 1) X 1 68 sw_1 dX9_told_1 (by decide) (by decide) rfl (by decide) ?_
      subst sw_1
      refine J_aload_n (pc := 68) X 0 dX9_told_68 rfl ?_
      refine J_get (pc := 69) X clX9 0 0 rfl (by decide) g241 rfl dX9_told_69 ?_
      refine J_callR (pc := 72) (As := []) (rest := []) X mtX5_growth g440 [1] 0 (kX5_growth l G cI cC cZ q qd qh qp P gr wd g wk fr ) ⟨Nat.le_of_ble_eq_true rfl, Nat.le_of_ble_eq_true rfl⟩ rfl rfl rfl (by decide) rfl rfl rfl rfl rfl (Nat.le_of_ble_eq_true rfl) (Nat.zero_le _) (Nat.zero_le _) dX9_told_72 (fun r_5 u_6 w_7 => ?_)
      try dsimp only at w_7
      have w_7 := w_7.symm; subst w_7
      refine J_iret (pc := 75) X hr () dX9_told_75 ?_ rfl
      rfl
    · refine J_tin (pc := 1) X 2 76 sw_1 dX9_told_1 (by decide) (by decide) rfl (by decide) ?_
      subst sw_1
      refine J_aload_n (pc := 76) X 0 dX9_told_76 rfl ?_
      refine J_get (pc := 77) X clX9 0 0 rfl (by decide) g241 rfl dX9_told_77 ?_
      refine J_callR (pc := 80) (As := []) (rest := []) X mtX5_width g444 [1] 0 (kX5_width l G cI cC cZ q qd qh qp P gr wd g wk fr ) ⟨Nat.le_of_ble_eq_true rfl, Nat.le_of_ble_eq_true rfl⟩ rfl rfl rfl (by decide) rfl rfl rfl rfl rfl (Nat.le_of_ble_eq_true rfl) (Nat.zero_le _) (Nat.zero_le _) dX9_told_80 (fun r_8 u_9 w_10 => ?_)
      try dsimp only at w_10
      subst w_10
      refine J_iret (pc := 83) X hr () dX9_told_83 ?_ rfl
      rfl
    · refine J_tin (pc := 1) X 3 84 sw_1 dX9_told_1 (by decide) (by decide) rfl (by decide) ?_
      subst sw_1
      refine J_aload_n (pc := 84) X 0 dX9_told_84 rfl ?_
      refine J_get (pc := 85) X clX9 0 0 rfl (by decide) g241 rfl dX9_told_85 ?_
      refine J_callR (pc := 88) (As := []) (rest := []) X mtX5_houseCount g448 [1] 0 (kX5_houseCount l G cI cC cZ q qd qh qp P gr wd g wk fr hs (by first | assumption | omega) (by first | assumption | omega) (by first | assumption | omega) (by first | assumption | omega) (by first | assumption | omega)) ⟨Nat.le_of_ble_eq_true rfl, Nat.le_of_ble_eq_true rfl⟩ rfl rfl rfl (by decide) rfl rfl rfl rfl rfl (Nat.le_of_ble_eq_true rfl) (Nat.zero_le _) (Nat.zero_le _) dX9_told_88 (fun r_11 u_12 w_13 => ?_)
      try dsimp only at w_13
      subst w_13
      refine J_iret (pc := 91) X hr () dX9_told_91 ?_ rfl
      rfl
    · refine J_tin (pc := 1) X 4 92 sw_1 dX9_told_1 (by decide) (by decide) rfl (by decide) ?_
      subst sw_1
      refine J_aload_n (pc := 92) X 0 dX9_told_92 rfl ?_
      refine J_get (pc := 93) X clX9 0 0 rfl (by decide) g241 rfl dX9_told_93 ?_
      refine J_callR (pc := 96) (As := []) (rest := []) X mtX5_walkerCount g423 [1] 0 (kX5_walkerCount l G cI cC cZ q qd qh qp P gr wd g wk fr ) ⟨Nat.le_of_ble_eq_true rfl, Nat.le_of_ble_eq_true rfl⟩ rfl rfl rfl (by decide) rfl rfl rfl rfl rfl (Nat.le_of_ble_eq_true rfl) (Nat.zero_le _) (Nat.zero_le _) dX9_told_96 (fun r_14 u_15 w_16 => ?_)
      try dsimp only at w_16
      subst w_16
      refine J_iret (pc := 99) X hr () dX9_told_99 ?_ rfl
      rfl
    · refine J_tin (pc := 1) X 5 100 sw_1 dX9_told_1 (by decide) (by decide) rfl (by decide) ?_
      subst sw_1
      refine J_aload_n (pc := 100) X 0 dX9_told_100 rfl ?_
      refine J_get (pc := 101) X clX9 0 2 rfl (by decide) g243 rfl dX9_told_101 ?_
      refine J_callR (pc := 104) (As := []) (rest := []) X mtX6_length g290 [2] 0 (kX6_length l G cI cC cZ qr qrl ln at_ fk fa ) ⟨Nat.le_of_ble_eq_true rfl, Nat.le_of_ble_eq_true rfl⟩ rfl rfl rfl (by decide) rfl rfl rfl rfl rfl (Nat.le_of_ble_eq_true rfl) (Nat.zero_le _) (Nat.zero_le _) dX9_told_104 (fun r_17 u_18 w_19 => ?_)
      try dsimp only at w_19
      subst w_19
      refine J_iret (pc := 107) X hr () dX9_told_107 ?_ rfl
      rfl
    · refine J_tin (pc := 1) X 6 108 sw_1 dX9_told_1 (by decide) (by decide) rfl (by decide) ?_
      subst sw_1
      refine J_aload_n (pc := 108) X 0 dX9_told_108 rfl ?_
      refine J_get (pc := 109) X clX9 0 3 rfl (by decide) g244 rfl dX9_told_109 ?_
      refine J_callR (pc := 112) (As := []) (rest := []) X mtX7_clock g449 [3, 4] 0 (kX7_clock l G cI cC cZ qs qsc c ) ⟨Nat.le_of_ble_eq_true rfl, Nat.le_of_ble_eq_true rfl⟩ rfl rfl rfl (by decide) rfl rfl rfl rfl rfl (Nat.le_of_ble_eq_true rfl) (Nat.zero_le _) (Nat.zero_le _) dX9_told_112 (fun r_20 u_21 w_22 => ?_)
      try dsimp only at w_22
      subst w_22
      refine J_top (y := nw 0) hsc.1 ?_
      refine J_iret (pc := 115) X hr () dX9_told_115 ?_ rfl
      rfl
    · refine J_tin (pc := 1) X 7 116 sw_1 dX9_told_1 (by decide) (by decide) rfl (by decide) ?_
      subst sw_1
      refine J_aload_n (pc := 116) X 0 dX9_told_116 rfl ?_
      refine J_get (pc := 117) X clX9 0 3 rfl (by decide) g244 rfl dX9_told_117 ?_
      refine J_callR (pc := 120) (As := []) (rest := []) X mtX7_ropeSet g453 [3, 4] 0 (kX7_ropeSet l G cI cC cZ qs qsc c ) ⟨Nat.le_of_ble_eq_true rfl, Nat.le_of_ble_eq_true rfl⟩ rfl rfl rfl (by decide) rfl rfl rfl rfl rfl (Nat.le_of_ble_eq_true rfl) (Nat.zero_le _) (Nat.zero_le _) dX9_told_120 (fun r_23 u_24 w_25 => ?_)
      try dsimp only at w_25
      subst w_25
      refine J_top (y := nw 1) hsc.2.1 ?_
      refine J_iret (pc := 123) X hr () dX9_told_123 ?_ rfl
      rfl
    · refine J_tin (pc := 1) X 8 124 sw_1 dX9_told_1 (by decide) (by decide) rfl (by decide) ?_
      subst sw_1
      refine J_aload_n (pc := 124) X 0 dX9_told_124 rfl ?_
      refine J_get (pc := 125) X clX9 0 7 rfl (by decide) g248 rfl dX9_told_125 ?_
      refine J_callR (pc := 128) (As := []) (rest := []) X mtX3_size g457 [5] 0 (kX3_size l G cI cC cZ ql qlf qls fn ) ⟨Nat.le_of_ble_eq_true rfl, Nat.le_of_ble_eq_true rfl⟩ rfl rfl rfl (by decide) rfl rfl rfl rfl rfl (Nat.le_of_ble_eq_true rfl) (Nat.zero_le _) (Nat.zero_le _) dX9_told_128 (fun r_26 u_27 w_28 => ?_)
      try dsimp only at w_28
      subst w_28
      refine J_iret (pc := 131) X hr () dX9_told_131 ?_ rfl
      rfl
    · refine J_tin (pc := 1) X 9 132 sw_1 dX9_told_1 (by decide) (by decide) rfl (by decide) ?_
      subst sw_1
      refine J_aload_n (pc := 132) X 0 dX9_told_132 rfl ?_
      refine J_get (pc := 133) X clX9 0 8 rfl (by decide) g249 rfl dX9_told_133 ?_
      refine J_callR (pc := 136) (As := []) (rest := []) X mtX3_size g457 [6] 0 (kX3_size l G cI cC cZ qb qbf qbs en ) ⟨Nat.le_of_ble_eq_true rfl, Nat.le_of_ble_eq_true rfl⟩ rfl rfl rfl (by decide) rfl rfl rfl rfl rfl (Nat.le_of_ble_eq_true rfl) (Nat.zero_le _) (Nat.zero_le _) dX9_told_136 (fun r_29 u_30 w_31 => ?_)
      try dsimp only at w_31
      subst w_31
      refine J_iret (pc := 139) X hr () dX9_told_139 ?_ rfl
      rfl
    · refine J_tin (pc := 1) X 10 140 sw_1 dX9_told_1 (by decide) (by decide) rfl (by decide) ?_
      subst sw_1
      refine J_aload_n (pc := 140) X 0 dX9_told_140 rfl ?_
      refine J_get (pc := 141) X clX9 0 5 rfl (by decide) g246 rfl dX9_told_141 ?_
      refine J_callR (pc := 144) (As := []) (rest := []) X mtX4_size g461 [7] 0 (kX4_size l G cI cC cZ qpa qpr o dn ) ⟨Nat.le_of_ble_eq_true rfl, Nat.le_of_ble_eq_true rfl⟩ rfl rfl rfl (by decide) rfl rfl rfl rfl rfl (Nat.le_of_ble_eq_true rfl) (Nat.zero_le _) (Nat.zero_le _) dX9_told_144 (fun r_32 u_33 w_34 => ?_)
      try dsimp only at w_34
      subst w_34
      refine J_iret (pc := 147) X hr () dX9_told_147 ?_ rfl
      rfl
set_option maxRecDepth 100000 in
set_option maxHeartbeats 600000 in
theorem kX9_gap (l : Launch) (G : va_G) (cI cC cZ : ClassId) (qx : Nat) (q : Nat) (qq : Nat) (qr : Nat) (qs : Nat) (qt : Nat) (qpa : Nat) (qi : Nat) (ql : Nat) (qb : Nat) (qg : Nat) (qw : Nat) (qn : Nat) (qd : Nat) (qh : Nat) (qp : Nat) (P : Nat) (gr : Int32) (wd : Nat) (g : Nat) (wk : Nat) (fr : Int32) (dyr : Nat → Int32) (qsc : Nat) (c : Nat → Int32) (nw : Nat → Int32) (dy : Nat → Int32) (k : Int32) (what : Int32) (hPl : P ≤ 60) (hg : g ≤ 8) (hwk : wk ≤ 4) (hwd : wd ≤ 50) (hP0 : 0 < g → 0 < P) (hwd0 : 0 < g → 0 < wd) (hdy : ∀ k, k < g → dyr k = dy k) (hsc : scR c nw wk) : CI l G (tys3 cI cC cZ) yX9_gap cX9_gap 3 (some .int) ({ frames := 4, cells := 0, slots := 0, locals := 91 }) [.ref qx, .int k, .int what] [(qx, .inr (9, [.ref q, .ref qq, .ref qr, .ref qs, .ref qt, .ref qpa, .ref qi, .ref ql, .ref qb, .ref qg, .ref qw, .ref qn])), (q, .inr (5, [.int (nI P), .int gr, .int (nI wd), .int (nI g), .int (nI wk), .int fr, .ref qd, .ref qh, .ref qp])), (qd, .inl (cI, 8, .inl dyr)), (qs, .inr (7, [.ref qsc])), (qsc, .inl (cI, 18, .inl c))] (S := Unit) (fun (r : Int32) (u : Unit) => r = spGap g P wd gr (nw 0) (nw 1) dy k what) (fun _ => [(qx, .inr (9, [.ref q, .ref qq, .ref qr, .ref qs, .ref qt, .ref qpa, .ref qi, .ref ql, .ref qb, .ref qg, .ref qw, .ref qn])), (q, .inr (5, [.int (nI P), .int gr, .int (nI wd), .int (nI g), .int (nI wk), .int fr, .ref qd, .ref qh, .ref qp])), (qd, .inl (cI, 8, .inl dyr)), (qs, .inr (7, [.ref qsc])), (qsc, .inl (cI, 18, .inl c))]) := by
  refine CI.intro (by decide) (Nat.le_of_ble_eq_true rfl) ?_
  intro p0 e0 s0 m0 ar0 be0 me0 c0 A0 X hr
  refine J_aload_n (pc := 0) X 0 dX9_gap_0 rfl ?_
  refine J_get (pc := 1) X clX9 0 0 rfl (by decide) g241 rfl dX9_gap_1 ?_
  refine J_iload_n (pc := 4) X 1 dX9_gap_4 rfl ?_
  refine J_callR (pc := 5) (As := [.int k]) (rest := []) X mtX5_hasGap g469 [1] 0 (kX5_hasGap l G cI cC cZ q qd qh qp P gr wd g wk fr k (by first | assumption | omega) (by first | assumption | omega) (by first | assumption | omega) (by first | assumption | omega)) ⟨Nat.le_of_ble_eq_true rfl, Nat.le_of_ble_eq_true rfl⟩ rfl rfl rfl (by decide) rfl rfl rfl rfl rfl (Nat.le_of_ble_eq_true rfl) (Nat.zero_le _) (Nat.zero_le _) dX9_gap_5 (fun r_1 u_2 w_3 => ?_)
  try dsimp only at w_3
  subst w_3
  refine J_bif_ne (pc := 8) X 14 dX9_gap_8 (by decide) (fun c_4 => ?_) (fun c_4 => ?_)
  · skip
    obtain ⟨kn, hkn, rfl⟩ := inB_ex (by omega) c_4
    have hP1 := hP0 (by omega)
    have hwd1 := hwd0 (by omega)
    refine J_iload_n (pc := 14) X 2 dX9_gap_14 rfl ?_
    rcases pk_ix what (n := 4) (by decide) with sw_5 | sw_5 | ⟨j_sw_5, hj_sw_5, sw_5⟩
    · refine J_tout (pc := 15) (n := 4) X 102 dX9_gap_15 (Or.inl sw_5) (by decide) (by decide) ?_
      have nsw_5_0 : ¬ what = 0 := sw_a (j := 0) (by decide) sw_5
      have nsw_5_1 : ¬ what = 1 := sw_a (j := 1) (by decide) sw_5
      have nsw_5_2 : ¬ what = 2 := sw_a (j := 2) (by decide) sw_5
      have nsw_5_3 : ¬ what = 3 := sw_a (j := 3) (by decide) sw_5
      refine J_ldc (pc := 102) X g285 dX9_gap_102 ?_
      refine J_iret (pc := 104) X hr () dX9_gap_104 ?_ rfl
      rw [spGap, if_pos ((inB_nI (by omega)).mpr hkn)]
      simp [sw_5, nsw_5_0, nsw_5_1, nsw_5_2, nsw_5_3]
    · refine J_tout (pc := 15) (n := 4) X 102 dX9_gap_15 (Or.inr sw_5) (by decide) (by decide) ?_
      have nsw_5_0 : ¬ what = 0 := sw_b (j := 0) (n := 4) (by decide) (by decide) sw_5
      have nsw_5_1 : ¬ what = 1 := sw_b (j := 1) (n := 4) (by decide) (by decide) sw_5
      have nsw_5_2 : ¬ what = 2 := sw_b (j := 2) (n := 4) (by decide) (by decide) sw_5
      have nsw_5_3 : ¬ what = 3 := sw_b (j := 3) (n := 4) (by decide) (by decide) sw_5
      refine J_ldc (pc := 102) X g285 dX9_gap_102 ?_
      refine J_iret (pc := 104) X hr () dX9_gap_104 ?_ rfl
      rw [spGap, if_pos ((inB_nI (by omega)).mpr hkn)]
      simp [sw_5, nsw_5_0, nsw_5_1, nsw_5_2, nsw_5_3]
    · rcases (show j_sw_5 = 0 ∨ j_sw_5 = 1 ∨ j_sw_5 = 2 ∨ j_sw_5 = 3 by omega) with rfl | rfl | rfl | rfl
      · refine J_tin (pc := 15) X 0 44 sw_5 dX9_gap_15 (by decide) (by decide) rfl (by decide) ?_
        subst sw_5
        refine J_aload_n (pc := 44) X 0 dX9_gap_44 rfl ?_
        refine J_get (pc := 45) X clX9 0 0 rfl (by decide) g241 rfl dX9_gap_45 ?_
        refine J_iload_n (pc := 48) X 1 dX9_gap_48 rfl ?_
        refine J_callR (pc := 49) (As := [.int (nI kn)]) (rest := []) X mtX5_dayYards g474 [1, 2] 0 (kX5_dayYards l G cI cC cZ q qd qh qp P gr wd g wk fr dyr kn dy (by first | assumption | omega) (by first | assumption | omega) (by first | assumption | omega) (by first | assumption | omega) (by first | assumption | omega) (by first | assumption | omega)) ⟨Nat.le_of_ble_eq_true rfl, Nat.le_of_ble_eq_true rfl⟩ rfl rfl rfl (by decide) rfl rfl rfl rfl rfl (Nat.le_of_ble_eq_true rfl) (Nat.zero_le _) (Nat.zero_le _) dX9_gap_49 (fun r_6 u_7 w_8 => ?_)
        try dsimp only at w_8
        subst w_8
        refine J_iret (pc := 52) X hr () dX9_gap_52 ?_ rfl
        rw [spGap, if_pos ((inB_nI (by omega)).mpr hkn), nI_clamp (by omega)]
        rfl
      · refine J_tin (pc := 15) X 1 53 sw_5 dX9_gap_15 (by decide) (by decide) rfl (by decide) ?_
        subst sw_5
        refine J_aload_n (pc := 53) X 0 dX9_gap_53 rfl ?_
        refine J_get (pc := 54) X clX9 0 0 rfl (by decide) g241 rfl dX9_gap_54 ?_
        refine J_iload_n (pc := 57) X 1 dX9_gap_57 rfl ?_
        refine J_aload_n (pc := 58) X 0 dX9_gap_58 rfl ?_
        refine J_get (pc := 59) X clX9 0 3 rfl (by decide) g244 rfl dX9_gap_59 ?_
        refine J_callR (pc := 62) (As := []) (rest := [.int (nI kn), .ref q]) X mtX7_clock g449 [3, 4] 0 (kX7_clock l G cI cC cZ qs qsc c ) ⟨Nat.le_of_ble_eq_true rfl, Nat.le_of_ble_eq_true rfl⟩ rfl rfl rfl (by decide) rfl rfl rfl rfl rfl (Nat.le_of_ble_eq_true rfl) (Nat.zero_le _) (Nat.zero_le _) dX9_gap_62 (fun r_9 u_10 w_11 => ?_)
        try dsimp only at w_11
        subst w_11
        refine J_top (y := nw 0) hsc.1 ?_
        refine J_callR (pc := 65) (As := [.int (nI kn), .int (nw 0)]) (rest := []) X mtX5_yardsAt g478 [1, 2] 0 (kX5_yardsAt l G cI cC cZ q qd qh qp P gr wd g wk fr dyr kn (nw 0) dy (by first | assumption | omega) (by first | assumption | omega) (by first | assumption | omega) (by first | assumption | omega) (by first | assumption | omega) (by first | assumption | omega) (by first | assumption | omega)) ⟨Nat.le_of_ble_eq_true rfl, Nat.le_of_ble_eq_true rfl⟩ rfl rfl rfl (by decide) rfl rfl rfl rfl rfl (Nat.le_of_ble_eq_true rfl) (Nat.zero_le _) (Nat.zero_le _) dX9_gap_65 (fun r_12 u_13 w_14 => ?_)
        try dsimp only at w_14
        subst w_14
        refine J_iret (pc := 68) X hr () dX9_gap_68 ?_ rfl
        rw [spGap, if_pos ((inB_nI (by omega)).mpr hkn), nI_clamp (by omega)]
        rfl
      · refine J_tin (pc := 15) X 2 69 sw_5 dX9_gap_15 (by decide) (by decide) rfl (by decide) ?_
        subst sw_5
        refine J_aload_n (pc := 69) X 0 dX9_gap_69 rfl ?_
        refine J_get (pc := 70) X clX9 0 0 rfl (by decide) g241 rfl dX9_gap_70 ?_
        refine J_iload_n (pc := 73) X 1 dX9_gap_73 rfl ?_
        refine J_aload_n (pc := 74) X 0 dX9_gap_74 rfl ?_
        refine J_get (pc := 75) X clX9 0 3 rfl (by decide) g244 rfl dX9_gap_75 ?_
        refine J_callR (pc := 78) (As := []) (rest := [.int (nI kn), .ref q]) X mtX7_clock g449 [3, 4] 0 (kX7_clock l G cI cC cZ qs qsc c ) ⟨Nat.le_of_ble_eq_true rfl, Nat.le_of_ble_eq_true rfl⟩ rfl rfl rfl (by decide) rfl rfl rfl rfl rfl (Nat.le_of_ble_eq_true rfl) (Nat.zero_le _) (Nat.zero_le _) dX9_gap_78 (fun r_15 u_16 w_17 => ?_)
        try dsimp only at w_17
        subst w_17
        refine J_top (y := nw 0) hsc.1 ?_
        refine J_callR (pc := 81) (As := [.int (nI kn), .int (nw 0)]) (rest := []) X mtX5_nightHousesAt g494 [1, 2] 0 (kX5_nightHousesAt l G cI cC cZ q qd qh qp P gr wd g wk fr dyr kn (nw 0) dy (by first | assumption | omega) (by first | assumption | omega) (by first | assumption | omega) (by first | assumption | omega) (by first | assumption | omega) (by first | assumption | omega) (by first | assumption | omega) (by first | assumption | omega)) ⟨Nat.le_of_ble_eq_true rfl, Nat.le_of_ble_eq_true rfl⟩ rfl rfl rfl (by decide) rfl rfl rfl rfl rfl (Nat.le_of_ble_eq_true rfl) (Nat.zero_le _) (Nat.zero_le _) dX9_gap_81 (fun r_18 u_19 w_20 => ?_)
        try dsimp only at w_20
        subst w_20
        refine J_iret (pc := 84) X hr () dX9_gap_84 ?_ rfl
        rw [spGap, if_pos ((inB_nI (by omega)).mpr hkn), nI_clamp (by omega)]
        rfl
      · refine J_tin (pc := 15) X 3 85 sw_5 dX9_gap_15 (by decide) (by decide) rfl (by decide) ?_
        subst sw_5
        refine J_aload_n (pc := 85) X 0 dX9_gap_85 rfl ?_
        refine J_get (pc := 86) X clX9 0 3 rfl (by decide) g244 rfl dX9_gap_86 ?_
        refine J_iload_n (pc := 89) X 1 dX9_gap_89 rfl ?_
        refine J_callR (pc := 90) (As := [.int (nI kn)]) (rest := []) X mtX7_hasRope g503 [3, 4] 0 (kX7_hasRope l G cI cC cZ qs qsc c kn ) ⟨Nat.le_of_ble_eq_true rfl, Nat.le_of_ble_eq_true rfl⟩ rfl rfl rfl (by decide) rfl rfl rfl rfl rfl (Nat.le_of_ble_eq_true rfl) (Nat.zero_le _) (Nat.zero_le _) dX9_gap_90 (fun r_21 u_22 w_23 => ?_)
        try dsimp only at w_23
        subst w_23
        refine J_top (y := bI (hasR (nw 1) kn)) (by rw [hsc.2.1]) ?_
        refine J_bif_eq (pc := 93) X 100 dX9_gap_93 (by decide) (fun c_24 => ?_) (fun c_24 => ?_)
        · skip
          refine J_iconst (pc := 100) X 0 dX9_gap_100 (by decide) ?_
          refine J_iret (pc := 101) X hr () dX9_gap_101 ?_ rfl
          rw [spGap, if_pos ((inB_nI (by omega)).mpr hkn), nI_clamp (by omega)]
          first | exact bit_t (by assumption) | exact bit_f (by assumption)
        · skip
          refine J_iconst (pc := 96) X 1 dX9_gap_96 (by decide) ?_
          refine J_goto (pc := 97) X 101 dX9_gap_97 (by decide) ?_
          refine J_iret (pc := 101) X hr () dX9_gap_101 ?_ rfl
          rw [spGap, if_pos ((inB_nI (by omega)).mpr hkn), nI_clamp (by omega)]
          first | exact bit_t (by assumption) | exact bit_f (by assumption)
  · skip
    refine J_ldc (pc := 11) X g473 dX9_gap_11 ?_
    refine J_iret (pc := 13) X hr () dX9_gap_13 ?_ rfl
    rw [spGap, if_neg (by assumption)]
set_option maxRecDepth 100000 in
set_option maxHeartbeats 600000 in
theorem kX9_walker (l : Launch) (G : va_G) (cI cC cZ : ClassId) (qx : Nat) (q : Nat) (qq : Nat) (qr : Nat) (qs : Nat) (qt : Nat) (qpa : Nat) (qi : Nat) (ql : Nat) (qb : Nat) (qg : Nat) (qw : Nat) (qn : Nat) (qd : Nat) (qh : Nat) (qp : Nat) (P : Nat) (gr : Int32) (wd : Nat) (g : Nat) (wk : Nat) (fr : Int32) (dyr : Nat → Int32) (par_ : Nat → Int32) (qsc : Nat) (c : Nat → Int32) (nw : Nat → Int32) (dy : Nat → Int32) (pa : Nat → Int32) (w : Int32) (what : Int32) (hPl : P ≤ 60) (hg : g ≤ 8) (hwk : wk ≤ 4) (hwd : wd ≤ 50) (hP0 : 0 < g → 0 < P) (hdy : ∀ k, k < g → dyr k = dy k) (hpa : ∀ k, k < wk → par_ k = pa k) (hsc : scR c nw wk) (hok : okS g wk nw) : CI l G (tys3 cI cC cZ) yX9_walker cX9_walker 3 (some .int) ({ frames := 5, cells := 0, slots := 0, locals := 117 }) [.ref qx, .int w, .int what] [(qx, .inr (9, [.ref q, .ref qq, .ref qr, .ref qs, .ref qt, .ref qpa, .ref qi, .ref ql, .ref qb, .ref qg, .ref qw, .ref qn])), (q, .inr (5, [.int (nI P), .int gr, .int (nI wd), .int (nI g), .int (nI wk), .int fr, .ref qd, .ref qh, .ref qp])), (qd, .inl (cI, 8, .inl dyr)), (qp, .inl (cI, 4, .inl par_)), (qs, .inr (7, [.ref qsc])), (qsc, .inl (cI, 18, .inl c))] (S := Unit) (fun (r : Int32) (u : Unit) => r = spWalker wk (fun k9 => yG P (dy k9) gr (nw 0)) pa nw w what) (fun _ => [(qx, .inr (9, [.ref q, .ref qq, .ref qr, .ref qs, .ref qt, .ref qpa, .ref qi, .ref ql, .ref qb, .ref qg, .ref qw, .ref qn])), (q, .inr (5, [.int (nI P), .int gr, .int (nI wd), .int (nI g), .int (nI wk), .int fr, .ref qd, .ref qh, .ref qp])), (qd, .inl (cI, 8, .inl dyr)), (qp, .inl (cI, 4, .inl par_)), (qs, .inr (7, [.ref qsc])), (qsc, .inl (cI, 18, .inl c))]) := by
  refine CI.intro (by decide) (Nat.le_of_ble_eq_true rfl) ?_
  intro p0 e0 s0 m0 ar0 be0 me0 c0 A0 X hr
  refine J_aload_n (pc := 0) X 0 dX9_walker_0 rfl ?_
  refine J_get (pc := 1) X clX9 0 0 rfl (by decide) g241 rfl dX9_walker_1 ?_
  refine J_iload_n (pc := 4) X 1 dX9_walker_4 rfl ?_
  refine J_callR (pc := 5) (As := [.int w]) (rest := []) X mtX5_hasWalker g511 [1] 0 (kX5_hasWalker l G cI cC cZ q qd qh qp P gr wd g wk fr w (by first | assumption | omega) (by first | assumption | omega) (by first | assumption | omega) (by first | assumption | omega)) ⟨Nat.le_of_ble_eq_true rfl, Nat.le_of_ble_eq_true rfl⟩ rfl rfl rfl (by decide) rfl rfl rfl rfl rfl (Nat.le_of_ble_eq_true rfl) (Nat.zero_le _) (Nat.zero_le _) dX9_walker_5 (fun r_1 u_2 w_3 => ?_)
  try dsimp only at w_3
  subst w_3
  refine J_bif_ne (pc := 8) X 14 dX9_walker_8 (by decide) (fun c_4 => ?_) (fun c_4 => ?_)
  · skip
    obtain ⟨wn, hwn, rfl⟩ := inB_ex (by omega) c_4
    obtain ⟨pos, hpos, hpk⟩ := hok wn hwn
    have hpl := posOk_lt hg hpk
    have hpf := posF_of hpos hpl
    obtain ⟨q2, q3, q4, q5⟩ := scR_q hsc hwn hpos hpl
    refine J_iload_n (pc := 14) X 2 dX9_walker_14 rfl ?_
    by_cases hp : pos < 100
    · skip
      have k2 := q2.trans (hsN_t hp)
      have k3 := q3.trans (gpN_t hp)
      have hpg : pos ≤ g := by rcases hpk with z9 | z9 <;> omega
      rcases pk_ix what (n := 6) (by decide) with sw_5 | sw_5 | ⟨j_sw_5, hj_sw_5, sw_5⟩
      · refine J_tout (pc := 15) (n := 6) X 110 dX9_walker_15 (Or.inl sw_5) (by decide) (by decide) ?_
        have nsw_5_0 : ¬ what = 0 := sw_a (j := 0) (by decide) sw_5
        have nsw_5_1 : ¬ what = 1 := sw_a (j := 1) (by decide) sw_5
        have nsw_5_2 : ¬ what = 2 := sw_a (j := 2) (by decide) sw_5
        have nsw_5_3 : ¬ what = 3 := sw_a (j := 3) (by decide) sw_5
        have nsw_5_4 : ¬ what = 4 := sw_a (j := 4) (by decide) sw_5
        have nsw_5_5 : ¬ what = 5 := sw_a (j := 5) (by decide) sw_5
        refine J_ldc (pc := 110) X g285 dX9_walker_110 ?_
        refine J_iret (pc := 112) X hr () dX9_walker_112 ?_ rfl
        rw [spWalker, if_pos ((inB_nI (by omega)).mpr hwn), nI_clamp (by omega), hpf]
        simp [sw_5, nsw_5_0, nsw_5_1, nsw_5_2, nsw_5_3, nsw_5_4, nsw_5_5]
      · refine J_tout (pc := 15) (n := 6) X 110 dX9_walker_15 (Or.inr sw_5) (by decide) (by decide) ?_
        have nsw_5_0 : ¬ what = 0 := sw_b (j := 0) (n := 6) (by decide) (by decide) sw_5
        have nsw_5_1 : ¬ what = 1 := sw_b (j := 1) (n := 6) (by decide) (by decide) sw_5
        have nsw_5_2 : ¬ what = 2 := sw_b (j := 2) (n := 6) (by decide) (by decide) sw_5
        have nsw_5_3 : ¬ what = 3 := sw_b (j := 3) (n := 6) (by decide) (by decide) sw_5
        have nsw_5_4 : ¬ what = 4 := sw_b (j := 4) (n := 6) (by decide) (by decide) sw_5
        have nsw_5_5 : ¬ what = 5 := sw_b (j := 5) (n := 6) (by decide) (by decide) sw_5
        refine J_ldc (pc := 110) X g285 dX9_walker_110 ?_
        refine J_iret (pc := 112) X hr () dX9_walker_112 ?_ rfl
        rw [spWalker, if_pos ((inB_nI (by omega)).mpr hwn), nI_clamp (by omega), hpf]
        simp [sw_5, nsw_5_0, nsw_5_1, nsw_5_2, nsw_5_3, nsw_5_4, nsw_5_5]
      · rcases (show j_sw_5 = 0 ∨ j_sw_5 = 1 ∨ j_sw_5 = 2 ∨ j_sw_5 = 3 ∨ j_sw_5 = 4 ∨ j_sw_5 = 5 by omega) with rfl | rfl | rfl | rfl | rfl | rfl
        · refine J_tin (pc := 15) X 0 52 sw_5 dX9_walker_15 (by decide) (by decide) rfl (by decide) ?_
          subst sw_5
          refine J_aload_n (pc := 52) X 0 dX9_walker_52 rfl ?_
          refine J_get (pc := 53) X clX9 0 3 rfl (by decide) g244 rfl dX9_walker_53 ?_
          refine J_iload_n (pc := 56) X 1 dX9_walker_56 rfl ?_
          refine J_callR (pc := 57) (As := [.int (nI wn)]) (rest := []) X mtX7_houseOf g515 [4, 5] 0 (kX7_houseOf l G cI cC cZ qs qsc c wn (by first | assumption | omega)) ⟨Nat.le_of_ble_eq_true rfl, Nat.le_of_ble_eq_true rfl⟩ rfl rfl rfl (by decide) rfl rfl rfl rfl rfl (Nat.le_of_ble_eq_true rfl) (Nat.zero_le _) (Nat.zero_le _) dX9_walker_57 (fun r_6 u_7 w_8 => ?_)
          try dsimp only at w_8
          subst w_8
          refine J_top (y := nI pos) k2 ?_
          refine J_iret (pc := 60) X hr () dX9_walker_60 ?_ rfl
          rw [spWalker, if_pos ((inB_nI (by omega)).mpr hwn), nI_clamp (by omega), hpf]
          first | exact (if_pos hp).symm | exact (if_neg hp).symm
        · refine J_tin (pc := 15) X 1 61 sw_5 dX9_walker_15 (by decide) (by decide) rfl (by decide) ?_
          subst sw_5
          refine J_aload_n (pc := 61) X 0 dX9_walker_61 rfl ?_
          refine J_get (pc := 62) X clX9 0 3 rfl (by decide) g244 rfl dX9_walker_62 ?_
          refine J_iload_n (pc := 65) X 1 dX9_walker_65 rfl ?_
          refine J_callR (pc := 66) (As := [.int (nI wn)]) (rest := []) X mtX7_gapOf g523 [4, 5] 0 (kX7_gapOf l G cI cC cZ qs qsc c wn (by first | assumption | omega)) ⟨Nat.le_of_ble_eq_true rfl, Nat.le_of_ble_eq_true rfl⟩ rfl rfl rfl (by decide) rfl rfl rfl rfl rfl (Nat.le_of_ble_eq_true rfl) (Nat.zero_le _) (Nat.zero_le _) dX9_walker_66 (fun r_9 u_10 w_11 => ?_)
          try dsimp only at w_11
          subst w_11
          refine J_top (y := (-1)) k3 ?_
          refine J_iret (pc := 69) X hr () dX9_walker_69 ?_ rfl
          rw [spWalker, if_pos ((inB_nI (by omega)).mpr hwn), nI_clamp (by omega), hpf]
          first | exact (if_pos hp).symm | exact (if_neg hp).symm
        · refine J_tin (pc := 15) X 2 70 sw_5 dX9_walker_15 (by decide) (by decide) rfl (by decide) ?_
          subst sw_5
          refine J_aload_n (pc := 70) X 0 dX9_walker_70 rfl ?_
          refine J_get (pc := 71) X clX9 0 3 rfl (by decide) g244 rfl dX9_walker_71 ?_
          refine J_iload_n (pc := 74) X 1 dX9_walker_74 rfl ?_
          refine J_callR (pc := 75) (As := [.int (nI wn)]) (rest := []) X mtX7_yardsOf g527 [4, 5] 0 (kX7_yardsOf l G cI cC cZ qs qsc c wn (by first | assumption | omega)) ⟨Nat.le_of_ble_eq_true rfl, Nat.le_of_ble_eq_true rfl⟩ rfl rfl rfl (by decide) rfl rfl rfl rfl rfl (Nat.le_of_ble_eq_true rfl) (Nat.zero_le _) (Nat.zero_le _) dX9_walker_75 (fun r_12 u_13 w_14 => ?_)
          try dsimp only at w_14
          subst w_14
          refine J_top (y := nw (3 * wn + 3)) q4 ?_
          refine J_iret (pc := 78) X hr () dX9_walker_78 ?_ rfl
          rw [spWalker, if_pos ((inB_nI (by omega)).mpr hwn), nI_clamp (by omega), hpf]
          rfl
        · refine J_tin (pc := 15) X 3 79 sw_5 dX9_walker_15 (by decide) (by decide) rfl (by decide) ?_
          subst sw_5
          refine J_aload_n (pc := 79) X 0 dX9_walker_79 rfl ?_
          refine J_get (pc := 80) X clX9 0 3 rfl (by decide) g244 rfl dX9_walker_80 ?_
          refine J_iload_n (pc := 83) X 1 dX9_walker_83 rfl ?_
          refine J_callR (pc := 84) (As := [.int (nI wn)]) (rest := []) X mtX7_wayOf g531 [4, 5] 0 (kX7_wayOf l G cI cC cZ qs qsc c wn (by first | assumption | omega)) ⟨Nat.le_of_ble_eq_true rfl, Nat.le_of_ble_eq_true rfl⟩ rfl rfl rfl (by decide) rfl rfl rfl rfl rfl (Nat.le_of_ble_eq_true rfl) (Nat.zero_le _) (Nat.zero_le _) dX9_walker_84 (fun r_15 u_16 w_17 => ?_)
          try dsimp only at w_17
          subst w_17
          refine J_top (y := nw (3 * wn + 4)) q5 ?_
          refine J_iret (pc := 87) X hr () dX9_walker_87 ?_ rfl
          rw [spWalker, if_pos ((inB_nI (by omega)).mpr hwn), nI_clamp (by omega), hpf]
          rfl
        · refine J_tin (pc := 15) X 4 88 sw_5 dX9_walker_15 (by decide) (by decide) rfl (by decide) ?_
          subst sw_5
          refine J_aload_n (pc := 88) X 0 dX9_walker_88 rfl ?_
          refine J_get (pc := 89) X clX9 0 0 rfl (by decide) g241 rfl dX9_walker_89 ?_
          refine J_iload_n (pc := 92) X 1 dX9_walker_92 rfl ?_
          refine J_callR (pc := 93) (As := [.int (nI wn)]) (rest := []) X mtX5_paceOf g535 [1, 3] 0 (kX5_paceOf l G cI cC cZ q qd qh qp P gr wd g wk fr par_ wn pa (by first | assumption | omega) (by first | assumption | omega) (by first | assumption | omega) (by first | assumption | omega) (by first | assumption | omega) (by first | assumption | omega)) ⟨Nat.le_of_ble_eq_true rfl, Nat.le_of_ble_eq_true rfl⟩ rfl rfl rfl (by decide) rfl rfl rfl rfl rfl (Nat.le_of_ble_eq_true rfl) (Nat.zero_le _) (Nat.zero_le _) dX9_walker_93 (fun r_18 u_19 w_20 => ?_)
          try dsimp only at w_20
          subst w_20
          refine J_iret (pc := 96) X hr () dX9_walker_96 ?_ rfl
          rw [spWalker, if_pos ((inB_nI (by omega)).mpr hwn), nI_clamp (by omega), hpf]
          rfl
        · refine J_tin (pc := 15) X 5 97 sw_5 dX9_walker_15 (by decide) (by decide) rfl (by decide) ?_
          subst sw_5
          refine J_aload_n (pc := 97) X 0 dX9_walker_97 rfl ?_
          refine J_get (pc := 98) X clX9 0 3 rfl (by decide) g244 rfl dX9_walker_98 ?_
          refine J_aload_n (pc := 101) X 0 dX9_walker_101 rfl ?_
          refine J_get (pc := 102) X clX9 0 0 rfl (by decide) g241 rfl dX9_walker_102 ?_
          refine J_iload_n (pc := 105) X 1 dX9_walker_105 rfl ?_
          refine J_callR (pc := 106) (As := [.ref q, .int (nI wn)]) (rest := []) X mtX7_placeOf g539 [4, 5, 1, 2] 0 (kX7_placeOf l G cI cC cZ qs qsc c q qd qh qp P gr wd g wk fr dyr wn pos nw dy (by first | assumption | omega) (by first | assumption | omega) (by first | assumption | omega) (by first | assumption | omega) (by first | assumption | omega) (by first | assumption | omega) (by first | assumption | omega) (by first | assumption | omega) hpos hpk) ⟨Nat.le_of_ble_eq_true rfl, Nat.le_of_ble_eq_true rfl⟩ rfl rfl rfl (by decide) rfl rfl rfl rfl rfl (Nat.le_of_ble_eq_true rfl) (Nat.zero_le _) (Nat.zero_le _) dX9_walker_106 (fun r_21 u_22 w_23 => ?_)
          try dsimp only at w_23
          subst w_23
          refine J_iret (pc := 109) X hr () dX9_walker_109 ?_ rfl
          rw [spWalker, if_pos ((inB_nI (by omega)).mpr hwn), nI_clamp (by omega), hpf]
          rfl
    · skip
      have k2 := q2.trans (hsN_f hp)
      have k3 := q3.trans (gpN_f hp)
      have hpg : 100 ≤ pos ∧ pos < 100 + g := by rcases hpk with z9 | z9 <;> omega
      rcases pk_ix what (n := 6) (by decide) with sw_24 | sw_24 | ⟨j_sw_24, hj_sw_24, sw_24⟩
      · refine J_tout (pc := 15) (n := 6) X 110 dX9_walker_15 (Or.inl sw_24) (by decide) (by decide) ?_
        have nsw_24_0 : ¬ what = 0 := sw_a (j := 0) (by decide) sw_24
        have nsw_24_1 : ¬ what = 1 := sw_a (j := 1) (by decide) sw_24
        have nsw_24_2 : ¬ what = 2 := sw_a (j := 2) (by decide) sw_24
        have nsw_24_3 : ¬ what = 3 := sw_a (j := 3) (by decide) sw_24
        have nsw_24_4 : ¬ what = 4 := sw_a (j := 4) (by decide) sw_24
        have nsw_24_5 : ¬ what = 5 := sw_a (j := 5) (by decide) sw_24
        refine J_ldc (pc := 110) X g285 dX9_walker_110 ?_
        refine J_iret (pc := 112) X hr () dX9_walker_112 ?_ rfl
        rw [spWalker, if_pos ((inB_nI (by omega)).mpr hwn), nI_clamp (by omega), hpf]
        simp [sw_24, nsw_24_0, nsw_24_1, nsw_24_2, nsw_24_3, nsw_24_4, nsw_24_5]
      · refine J_tout (pc := 15) (n := 6) X 110 dX9_walker_15 (Or.inr sw_24) (by decide) (by decide) ?_
        have nsw_24_0 : ¬ what = 0 := sw_b (j := 0) (n := 6) (by decide) (by decide) sw_24
        have nsw_24_1 : ¬ what = 1 := sw_b (j := 1) (n := 6) (by decide) (by decide) sw_24
        have nsw_24_2 : ¬ what = 2 := sw_b (j := 2) (n := 6) (by decide) (by decide) sw_24
        have nsw_24_3 : ¬ what = 3 := sw_b (j := 3) (n := 6) (by decide) (by decide) sw_24
        have nsw_24_4 : ¬ what = 4 := sw_b (j := 4) (n := 6) (by decide) (by decide) sw_24
        have nsw_24_5 : ¬ what = 5 := sw_b (j := 5) (n := 6) (by decide) (by decide) sw_24
        refine J_ldc (pc := 110) X g285 dX9_walker_110 ?_
        refine J_iret (pc := 112) X hr () dX9_walker_112 ?_ rfl
        rw [spWalker, if_pos ((inB_nI (by omega)).mpr hwn), nI_clamp (by omega), hpf]
        simp [sw_24, nsw_24_0, nsw_24_1, nsw_24_2, nsw_24_3, nsw_24_4, nsw_24_5]
      · rcases (show j_sw_24 = 0 ∨ j_sw_24 = 1 ∨ j_sw_24 = 2 ∨ j_sw_24 = 3 ∨ j_sw_24 = 4 ∨ j_sw_24 = 5 by omega) with rfl | rfl | rfl | rfl | rfl | rfl
        · refine J_tin (pc := 15) X 0 52 sw_24 dX9_walker_15 (by decide) (by decide) rfl (by decide) ?_
          subst sw_24
          refine J_aload_n (pc := 52) X 0 dX9_walker_52 rfl ?_
          refine J_get (pc := 53) X clX9 0 3 rfl (by decide) g244 rfl dX9_walker_53 ?_
          refine J_iload_n (pc := 56) X 1 dX9_walker_56 rfl ?_
          refine J_callR (pc := 57) (As := [.int (nI wn)]) (rest := []) X mtX7_houseOf g515 [4, 5] 0 (kX7_houseOf l G cI cC cZ qs qsc c wn (by first | assumption | omega)) ⟨Nat.le_of_ble_eq_true rfl, Nat.le_of_ble_eq_true rfl⟩ rfl rfl rfl (by decide) rfl rfl rfl rfl rfl (Nat.le_of_ble_eq_true rfl) (Nat.zero_le _) (Nat.zero_le _) dX9_walker_57 (fun r_25 u_26 w_27 => ?_)
          try dsimp only at w_27
          subst w_27
          refine J_top (y := (-1)) k2 ?_
          refine J_iret (pc := 60) X hr () dX9_walker_60 ?_ rfl
          rw [spWalker, if_pos ((inB_nI (by omega)).mpr hwn), nI_clamp (by omega), hpf]
          first | exact (if_pos hp).symm | exact (if_neg hp).symm
        · refine J_tin (pc := 15) X 1 61 sw_24 dX9_walker_15 (by decide) (by decide) rfl (by decide) ?_
          subst sw_24
          refine J_aload_n (pc := 61) X 0 dX9_walker_61 rfl ?_
          refine J_get (pc := 62) X clX9 0 3 rfl (by decide) g244 rfl dX9_walker_62 ?_
          refine J_iload_n (pc := 65) X 1 dX9_walker_65 rfl ?_
          refine J_callR (pc := 66) (As := [.int (nI wn)]) (rest := []) X mtX7_gapOf g523 [4, 5] 0 (kX7_gapOf l G cI cC cZ qs qsc c wn (by first | assumption | omega)) ⟨Nat.le_of_ble_eq_true rfl, Nat.le_of_ble_eq_true rfl⟩ rfl rfl rfl (by decide) rfl rfl rfl rfl rfl (Nat.le_of_ble_eq_true rfl) (Nat.zero_le _) (Nat.zero_le _) dX9_walker_66 (fun r_28 u_29 w_30 => ?_)
          try dsimp only at w_30
          subst w_30
          refine J_top (y := nI (pos - 100)) k3 ?_
          refine J_iret (pc := 69) X hr () dX9_walker_69 ?_ rfl
          rw [spWalker, if_pos ((inB_nI (by omega)).mpr hwn), nI_clamp (by omega), hpf]
          first | exact (if_pos hp).symm | exact (if_neg hp).symm
        · refine J_tin (pc := 15) X 2 70 sw_24 dX9_walker_15 (by decide) (by decide) rfl (by decide) ?_
          subst sw_24
          refine J_aload_n (pc := 70) X 0 dX9_walker_70 rfl ?_
          refine J_get (pc := 71) X clX9 0 3 rfl (by decide) g244 rfl dX9_walker_71 ?_
          refine J_iload_n (pc := 74) X 1 dX9_walker_74 rfl ?_
          refine J_callR (pc := 75) (As := [.int (nI wn)]) (rest := []) X mtX7_yardsOf g527 [4, 5] 0 (kX7_yardsOf l G cI cC cZ qs qsc c wn (by first | assumption | omega)) ⟨Nat.le_of_ble_eq_true rfl, Nat.le_of_ble_eq_true rfl⟩ rfl rfl rfl (by decide) rfl rfl rfl rfl rfl (Nat.le_of_ble_eq_true rfl) (Nat.zero_le _) (Nat.zero_le _) dX9_walker_75 (fun r_31 u_32 w_33 => ?_)
          try dsimp only at w_33
          subst w_33
          refine J_top (y := nw (3 * wn + 3)) q4 ?_
          refine J_iret (pc := 78) X hr () dX9_walker_78 ?_ rfl
          rw [spWalker, if_pos ((inB_nI (by omega)).mpr hwn), nI_clamp (by omega), hpf]
          rfl
        · refine J_tin (pc := 15) X 3 79 sw_24 dX9_walker_15 (by decide) (by decide) rfl (by decide) ?_
          subst sw_24
          refine J_aload_n (pc := 79) X 0 dX9_walker_79 rfl ?_
          refine J_get (pc := 80) X clX9 0 3 rfl (by decide) g244 rfl dX9_walker_80 ?_
          refine J_iload_n (pc := 83) X 1 dX9_walker_83 rfl ?_
          refine J_callR (pc := 84) (As := [.int (nI wn)]) (rest := []) X mtX7_wayOf g531 [4, 5] 0 (kX7_wayOf l G cI cC cZ qs qsc c wn (by first | assumption | omega)) ⟨Nat.le_of_ble_eq_true rfl, Nat.le_of_ble_eq_true rfl⟩ rfl rfl rfl (by decide) rfl rfl rfl rfl rfl (Nat.le_of_ble_eq_true rfl) (Nat.zero_le _) (Nat.zero_le _) dX9_walker_84 (fun r_34 u_35 w_36 => ?_)
          try dsimp only at w_36
          subst w_36
          refine J_top (y := nw (3 * wn + 4)) q5 ?_
          refine J_iret (pc := 87) X hr () dX9_walker_87 ?_ rfl
          rw [spWalker, if_pos ((inB_nI (by omega)).mpr hwn), nI_clamp (by omega), hpf]
          rfl
        · refine J_tin (pc := 15) X 4 88 sw_24 dX9_walker_15 (by decide) (by decide) rfl (by decide) ?_
          subst sw_24
          refine J_aload_n (pc := 88) X 0 dX9_walker_88 rfl ?_
          refine J_get (pc := 89) X clX9 0 0 rfl (by decide) g241 rfl dX9_walker_89 ?_
          refine J_iload_n (pc := 92) X 1 dX9_walker_92 rfl ?_
          refine J_callR (pc := 93) (As := [.int (nI wn)]) (rest := []) X mtX5_paceOf g535 [1, 3] 0 (kX5_paceOf l G cI cC cZ q qd qh qp P gr wd g wk fr par_ wn pa (by first | assumption | omega) (by first | assumption | omega) (by first | assumption | omega) (by first | assumption | omega) (by first | assumption | omega) (by first | assumption | omega)) ⟨Nat.le_of_ble_eq_true rfl, Nat.le_of_ble_eq_true rfl⟩ rfl rfl rfl (by decide) rfl rfl rfl rfl rfl (Nat.le_of_ble_eq_true rfl) (Nat.zero_le _) (Nat.zero_le _) dX9_walker_93 (fun r_37 u_38 w_39 => ?_)
          try dsimp only at w_39
          subst w_39
          refine J_iret (pc := 96) X hr () dX9_walker_96 ?_ rfl
          rw [spWalker, if_pos ((inB_nI (by omega)).mpr hwn), nI_clamp (by omega), hpf]
          rfl
        · refine J_tin (pc := 15) X 5 97 sw_24 dX9_walker_15 (by decide) (by decide) rfl (by decide) ?_
          subst sw_24
          refine J_aload_n (pc := 97) X 0 dX9_walker_97 rfl ?_
          refine J_get (pc := 98) X clX9 0 3 rfl (by decide) g244 rfl dX9_walker_98 ?_
          refine J_aload_n (pc := 101) X 0 dX9_walker_101 rfl ?_
          refine J_get (pc := 102) X clX9 0 0 rfl (by decide) g241 rfl dX9_walker_102 ?_
          refine J_iload_n (pc := 105) X 1 dX9_walker_105 rfl ?_
          refine J_callR (pc := 106) (As := [.ref q, .int (nI wn)]) (rest := []) X mtX7_placeOf g539 [4, 5, 1, 2] 0 (kX7_placeOf l G cI cC cZ qs qsc c q qd qh qp P gr wd g wk fr dyr wn pos nw dy (by first | assumption | omega) (by first | assumption | omega) (by first | assumption | omega) (by first | assumption | omega) (by first | assumption | omega) (by first | assumption | omega) (by first | assumption | omega) (by first | assumption | omega) hpos hpk) ⟨Nat.le_of_ble_eq_true rfl, Nat.le_of_ble_eq_true rfl⟩ rfl rfl rfl (by decide) rfl rfl rfl rfl rfl (Nat.le_of_ble_eq_true rfl) (Nat.zero_le _) (Nat.zero_le _) dX9_walker_106 (fun r_40 u_41 w_42 => ?_)
          try dsimp only at w_42
          subst w_42
          refine J_iret (pc := 109) X hr () dX9_walker_109 ?_ rfl
          rw [spWalker, if_pos ((inB_nI (by omega)).mpr hwn), nI_clamp (by omega), hpf]
          rfl
  · skip
    refine J_ldc (pc := 11) X g473 dX9_walker_11 ?_
    refine J_iret (pc := 13) X hr () dX9_walker_13 ?_ rfl
    exact (if_neg (by assumption)).symm
set_option maxRecDepth 100000 in
set_option maxHeartbeats 600000 in
theorem kX9_apart (l : Launch) (G : va_G) (cI cC cZ : ClassId) (qx : Nat) (q : Nat) (qq : Nat) (qr : Nat) (qs : Nat) (qt : Nat) (qpa : Nat) (qi : Nat) (ql : Nat) (qb : Nat) (qg : Nat) (qw : Nat) (qn : Nat) (qd : Nat) (qh : Nat) (qp : Nat) (P : Nat) (gr : Int32) (wd : Nat) (g : Nat) (wk : Nat) (fr : Int32) (dyr : Nat → Int32) (qsc : Nat) (c : Nat → Int32) (nw : Nat → Int32) (dy : Nat → Int32) (w : Int32) (z : Int32) (hPl : P ≤ 60) (hg : g ≤ 8) (hwk : wk ≤ 4) (hwd : wd ≤ 50) (hP0 : 0 < g → 0 < P) (hdy : ∀ k, k < g → dyr k = dy k) (hsc : scR c nw wk) (hok : okS g wk nw) : CI l G (tys3 cI cC cZ) yX9_apart cX9_apart 3 (some .int) ({ frames := 5, cells := 0, slots := 0, locals := 117 }) [.ref qx, .int w, .int z] [(qx, .inr (9, [.ref q, .ref qq, .ref qr, .ref qs, .ref qt, .ref qpa, .ref qi, .ref ql, .ref qb, .ref qg, .ref qw, .ref qn])), (q, .inr (5, [.int (nI P), .int gr, .int (nI wd), .int (nI g), .int (nI wk), .int fr, .ref qd, .ref qh, .ref qp])), (qd, .inl (cI, 8, .inl dyr)), (qs, .inr (7, [.ref qsc])), (qsc, .inl (cI, 18, .inl c))] (S := Unit) (fun (r : Int32) (u : Unit) => r = spApart wk (fun k9 t9 => yG P (dy k9) gr t9) nw w z) (fun _ => [(qx, .inr (9, [.ref q, .ref qq, .ref qr, .ref qs, .ref qt, .ref qpa, .ref qi, .ref ql, .ref qb, .ref qg, .ref qw, .ref qn])), (q, .inr (5, [.int (nI P), .int gr, .int (nI wd), .int (nI g), .int (nI wk), .int fr, .ref qd, .ref qh, .ref qp])), (qd, .inl (cI, 8, .inl dyr)), (qs, .inr (7, [.ref qsc])), (qsc, .inl (cI, 18, .inl c))]) := by
  refine CI.intro (by decide) (Nat.le_of_ble_eq_true rfl) ?_
  intro p0 e0 s0 m0 ar0 be0 me0 c0 A0 X hr
  refine J_aload_n (pc := 0) X 0 dX9_apart_0 rfl ?_
  refine J_iload_n (pc := 1) X 1 dX9_apart_1 rfl ?_
  refine J_iload_n (pc := 2) X 2 dX9_apart_2 rfl ?_
  refine J_callR (pc := 3) (As := [.int w, .int z]) (rest := []) X mtX9_areTwoWalkers g651 [0, 1] 0 (kX9_areTwoWalkers l G cI cC cZ qx q qq qr qs qt qpa qi ql qb qg qw qn qd qh qp P gr wd g wk fr w z (by first | assumption | omega) (by first | assumption | omega) (by first | assumption | omega) (by first | assumption | omega)) ⟨Nat.le_of_ble_eq_true rfl, Nat.le_of_ble_eq_true rfl⟩ rfl rfl rfl (by decide) rfl rfl rfl rfl rfl (Nat.le_of_ble_eq_true rfl) (Nat.zero_le _) (Nat.zero_le _) dX9_apart_3 (fun r_1 u_2 w_3 => ?_)
  try dsimp only at w_3
  subst w_3
  refine J_bif_ne (pc := 6) X 12 dX9_apart_6 (by decide) (fun c_4 => ?_) (fun c_4 => ?_)
  · skip
    have htwo := c_4
    obtain ⟨hta, htb, hnab⟩ := c_4
    obtain ⟨an, han, rfl⟩ := inB_ex (by omega) hta
    obtain ⟨bn, hbn, rfl⟩ := inB_ex (by omega) htb
    have hne : ¬ an = bn := fun e9 => hnab (congrArg nI e9)
    have ca := nI_clamp (n := an) (by omega)
    have cb := nI_clamp (n := bn) (by omega)
    obtain ⟨ps1, hps1, hpk1⟩ := hok an han
    have hpl1 := posOk_lt hg hpk1
    have hpf1 := posF_of hps1 hpl1
    obtain ⟨ps2, hps2, hpk2⟩ := hok bn hbn
    have hpl2 := posOk_lt hg hpk2
    have hpf2 := posF_of hps2 hpl2
    refine J_aload_n (pc := 12) X 0 dX9_apart_12 rfl ?_
    refine J_get (pc := 13) X clX9 0 3 rfl (by decide) g244 rfl dX9_apart_13 ?_
    refine J_aload_n (pc := 16) X 0 dX9_apart_16 rfl ?_
    refine J_get (pc := 17) X clX9 0 0 rfl (by decide) g241 rfl dX9_apart_17 ?_
    refine J_iload_n (pc := 20) X 1 dX9_apart_20 rfl ?_
    refine J_callR (pc := 21) (As := [.ref q, .int (nI an)]) (rest := []) X mtX7_placeOf g539 [3, 4, 1, 2] 0 (kX7_placeOf l G cI cC cZ qs qsc c q qd qh qp P gr wd g wk fr dyr an ps1 nw dy (by first | assumption | omega) (by first | assumption | omega) (by first | assumption | omega) (by first | assumption | omega) (by first | assumption | omega) (by first | assumption | omega) (by first | assumption | omega) (by first | assumption | omega) hps1 hpk1) ⟨Nat.le_of_ble_eq_true rfl, Nat.le_of_ble_eq_true rfl⟩ rfl rfl rfl (by decide) rfl rfl rfl rfl rfl (Nat.le_of_ble_eq_true rfl) (Nat.zero_le _) (Nat.zero_le _) dX9_apart_21 (fun r_5 u_6 w_7 => ?_)
    try dsimp only at w_7
    subst w_7
    refine J_aload_n (pc := 24) X 0 dX9_apart_24 rfl ?_
    refine J_get (pc := 25) X clX9 0 3 rfl (by decide) g244 rfl dX9_apart_25 ?_
    refine J_aload_n (pc := 28) X 0 dX9_apart_28 rfl ?_
    refine J_get (pc := 29) X clX9 0 0 rfl (by decide) g241 rfl dX9_apart_29 ?_
    refine J_iload_n (pc := 32) X 2 dX9_apart_32 rfl ?_
    refine J_callR (pc := 33) (As := [.ref q, .int (nI bn)]) (rest := [.int (whP (fun k9 => yG P (dy k9) gr (nw 0)) ps1 (nw (3 * an + 3)) (nw (3 * an + 4)))]) X mtX7_placeOf g539 [3, 4, 1, 2] 0 (kX7_placeOf l G cI cC cZ qs qsc c q qd qh qp P gr wd g wk fr dyr bn ps2 nw dy (by first | assumption | omega) (by first | assumption | omega) (by first | assumption | omega) (by first | assumption | omega) (by first | assumption | omega) (by first | assumption | omega) (by first | assumption | omega) (by first | assumption | omega) hps2 hpk2) ⟨Nat.le_of_ble_eq_true rfl, Nat.le_of_ble_eq_true rfl⟩ rfl rfl rfl (by decide) rfl rfl rfl rfl rfl (Nat.le_of_ble_eq_true rfl) (Nat.zero_le _) (Nat.zero_le _) dX9_apart_33 (fun r_8 u_9 w_10 => ?_)
    try dsimp only at w_10
    subst w_10
    refine J_isub (pc := 36) X dX9_apart_36 ?_
    refine J_mabs (pc := 37) X g655 g656 g70 g657 (Nat.le_of_ble_eq_true rfl) (Nat.le_of_ble_eq_true rfl) (Nat.zero_le _) (Nat.zero_le _) dX9_apart_37 ?_
    refine J_iret (pc := 40) X hr () dX9_apart_40 ?_ rfl
    rw [spApart, if_pos htwo, ca, cb, whN, whN, hpf1, hpf2]
    exact abs_alt _
  · skip
    refine J_ldc (pc := 9) X g473 dX9_apart_9 ?_
    refine J_iret (pc := 11) X hr () dX9_apart_11 ?_ rfl
    exact (if_neg (by assumption)).symm
set_option maxRecDepth 100000 in
set_option maxHeartbeats 600000 in
theorem kX9_howLong (l : Launch) (G : va_G) (cI cC cZ : ClassId) (qx : Nat) (q : Nat) (qq : Nat) (qr : Nat) (qs : Nat) (qt : Nat) (qpa : Nat) (qi : Nat) (ql : Nat) (qb : Nat) (qg : Nat) (qw : Nat) (qn : Nat) (qd : Nat) (qh : Nat) (qp : Nat) (P : Nat) (gr : Int32) (wd : Nat) (g : Nat) (wk : Nat) (fr : Int32) (dyr : Nat → Int32) (dy : Nat → Int32) (t : Int32) (hPl : P ≤ 60) (hg : g ≤ 8) (hwk : wk ≤ 4) (hwd : wd ≤ 50) (hP0 : 0 < g → 0 < P) (hdy : ∀ k, k < g → dyr k = dy k) : CI l G (tys3 cI cC cZ) yX9_howLong cX9_howLong 2 (some .int) ({ frames := 4, cells := 0, slots := 0, locals := 92 }) [.ref qx, .int t] [(qx, .inr (9, [.ref q, .ref qq, .ref qr, .ref qs, .ref qt, .ref qpa, .ref qi, .ref ql, .ref qb, .ref qg, .ref qw, .ref qn])), (q, .inr (5, [.int (nI P), .int gr, .int (nI wd), .int (nI g), .int (nI wk), .int fr, .ref qd, .ref qh, .ref qp])), (qd, .inl (cI, 8, .inl dyr))] (S := Unit) (fun (r : Int32) (u : Unit) => r = if wIn t 0 120 then (if 0 < P then sumI (fun k9 => yG P (dy k9) gr t) g else -1000000003) else -1000000002) (fun _ => [(qx, .inr (9, [.ref q, .ref qq, .ref qr, .ref qs, .ref qt, .ref qpa, .ref qi, .ref ql, .ref qb, .ref qg, .ref qw, .ref qn])), (q, .inr (5, [.int (nI P), .int gr, .int (nI wd), .int (nI g), .int (nI wk), .int fr, .ref qd, .ref qh, .ref qp])), (qd, .inl (cI, 8, .inl dyr))]) := by
  refine CI.intro (by decide) (Nat.le_of_ble_eq_true rfl) ?_
  intro p0 e0 s0 m0 ar0 be0 me0 c0 A0 X hr
  refine J_iload_n (pc := 0) X 1 dX9_howLong_0 rfl ?_
  refine J_iconst (pc := 1) X 0 dX9_howLong_1 (by decide) ?_
  refine J_bipush (pc := 2) X 120 dX9_howLong_2 (by decide) ?_
  refine J_callS (pc := 4) (As := [.int t, .int 0, .int 120]) (rest := []) X mtX9_isWithin g282 [] (kX9_isWithin l G cI cC cZ t 0 120 ) ⟨Nat.le_of_ble_eq_true rfl, Nat.le_of_ble_eq_true rfl⟩ rfl rfl rfl (by decide) rfl rfl (Nat.le_of_ble_eq_true rfl) (Nat.zero_le _) (Nat.zero_le _) dX9_howLong_4 (fun r_1 u_2 w_3 => ?_)
  try dsimp only at w_3
  subst w_3
  refine J_bif_ne (pc := 7) X 13 dX9_howLong_7 (by decide) (fun c_4 => ?_) (fun c_4 => ?_)
  · skip
    refine J_aload_n (pc := 13) X 0 dX9_howLong_13 rfl ?_
    refine J_get (pc := 14) X clX9 0 0 rfl (by decide) g241 rfl dX9_howLong_14 ?_
    refine J_callR (pc := 17) (As := []) (rest := []) X mtX5_isTold g601 [1] 0 (kX5_isTold l G cI cC cZ q qd qh qp P gr wd g wk fr (by first | assumption | omega) (by first | assumption | omega) (by first | assumption | omega) (by first | assumption | omega)) ⟨Nat.le_of_ble_eq_true rfl, Nat.le_of_ble_eq_true rfl⟩ rfl rfl rfl (by decide) rfl rfl rfl rfl rfl (Nat.le_of_ble_eq_true rfl) (Nat.zero_le _) (Nat.zero_le _) dX9_howLong_17 (fun r_5 u_6 w_7 => ?_)
    try dsimp only at w_7
    subst w_7
    refine J_bif_eq (pc := 20) X 41 dX9_howLong_20 (by decide) (fun c_8 => ?_) (fun c_8 => ?_)
    · skip
      refine J_ldc (pc := 41) X g564 dX9_howLong_41 ?_
      refine J_iret (pc := 43) X hr () dX9_howLong_43 ?_ rfl
      first | (rw [if_neg (by assumption)]; done) | (rw [if_pos (by assumption), if_neg (by assumption)]; done) | (rw [if_pos (by assumption), if_pos (by assumption)]; done)
    · skip
      refine J_aload_n (pc := 23) X 0 dX9_howLong_23 rfl ?_
      refine J_get (pc := 24) X clX9 0 0 rfl (by decide) g241 rfl dX9_howLong_24 ?_
      refine J_aload_n (pc := 27) X 0 dX9_howLong_27 rfl ?_
      refine J_get (pc := 28) X clX9 0 0 rfl (by decide) g241 rfl dX9_howLong_28 ?_
      refine J_callR (pc := 31) (As := []) (rest := [.ref q]) X mtX5_gapCount g662 [1] 0 (kX5_gapCount l G cI cC cZ q qd qh qp P gr wd g wk fr ) ⟨Nat.le_of_ble_eq_true rfl, Nat.le_of_ble_eq_true rfl⟩ rfl rfl rfl (by decide) rfl rfl rfl rfl rfl (Nat.le_of_ble_eq_true rfl) (Nat.zero_le _) (Nat.zero_le _) dX9_howLong_31 (fun r_9 u_10 w_11 => ?_)
      try dsimp only at w_11
      subst w_11
      refine J_iload_n (pc := 34) X 1 dX9_howLong_34 rfl ?_
      refine J_callR (pc := 35) (As := [.int (nI g), .int t]) (rest := []) X mtX5_yardsBelow g663 [1, 2] 0 (kX5_yardsBelow l G cI cC cZ q qd qh qp P gr wd g wk fr dyr g t dy (by first | assumption | omega) (by first | assumption | omega) (by first | assumption | omega) (by first | assumption | omega) (by first | assumption | omega) (by first | assumption | omega) (by first | assumption | omega)) ⟨Nat.le_of_ble_eq_true rfl, Nat.le_of_ble_eq_true rfl⟩ rfl rfl rfl (by decide) rfl rfl rfl rfl rfl (Nat.le_of_ble_eq_true rfl) (Nat.zero_le _) (Nat.zero_le _) dX9_howLong_35 (fun r_12 u_13 w_14 => ?_)
      try dsimp only at w_14
      subst w_14
      refine J_goto (pc := 38) X 43 dX9_howLong_38 (by decide) ?_
      refine J_iret (pc := 43) X hr () dX9_howLong_43 ?_ rfl
      first | (rw [if_neg (by assumption)]; done) | (rw [if_pos (by assumption), if_neg (by assumption)]; done) | (rw [if_pos (by assumption), if_pos (by assumption)]; done)
  · skip
    refine J_ldc (pc := 10) X g285 dX9_howLong_10 ?_
    refine J_iret (pc := 12) X hr () dX9_howLong_12 ?_ rfl
    first | (rw [if_neg (by assumption)]; done) | (rw [if_pos (by assumption), if_neg (by assumption)]; done) | (rw [if_pos (by assumption), if_pos (by assumption)]; done)
set_option maxRecDepth 100000 in
set_option maxHeartbeats 600000 in
theorem kX9_takes (l : Launch) (G : va_G) (cI cC cZ : ClassId) (qx : Nat) (q : Nat) (qq : Nat) (qr : Nat) (qs : Nat) (qt : Nat) (qpa : Nat) (qi : Nat) (ql : Nat) (qb : Nat) (qg : Nat) (qw : Nat) (qn : Nat) (qd : Nat) (qh : Nat) (qp : Nat) (P : Nat) (gr : Int32) (wd : Nat) (g : Nat) (wk : Nat) (fr : Int32) (dyr : Nat → Int32) (qsc : Nat) (c : Nat → Int32) (hs : Nat) (nw : Nat → Int32) (dy : Nat → Int32) (a : Int32) (b : Int32) (v : Int32) (t : Int32) (hPl : P ≤ 60) (hg : g ≤ 8) (hwk : wk ≤ 4) (hwd : wd ≤ 50) (hP0 : 0 < g → 0 < P) (hhs : (g = 0 ∧ hs = 0) ∨ (0 < g ∧ hs = g + 1)) (hdy : ∀ k, k < g → dyr k = dy k) (hsc : scR c nw wk) : CI l G (tys3 cI cC cZ) yX9_takes cX9_takes 5 (some .int) ({ frames := 4, cells := 0, slots := 0, locals := 98 }) [.ref qx, .int a, .int b, .int v, .int t] [(qx, .inr (9, [.ref q, .ref qq, .ref qr, .ref qs, .ref qt, .ref qpa, .ref qi, .ref ql, .ref qb, .ref qg, .ref qw, .ref qn])), (q, .inr (5, [.int (nI P), .int gr, .int (nI wd), .int (nI g), .int (nI wk), .int fr, .ref qd, .ref qh, .ref qp])), (qd, .inl (cI, 8, .inl dyr)), (qs, .inr (7, [.ref qsc])), (qsc, .inl (cI, 18, .inl c))] (S := Unit) (fun (r : Int32) (u : Unit) => r = spTakes hs (fun k9 t9 => yG P (dy k9) gr t9) (nw 1) a b v t) (fun _ => [(qx, .inr (9, [.ref q, .ref qq, .ref qr, .ref qs, .ref qt, .ref qpa, .ref qi, .ref ql, .ref qb, .ref qg, .ref qw, .ref qn])), (q, .inr (5, [.int (nI P), .int gr, .int (nI wd), .int (nI g), .int (nI wk), .int fr, .ref qd, .ref qh, .ref qp])), (qd, .inl (cI, 8, .inl dyr)), (qs, .inr (7, [.ref qsc])), (qsc, .inl (cI, 18, .inl c))]) := by
  refine CI.intro (by decide) (Nat.le_of_ble_eq_true rfl) ?_
  intro p0 e0 s0 m0 ar0 be0 me0 c0 A0 X hr
  refine J_aload_n (pc := 0) X 0 dX9_takes_0 rfl ?_
  refine J_iload_n (pc := 1) X 1 dX9_takes_1 rfl ?_
  refine J_iload_n (pc := 2) X 2 dX9_takes_2 rfl ?_
  refine J_callR (pc := 3) (As := [.int a, .int b]) (rest := []) X mtX9_areTwoHouses g668 [0, 1] 0 (kX9_areTwoHouses l G cI cC cZ qx q qq qr qs qt qpa qi ql qb qg qw qn qd qh qp P gr wd g wk fr hs a b (by first | assumption | omega) (by first | assumption | omega) (by first | assumption | omega) (by first | assumption | omega) (by first | assumption | omega)) ⟨Nat.le_of_ble_eq_true rfl, Nat.le_of_ble_eq_true rfl⟩ rfl rfl rfl (by decide) rfl rfl rfl rfl rfl (Nat.le_of_ble_eq_true rfl) (Nat.zero_le _) (Nat.zero_le _) dX9_takes_3 (fun r_1 u_2 w_3 => ?_)
  try dsimp only at w_3
  subst w_3
  refine J_bif_ne (pc := 6) X 12 dX9_takes_6 (by decide) (fun c_4 => ?_) (fun c_4 => ?_)
  · skip
    have htwo := c_4
    obtain ⟨hta, htb, hnab⟩ := c_4
    obtain ⟨an, han, rfl⟩ := inB_ex (by omega) hta
    obtain ⟨bn, hbn, rfl⟩ := inB_ex (by omega) htb
    have hne : ¬ an = bn := fun e9 => hnab (congrArg nI e9)
    have ca := nI_clamp (n := an) (by omega)
    have cb := nI_clamp (n := bn) (by omega)
    refine J_iload_n (pc := 12) X 3 dX9_takes_12 rfl ?_
    refine J_callS (pc := 13) (As := [.int v]) (rest := []) X mtX9_isPace g677 [] (kX9_isPace l G cI cC cZ v ) ⟨Nat.le_of_ble_eq_true rfl, Nat.le_of_ble_eq_true rfl⟩ rfl rfl rfl (by decide) rfl rfl (Nat.le_of_ble_eq_true rfl) (Nat.zero_le _) (Nat.zero_le _) dX9_takes_13 (fun r_5 u_6 w_7 => ?_)
    try dsimp only at w_7
    subst w_7
    refine J_bif_eq (pc := 16) X 30 dX9_takes_16 (by decide) (fun c_8 => ?_) (fun c_8 => ?_)
    · skip
      refine J_ldc (pc := 30) X g285 dX9_takes_30 ?_
      refine J_iret (pc := 32) X hr () dX9_takes_32 ?_ rfl
      rw [spTakes, if_pos htwo, ca, cb]
      first | exact (if_neg (fun z => absurd z.1 (by assumption))).symm | exact (if_neg (fun z => absurd z.2 (by assumption))).symm
    · skip
      refine J_iload (pc := 19) X 4 dX9_takes_19 rfl ?_
      refine J_iconst (pc := 21) X 0 dX9_takes_21 (by decide) ?_
      refine J_bipush (pc := 22) X 119 dX9_takes_22 (by decide) ?_
      refine J_callS (pc := 24) (As := [.int t, .int 0, .int 119]) (rest := []) X mtX9_isWithin g282 [] (kX9_isWithin l G cI cC cZ t 0 119 ) ⟨Nat.le_of_ble_eq_true rfl, Nat.le_of_ble_eq_true rfl⟩ rfl rfl rfl (by decide) rfl rfl (Nat.le_of_ble_eq_true rfl) (Nat.zero_le _) (Nat.zero_le _) dX9_takes_24 (fun r_9 u_10 w_11 => ?_)
      try dsimp only at w_11
      subst w_11
      refine J_bif_ne (pc := 27) X 33 dX9_takes_27 (by decide) (fun c_12 => ?_) (fun c_12 => ?_)
      · skip
        refine J_aload_n (pc := 33) X 0 dX9_takes_33 rfl ?_
        refine J_get (pc := 34) X clX9 0 0 rfl (by decide) g241 rfl dX9_takes_34 ?_
        refine J_iload_n (pc := 37) X 1 dX9_takes_37 rfl ?_
        refine J_iload_n (pc := 38) X 2 dX9_takes_38 rfl ?_
        refine J_iload_n (pc := 39) X 3 dX9_takes_39 rfl ?_
        refine J_iload (pc := 40) X 4 dX9_takes_40 rfl ?_
        refine J_aload_n (pc := 42) X 0 dX9_takes_42 rfl ?_
        refine J_get (pc := 43) X clX9 0 3 rfl (by decide) g244 rfl dX9_takes_43 ?_
        refine J_callR (pc := 46) (As := []) (rest := [.int t, .int v, .int (nI bn), .int (nI an), .ref q]) X mtX7_ropeSet g453 [3, 4] 0 (kX7_ropeSet l G cI cC cZ qs qsc c ) ⟨Nat.le_of_ble_eq_true rfl, Nat.le_of_ble_eq_true rfl⟩ rfl rfl rfl (by decide) rfl rfl rfl rfl rfl (Nat.le_of_ble_eq_true rfl) (Nat.zero_le _) (Nat.zero_le _) dX9_takes_46 (fun r_13 u_14 w_15 => ?_)
        try dsimp only at w_15
        subst w_15
        refine J_top (y := nw 1) hsc.2.1 ?_
        refine J_sipush (pc := 49) X 300 dX9_takes_49 (by decide) ?_
        refine J_callR (pc := 52) (As := [.int (nI an), .int (nI bn), .int v, .int t, .int (nw 1), .int 300]) (rest := []) X mtX5_walkTime g680 [1, 2] 0 (kX5_walkTime l G cI cC cZ q qd qh qp P gr wd g wk fr dyr an bn v t (nw 1) 300 dy (by first | assumption | omega) (by first | assumption | omega) (by first | assumption | omega) (by first | assumption | omega) (by first | assumption | omega) (by first | assumption | omega) (by first | assumption | omega) (by first | assumption | omega) (by first | assumption | omega)) ⟨Nat.le_of_ble_eq_true rfl, Nat.le_of_ble_eq_true rfl⟩ rfl rfl rfl (by decide) rfl rfl rfl rfl rfl (Nat.le_of_ble_eq_true rfl) (Nat.zero_le _) (Nat.zero_le _) dX9_takes_52 (fun r_16 u_17 w_18 => ?_)
        try dsimp only at w_18
        subst w_18
        refine J_iret (pc := 55) X hr () dX9_takes_55 ?_ rfl
        rw [spTakes, if_pos htwo, ca, cb]
        rw [if_pos ⟨by assumption, by assumption⟩]
      · skip
        refine J_ldc (pc := 30) X g285 dX9_takes_30 ?_
        refine J_iret (pc := 32) X hr () dX9_takes_32 ?_ rfl
        rw [spTakes, if_pos htwo, ca, cb]
        first | exact (if_neg (fun z => absurd z.1 (by assumption))).symm | exact (if_neg (fun z => absurd z.2 (by assumption))).symm
  · skip
    refine J_ldc (pc := 9) X g473 dX9_takes_9 ?_
    refine J_iret (pc := 11) X hr () dX9_takes_11 ?_ rfl
    exact (if_neg (by assumption)).symm
