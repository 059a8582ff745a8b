set_option maxRecDepth 100000 in
set_option maxHeartbeats 600000 in
theorem kX10_areWalkers (l : Launch) (G : va_G) (cI cC cZ : ClassId) (q : Nat) (qtx : Nat) (qlw : Nat) (qgp : Nat) (qhm : Nat) (qpcs : Nat) (qdl : Nat) (qdg : Nat) (qdh : Nat) (qdp : Nat) (qnw : Nat) (qps : Nat) (qim : Nat) (qisd : Nat) (qkp : Nat) (qfd : Nat) (qbk : Nat) (qal : Nat) (qco : Nat) (ln : Nat) (fa : Int32) (dr : Int32) (dn : Nat) (sd : Int32) (fn : Nat) (en : Nat) (at_ : Nat) (wr : Nat) (pl : Int32) (yd : Int32) (wy : Int32) (pce_ : Int32) (tl : Int32) (lw : Nat → Int32) (P : Nat) (gr : Int32) (wd : Nat) (g : Nat) (wk : Nat) (a : Int32) (b : Int32) (hPl : P ≤ 60) (hg : g ≤ 8) (hwk : wk ≤ 4) (hwd : wd ≤ 50) (hl0 : lw 0 = nI P) (hl1 : lw 1 = gr) (hl2 : lw 2 = nI wd) (hl3 : lw 3 = nI g) (hl4 : lw 4 = nI wk) : CI l G (tys3 cI cC cZ) yX10_areWalkers cX10_areWalkers 3 (some .boolean) ({ frames := 2, cells := 0, slots := 0, locals := 43 }) [.ref q, .int a, .int b] [(q, .inr (10, [.ref qtx, .int (nI ln), .int fa, .ref qlw, .ref qgp, .ref qhm, .ref qpcs, .ref qdl, .ref qdg, .ref qdh, .ref qdp, .int dr, .int tl, .ref qnw, .ref qps, .int (nI dn), .ref qim, .ref qisd, .ref qkp, .int sd, .ref qfd, .int (nI fn), .ref qbk, .int (nI en), .int (nI at_), .int (nI wr), .int pl, .int yd, .int wy, .int pce_, .ref qal, .ref qco])), (qlw, .inl (cI, 5, .inl lw))] (S := Unit) (fun (r : Int32) (u : Unit) => r = bI (two a b wk)) (fun _ => [(q, .inr (10, [.ref qtx, .int (nI ln), .int fa, .ref qlw, .ref qgp, .ref qhm, .ref qpcs, .ref qdl, .ref qdg, .ref qdh, .ref qdp, .int dr, .int tl, .ref qnw, .ref qps, .int (nI dn), .ref qim, .ref qisd, .ref qkp, .int sd, .ref qfd, .int (nI fn), .ref qbk, .int (nI en), .int (nI at_), .int (nI wr), .int pl, .int yd, .int wy, .int pce_, .ref qal, .ref qco])), (qlw, .inl (cI, 5, .inl lw))]) := by
  refine CI.intro (by decide) (Nat.le_of_ble_eq_true rfl) ?_
  intro p0 e0 s0 m0 ar0 be0 me0 c0 A0 X hr
  refine J_aload_n (pc := 0) X 0 dX10_areWalkers_0 rfl ?_
  refine J_iload_n (pc := 1) X 1 dX10_areWalkers_1 rfl ?_
  refine J_callR (pc := 2) (As := [.int a]) (rest := []) X mtX10_isWalker g1086 [0, 1] 0 (kX10_isWalker l G cI cC cZ q qtx qlw qgp qhm qpcs qdl qdg qdh qdp qnw qps qim qisd qkp qfd qbk qal qco ln fa dr dn sd fn en at_ wr pl yd wy pce_ tl lw P gr wd g wk a (by first | assumption | omega) (by first | assumption | omega) (by first | assumption | omega) (by first | assumption | omega) (by first | assumption | omega) (by first | assumption | omega) (by first | assumption | omega) (by first | assumption | omega) (by first | assumption | omega)) ⟨Nat.le_of_ble_eq_true rfl, Nat.le_of_ble_eq_true rfl⟩ rfl rfl rfl (by decide) rfl rfl rfl rfl rfl (Nat.le_of_ble_eq_true rfl) (Nat.zero_le _) (Nat.zero_le _) dX10_areWalkers_2 (fun r_1 u_2 w_3 => ?_)
  try dsimp only at w_3
  subst w_3
  refine J_bif_eq (pc := 5) X 25 dX10_areWalkers_5 (by decide) (fun c_4 => ?_) (fun c_4 => ?_)
  · skip
    refine J_iconst (pc := 25) X 0 dX10_areWalkers_25 (by decide) ?_
    refine J_zret (pc := 26) X hr () rfl dX10_areWalkers_26 ?_ rfl
    first | exact (bI_t ⟨by assumption, by assumption, by assumption⟩).symm | exact (bI_f (fun z => absurd z.1 (by assumption))).symm | exact (bI_f (fun z => absurd z.2.1 (by assumption))).symm | exact (bI_f (fun z => absurd (by assumption) z.2.2)).symm
  · skip
    refine J_aload_n (pc := 8) X 0 dX10_areWalkers_8 rfl ?_
    refine J_iload_n (pc := 9) X 2 dX10_areWalkers_9 rfl ?_
    refine J_callR (pc := 10) (As := [.int b]) (rest := []) X mtX10_isWalker g1086 [0, 1] 0 (kX10_isWalker l G cI cC cZ q qtx qlw qgp qhm qpcs qdl qdg qdh qdp qnw qps qim qisd qkp qfd qbk qal qco ln fa dr dn sd fn en at_ wr pl yd wy pce_ tl lw P gr wd g wk b (by first | assumption | omega) (by first | assumption | omega) (by first | assumption | omega) (by first | assumption | omega) (by first | assumption | omega) (by first | assumption | omega) (by first | assumption | omega) (by first | assumption | omega) (by first | assumption | omega)) ⟨Nat.le_of_ble_eq_true rfl, Nat.le_of_ble_eq_true rfl⟩ rfl rfl rfl (by decide) rfl rfl rfl rfl rfl (Nat.le_of_ble_eq_true rfl) (Nat.zero_le _) (Nat.zero_le _) dX10_areWalkers_10 (fun r_5 u_6 w_7 => ?_)
    try dsimp only at w_7
    subst w_7
    refine J_bif_eq (pc := 13) X 25 dX10_areWalkers_13 (by decide) (fun c_8 => ?_) (fun c_8 => ?_)
    · skip
      refine J_iconst (pc := 25) X 0 dX10_areWalkers_25 (by decide) ?_
      refine J_zret (pc := 26) X hr () rfl dX10_areWalkers_26 ?_ rfl
      first | exact (bI_t ⟨by assumption, by assumption, by assumption⟩).symm | exact (bI_f (fun z => absurd z.1 (by assumption))).symm | exact (bI_f (fun z => absurd z.2.1 (by assumption))).symm | exact (bI_f (fun z => absurd (by assumption) z.2.2)).symm
    · skip
      refine J_iload_n (pc := 16) X 1 dX10_areWalkers_16 rfl ?_
      refine J_iload_n (pc := 17) X 2 dX10_areWalkers_17 rfl ?_
      refine J_icmp_eq (pc := 18) X 25 dX10_areWalkers_18 (by decide) (fun c_9 => ?_) (fun c_9 => ?_)
      · skip
        refine J_iconst (pc := 25) X 0 dX10_areWalkers_25 (by decide) ?_
        refine J_zret (pc := 26) X hr () rfl dX10_areWalkers_26 ?_ rfl
        first | exact (bI_t ⟨by assumption, by assumption, by assumption⟩).symm | exact (bI_f (fun z => absurd z.1 (by assumption))).symm | exact (bI_f (fun z => absurd z.2.1 (by assumption))).symm | exact (bI_f (fun z => absurd (by assumption) z.2.2)).symm
      · skip
        refine J_iconst (pc := 21) X 1 dX10_areWalkers_21 (by decide) ?_
        refine J_goto (pc := 22) X 26 dX10_areWalkers_22 (by decide) ?_
        refine J_zret (pc := 26) X hr () rfl dX10_areWalkers_26 ?_ rfl
        first | exact (bI_t ⟨by assumption, by assumption, by assumption⟩).symm | exact (bI_f (fun z => absurd z.1 (by assumption))).symm | exact (bI_f (fun z => absurd z.2.1 (by assumption))).symm | exact (bI_f (fun z => absurd (by assumption) z.2.2)).symm
set_option maxRecDepth 100000 in
set_option maxHeartbeats 600000 in
theorem kX10_areHouses (l : Launch) (G : va_G) (cI cC cZ : ClassId) (q : Nat) (qtx : Nat) (qlw : Nat) (qgp : Nat) (qhm : Nat) (qpcs : Nat) (qdl : Nat) (qdg : Nat) (qdh : Nat) (qdp : Nat) (qnw : Nat) (qps : Nat) (qim : Nat) (qisd : Nat) (qkp : Nat) (qfd : Nat) (qbk : Nat) (qal : Nat) (qco : Nat) (ln : Nat) (fa : Int32) (dr : Int32) (dn : Nat) (sd : Int32) (fn : Nat) (en : Nat) (at_ : Nat) (wr : Nat) (pl : Int32) (yd : Int32) (wy : Int32) (pce_ : Int32) (tl : Int32) (lw : Nat → Int32) (P : Nat) (gr : Int32) (wd : Nat) (g : Nat) (wk : Nat) (hs : Nat) (a : Int32) (b : Int32) (hPl : P ≤ 60) (hg : g ≤ 8) (hwk : wk ≤ 4) (hwd : wd ≤ 50) (hl0 : lw 0 = nI P) (hl1 : lw 1 = gr) (hl2 : lw 2 = nI wd) (hl3 : lw 3 = nI g) (hl4 : lw 4 = nI wk) (hhs : (g = 0 ∧ hs = 0) ∨ (0 < g ∧ hs = g + 1)) : CI l G (tys3 cI cC cZ) yX10_areHouses cX10_areHouses 3 (some .boolean) ({ frames := 2, cells := 0, slots := 0, locals := 43 }) [.ref q, .int a, .int b] [(q, .inr (10, [.ref qtx, .int (nI ln), .int fa, .ref qlw, .ref qgp, .ref qhm, .ref qpcs, .ref qdl, .ref qdg, .ref qdh, .ref qdp, .int dr, .int tl, .ref qnw, .ref qps, .int (nI dn), .ref qim, .ref qisd, .ref qkp, .int sd, .ref qfd, .int (nI fn), .ref qbk, .int (nI en), .int (nI at_), .int (nI wr), .int pl, .int yd, .int wy, .int pce_, .ref qal, .ref qco])), (qlw, .inl (cI, 5, .inl lw))] (S := Unit) (fun (r : Int32) (u : Unit) => r = bI (two a b hs)) (fun _ => [(q, .inr (10, [.ref qtx, .int (nI ln), .int fa, .ref qlw, .ref qgp, .ref qhm, .ref qpcs, .ref qdl, .ref qdg, .ref qdh, .ref qdp, .int dr, .int tl, .ref qnw, .ref qps, .int (nI dn), .ref qim, .ref qisd, .ref qkp, .int sd, .ref qfd, .int (nI fn), .ref qbk, .int (nI en), .int (nI at_), .int (nI wr), .int pl, .int yd, .int wy, .int pce_, .ref qal, .ref qco])), (qlw, .inl (cI, 5, .inl lw))]) := by
  refine CI.intro (by decide) (Nat.le_of_ble_eq_true rfl) ?_
  intro p0 e0 s0 m0 ar0 be0 me0 c0 A0 X hr
  refine J_aload_n (pc := 0) X 0 dX10_areHouses_0 rfl ?_
  refine J_iload_n (pc := 1) X 1 dX10_areHouses_1 rfl ?_
  refine J_callR (pc := 2) (As := [.int a]) (rest := []) X mtX10_isHouse g1175 [0, 1] 0 (kX10_isHouse l G cI cC cZ q qtx qlw qgp qhm qpcs qdl qdg qdh qdp qnw qps qim qisd qkp qfd qbk qal qco ln fa dr dn sd fn en at_ wr pl yd wy pce_ tl lw P gr wd g wk a hs (by first | assumption | omega) (by first | assumption | omega) (by first | assumption | omega) (by first | assumption | omega) (by first | assumption | omega) (by first | assumption | omega) (by first | assumption | omega) (by first | assumption | omega) (by first | assumption | omega) (by first | assumption | omega)) ⟨Nat.le_of_ble_eq_true rfl, Nat.le_of_ble_eq_true rfl⟩ rfl rfl rfl (by decide) rfl rfl rfl rfl rfl (Nat.le_of_ble_eq_true rfl) (Nat.zero_le _) (Nat.zero_le _) dX10_areHouses_2 (fun r_1 u_2 w_3 => ?_)
  try dsimp only at w_3
  subst w_3
  refine J_bif_eq (pc := 5) X 25 dX10_areHouses_5 (by decide) (fun c_4 => ?_) (fun c_4 => ?_)
  · skip
    refine J_iconst (pc := 25) X 0 dX10_areHouses_25 (by decide) ?_
    refine J_zret (pc := 26) X hr () rfl dX10_areHouses_26 ?_ rfl
    first | exact (bI_t ⟨by assumption, by assumption, by assumption⟩).symm | exact (bI_f (fun z => absurd z.1 (by assumption))).symm | exact (bI_f (fun z => absurd z.2.1 (by assumption))).symm | exact (bI_f (fun z => absurd (by assumption) z.2.2)).symm
  · skip
    refine J_aload_n (pc := 8) X 0 dX10_areHouses_8 rfl ?_
    refine J_iload_n (pc := 9) X 2 dX10_areHouses_9 rfl ?_
    refine J_callR (pc := 10) (As := [.int b]) (rest := []) X mtX10_isHouse g1175 [0, 1] 0 (kX10_isHouse l G cI cC cZ q qtx qlw qgp qhm qpcs qdl qdg qdh qdp qnw qps qim qisd qkp qfd qbk qal qco ln fa dr dn sd fn en at_ wr pl yd wy pce_ tl lw P gr wd g wk b hs (by first | assumption | omega) (by first | assumption | omega) (by first | assumption | omega) (by first | assumption | omega) (by first | assumption | omega) (by first | assumption | omega) (by first | assumption | omega) (by first | assumption | omega) (by first | assumption | omega) (by first | assumption | omega)) ⟨Nat.le_of_ble_eq_true rfl, Nat.le_of_ble_eq_true rfl⟩ rfl rfl rfl (by decide) rfl rfl rfl rfl rfl (Nat.le_of_ble_eq_true rfl) (Nat.zero_le _) (Nat.zero_le _) dX10_areHouses_10 (fun r_5 u_6 w_7 => ?_)
    try dsimp only at w_7
    subst w_7
    refine J_bif_eq (pc := 13) X 25 dX10_areHouses_13 (by decide) (fun c_8 => ?_) (fun c_8 => ?_)
    · skip
      refine J_iconst (pc := 25) X 0 dX10_areHouses_25 (by decide) ?_
      refine J_zret (pc := 26) X hr () rfl dX10_areHouses_26 ?_ rfl
      first | exact (bI_t ⟨by assumption, by assumption, by assumption⟩).symm | exact (bI_f (fun z => absurd z.1 (by assumption))).symm | exact (bI_f (fun z => absurd z.2.1 (by assumption))).symm | exact (bI_f (fun z => absurd (by assumption) z.2.2)).symm
    · skip
      refine J_iload_n (pc := 16) X 1 dX10_areHouses_16 rfl ?_
      refine J_iload_n (pc := 17) X 2 dX10_areHouses_17 rfl ?_
      refine J_icmp_eq (pc := 18) X 25 dX10_areHouses_18 (by decide) (fun c_9 => ?_) (fun c_9 => ?_)
      · skip
        refine J_iconst (pc := 25) X 0 dX10_areHouses_25 (by decide) ?_
        refine J_zret (pc := 26) X hr () rfl dX10_areHouses_26 ?_ rfl
        first | exact (bI_t ⟨by assumption, by assumption, by assumption⟩).symm | exact (bI_f (fun z => absurd z.1 (by assumption))).symm | exact (bI_f (fun z => absurd z.2.1 (by assumption))).symm | exact (bI_f (fun z => absurd (by assumption) z.2.2)).symm
      · skip
        refine J_iconst (pc := 21) X 1 dX10_areHouses_21 (by decide) ?_
        refine J_goto (pc := 22) X 26 dX10_areHouses_22 (by decide) ?_
        refine J_zret (pc := 26) X hr () rfl dX10_areHouses_26 ?_ rfl
        first | exact (bI_t ⟨by assumption, by assumption, by assumption⟩).symm | exact (bI_f (fun z => absurd z.1 (by assumption))).symm | exact (bI_f (fun z => absurd z.2.1 (by assumption))).symm | exact (bI_f (fun z => absurd (by assumption) z.2.2)).symm
set_option maxRecDepth 100000 in
set_option maxHeartbeats 600000 in
theorem kX10_howLong (l : Launch) (G : va_G) (cI cC cZ : ClassId) (q : Nat) (qtx : Nat) (qlw : Nat) (qgp : Nat) (qhm : Nat) (qpcs : Nat) (qdl : Nat) (qdg : Nat) (qdh : Nat) (qdp : Nat) (qnw : Nat) (qps : Nat) (qim : Nat) (qisd : Nat) (qkp : Nat) (qfd : Nat) (qbk : Nat) (qal : Nat) (qco : Nat) (ln : Nat) (fa : Int32) (dr : Int32) (dn : Nat) (sd : Int32) (fn : Nat) (en : Nat) (at_ : Nat) (wr : Nat) (pl : Int32) (yd : Int32) (wy : Int32) (pce_ : Int32) (tl : Int32) (lw : Nat → Int32) (gp : Nat → Int32) (P : Nat) (gr : Int32) (wd : Nat) (g : Nat) (wk : Nat) (t : Int32) (hPl : P ≤ 60) (hg : g ≤ 8) (hwk : wk ≤ 4) (hwd : wd ≤ 50) (hl0 : lw 0 = nI P) (hl1 : lw 1 = gr) (hl2 : lw 2 = nI wd) (hl3 : lw 3 = nI g) (hl4 : lw 4 = nI wk) (hP0 : 0 < g → 0 < P) : CI l G (tys3 cI cC cZ) yX10_howLong cX10_howLong 4 (some .int) ({ frames := 3, cells := 0, slots := 0, locals := 67 }) [.ref q, .int t] [(q, .inr (10, [.ref qtx, .int (nI ln), .int fa, .ref qlw, .ref qgp, .ref qhm, .ref qpcs, .ref qdl, .ref qdg, .ref qdh, .ref qdp, .int dr, .int tl, .ref qnw, .ref qps, .int (nI dn), .ref qim, .ref qisd, .ref qkp, .int sd, .ref qfd, .int (nI fn), .ref qbk, .int (nI en), .int (nI at_), .int (nI wr), .int pl, .int yd, .int wy, .int pce_, .ref qal, .ref qco])), (qlw, .inl (cI, 5, .inl lw)), (qgp, .inl (cI, 8, .inl gp))] (S := Unit) (fun (r : Int32) (u : Unit) => r = if wIn t 0 120 then (if 0 < P then sumI (fun k9 => yG P (gp k9) gr t) g else -1000000003) else -1000000002) (fun _ => [(q, .inr (10, [.ref qtx, .int (nI ln), .int fa, .ref qlw, .ref qgp, .ref qhm, .ref qpcs, .ref qdl, .ref qdg, .ref qdh, .ref qdp, .int dr, .int tl, .ref qnw, .ref qps, .int (nI dn), .ref qim, .ref qisd, .ref qkp, .int sd, .ref qfd, .int (nI fn), .ref qbk, .int (nI en), .int (nI at_), .int (nI wr), .int pl, .int yd, .int wy, .int pce_, .ref qal, .ref qco])), (qlw, .inl (cI, 5, .inl lw)), (qgp, .inl (cI, 8, .inl gp))]) := by
  refine CI.intro (by decide) (Nat.le_of_ble_eq_true rfl) ?_
  intro p0 e0 s0 m0 ar0 be0 me0 c0 A0 X hr
  refine J_iload_n (pc := 0) X 1 dX10_howLong_0 rfl ?_
  refine J_iconst (pc := 1) X 0 dX10_howLong_1 (by decide) ?_
  refine J_bipush (pc := 2) X 120 dX10_howLong_2 (by decide) ?_
  refine J_callS (pc := 4) (As := [.int t, .int 0, .int 120]) (rest := []) X mtX10_in g990 [] (kX10_in l G cI cC cZ t 0 120 ) ⟨Nat.le_of_ble_eq_true rfl, Nat.le_of_ble_eq_true rfl⟩ rfl rfl rfl (by decide) rfl rfl (Nat.le_of_ble_eq_true rfl) (Nat.zero_le _) (Nat.zero_le _) dX10_howLong_4 (fun r_1 u_2 w_3 => ?_)
  try dsimp only at w_3
  subst w_3
  refine J_bif_ne (pc := 7) X 13 dX10_howLong_7 (by decide) (fun c_4 => ?_) (fun c_4 => ?_)
  · skip
    refine J_aload_n (pc := 13) X 0 dX10_howLong_13 rfl ?_
    refine J_callR (pc := 14) (As := []) (rest := []) X mtX10_isStreet g1126 [0, 1] 0 (kX10_isStreet l G cI cC cZ q qtx qlw qgp qhm qpcs qdl qdg qdh qdp qnw qps qim qisd qkp qfd qbk qal qco ln fa dr dn sd fn en at_ wr pl yd wy pce_ tl lw P gr wd g wk (by first | assumption | omega) (by first | assumption | omega) (by first | assumption | omega) (by first | assumption | omega) (by first | assumption | omega) (by first | assumption | omega) (by first | assumption | omega) (by first | assumption | omega) (by first | assumption | omega)) ⟨Nat.le_of_ble_eq_true rfl, Nat.le_of_ble_eq_true rfl⟩ rfl rfl rfl (by decide) rfl rfl rfl rfl rfl (Nat.le_of_ble_eq_true rfl) (Nat.zero_le _) (Nat.zero_le _) dX10_howLong_14 (fun r_5 u_6 w_7 => ?_)
    try dsimp only at w_7
    subst w_7
    refine J_bif_ne (pc := 17) X 23 dX10_howLong_17 (by decide) (fun c_8 => ?_) (fun c_8 => ?_)
    · skip
      refine J_iconst (pc := 23) X 0 dX10_howLong_23 (by decide) ?_
      refine J_istore_n (pc := 24) X [(2, .int 0), (0, .ref q), (1, .int t)] dX10_howLong_24 (by decide) rfl ?_
      refine J_iconst (pc := 25) X 0 dX10_howLong_25 (by decide) ?_
      refine J_istore_n (pc := 26) X [(3, .int 0), (2, .int 0), (0, .ref q), (1, .int t)] dX10_howLong_26 (by decide) rfl ?_
      have L_27 : ∀ (n_27 : Nat) (i : Nat) (hi : i ≤ g), (g - i) < n_27 → JJ p0 l e0 ({ frames := 3, cells := 0, slots := 0, locals := 67 }) s0 m0 ar0 be0 me0 c0 A0 G 4 0 0 (QI be0 ar0 s0 A0 G (tys3 cI cC cZ) (S := Unit) (fun (r : Int32) (u : Unit) => r = if wIn t 0 120 then (if 0 < P then sumI (fun k9 => yG P (gp k9) gr t) g else -1000000003) else -1000000002) (fun _ => [(q, .inr (10, [.ref qtx, .int (nI ln), .int fa, .ref qlw, .ref qgp, .ref qhm, .ref qpcs, .ref qdl, .ref qdg, .ref qdh, .ref qdp, .int dr, .int tl, .ref qnw, .ref qps, .int (nI dn), .ref qim, .ref qisd, .ref qkp, .int sd, .ref qfd, .int (nI fn), .ref qbk, .int (nI en), .int (nI at_), .int (nI wr), .int pl, .int yd, .int wy, .int pce_, .ref qal, .ref qco])), (qlw, .inl (cI, 5, .inl lw)), (qgp, .inl (cI, 8, .inl gp))])) [(q, .inr (10, [.ref qtx, .int (nI ln), .int fa, .ref qlw, .ref qgp, .ref qhm, .ref qpcs, .ref qdl, .ref qdg, .ref qdh, .ref qdp, .int dr, .int tl, .ref qnw, .ref qps, .int (nI dn), .ref qim, .ref qisd, .ref qkp, .int sd, .ref qfd, .int (nI fn), .ref qbk, .int (nI en), .int (nI at_), .int (nI wr), .int pl, .int yd, .int wy, .int pce_, .ref qal, .ref qco])), (qlw, .inl (cI, 5, .inl lw)), (qgp, .inl (cI, 8, .inl gp))] 27 [(0, .ref q), (1, .int t), (2, .int (sumI (fun k9 => yG P (gp k9) gr t) i)), (3, .int (nI i))] [] := by
        intro n_27
        induction n_27 with
        | zero => intro i hi hm_27; exact absurd hm_27 (Nat.not_lt_zero _)
        | succ n_27 ih_27 =>
          intro i hi hm_27
          refine J_iload_n (pc := 27) X 3 dX10_howLong_27 rfl ?_
          refine J_aload_n (pc := 28) X 0 dX10_howLong_28 rfl ?_
          refine J_get (pc := 29) X clX10 0 3 rfl (by decide) g892 rfl dX10_howLong_29 ?_
          refine J_iconst (pc := 32) X 3 dX10_howLong_32 (by decide) ?_
          refine J_iald (pc := 33) X 1 0 3 rfl rfl rfl (by decide) (by decide) dX10_howLong_33 ?_
          refine J_top (y := nI g) hl3 ?_
          refine J_icmp_ge (pc := 34) X 52 dX10_howLong_34 (by decide) (fun c_9 => ?_) (fun c_9 => ?_)
          · have c_9 : g ≤ i := n_le_of (a := g) (b := i) (by omega) (by omega) c_9
            refine J_iload_n (pc := 52) X 2 dX10_howLong_52 rfl ?_
            refine J_iret (pc := 53) X hr () dX10_howLong_53 ?_ rfl
            first | (rw [if_neg (by assumption)]; done) | (rw [if_pos (by assumption), if_neg (by assumption)]; done) | (rw [if_pos (by assumption), if_pos (by assumption)]; exact congrArg (sumI _) (by omega))
          · have c_9 : i < g := n_nle_of (a := g) (b := i) (by omega) (by omega) c_9
            refine J_iload_n (pc := 37) X 2 dX10_howLong_37 rfl ?_
            refine J_aload_n (pc := 38) X 0 dX10_howLong_38 rfl ?_
            refine J_iload_n (pc := 39) X 3 dX10_howLong_39 rfl ?_
            refine J_iload_n (pc := 40) X 1 dX10_howLong_40 rfl ?_
            refine J_callR (pc := 41) (As := [.int (nI i), .int t]) (rest := [.int (sumI (fun k9 => yG P (gp k9) gr t) i)]) X mtX10_yardsOf g1067 [0, 1, 2] 0 (kX10_yardsOf l G cI cC cZ q qtx qlw qgp qhm qpcs qdl qdg qdh qdp qnw qps qim qisd qkp qfd qbk qal qco ln fa dr dn sd fn en at_ wr pl yd wy pce_ tl lw gp P gr wd g wk i t (by first | assumption | omega) (by first | assumption | omega) (by first | assumption | omega) (by first | assumption | omega) (by first | assumption | omega) (by first | assumption | omega) (by first | assumption | omega) (by first | assumption | omega) (by first | assumption | omega) (by first | assumption | omega) (by first | assumption | omega)) ⟨Nat.le_of_ble_eq_true rfl, Nat.le_of_ble_eq_true rfl⟩ rfl rfl rfl (by decide) rfl rfl rfl rfl rfl (Nat.le_of_ble_eq_true rfl) (Nat.zero_le _) (Nat.zero_le _) dX10_howLong_41 (fun r_10 u_11 w_12 => ?_)
            try dsimp only at w_12
            subst w_12
            refine J_iadd (pc := 44) X dX10_howLong_44 ?_
            refine J_istore_n (pc := 45) X [(2, .int ((sumI (fun k9 => yG P (gp k9) gr t) i) + (yG P (gp i) gr t))), (0, .ref q), (1, .int t), (3, .int (nI i))] dX10_howLong_45 (by decide) rfl ?_
            refine J_iinc (pc := 46) X (nI (i + 1)) 3 [(3, .int (nI (i + 1))), (2, .int ((sumI (fun k9 => yG P (gp k9) gr t) i) + (yG P (gp i) gr t))), (0, .ref q), (1, .int t)] dX10_howLong_46 rfl (n_add (x := i) (y := 1) rfl rfl (by omega)) (by decide) rfl ?_
            refine J_goto (pc := 49) X 27 dX10_howLong_49 (by decide) ?_
            refine J_loc [2, 3, 1, 0] (lv2 := [(0, .ref q), (1, .int t), (2, .int (sumI (fun k9 => yG P (gp k9) gr t) (i + 1))), (3, .int (nI (i + 1)))]) rfl ?_
            exact ih_27  (i + 1) (by first | assumption | omega | simp_all) (by omega)
      refine J_loc [2, 3, 1, 0] (lv2 := [(0, .ref q), (1, .int t), (2, .int (sumI (fun k9 => yG P (gp k9) gr t) 0)), (3, .int 0)]) rfl ?_
      exact L_27 _  0 (by first | assumption | omega | simp_all) (Nat.lt_succ_self _)
    · skip
      refine J_ldc (pc := 20) X g1106 dX10_howLong_20 ?_
      refine J_iret (pc := 22) X hr () dX10_howLong_22 ?_ rfl
      first | (rw [if_neg (by assumption)]; done) | (rw [if_pos (by assumption), if_neg (by assumption)]; done) | (rw [if_pos (by assumption), if_pos (by assumption)]; exact congrArg (sumI _) (by omega))
  · skip
    refine J_ldc (pc := 10) X g993 dX10_howLong_10 ?_
    refine J_iret (pc := 12) X hr () dX10_howLong_12 ?_ rfl
    first | (rw [if_neg (by assumption)]; done) | (rw [if_pos (by assumption), if_neg (by assumption)]; done) | (rw [if_pos (by assumption), if_pos (by assumption)]; exact congrArg (sumI _) (by omega))
set_option maxRecDepth 100000 in
set_option maxHeartbeats 600000 in
theorem kX10_takesBy (l : Launch) (G : va_G) (cI cC cZ : ClassId) (q : Nat) (qtx : Nat) (qlw : Nat) (qgp : Nat) (qhm : Nat) (qpcs : Nat) (qdl : Nat) (qdg : Nat) (qdh : Nat) (qdp : Nat) (qnw : Nat) (qps : Nat) (qim : Nat) (qisd : Nat) (qkp : Nat) (qfd : Nat) (qbk : Nat) (qal : Nat) (qco : Nat) (ln : Nat) (fa : Int32) (dr : Int32) (dn : Nat) (sd : Int32) (fn : Nat) (en : Nat) (at_ : Nat) (wr : Nat) (pl : Int32) (yd : Int32) (wy : Int32) (pce_ : Int32) (tl : Int32) (lw : Nat → Int32) (gp : Nat → Int32) (P : Nat) (gr : Int32) (wd : Nat) (g : Nat) (wk : Nat) (a : Nat) (b : Nat) (v : Int32) (t : Int32) (rp : Int32) (M : Nat) (hPl : P ≤ 60) (hg : g ≤ 8) (hwk : wk ≤ 4) (hwd : wd ≤ 50) (hl0 : lw 0 = nI P) (hl1 : lw 1 = gr) (hl2 : lw 2 = nI wd) (hl3 : lw 3 = nI g) (hl4 : lw 4 = nI wk) (hP0 : 0 < g → 0 < P) (ha : a ≤ g) (hb : b ≤ g) (hab : ¬ a = b) (hM : M ≤ 1000) : CI l G (tys3 cI cC cZ) yX10_takesBy cX10_takesBy 8 (some .int) ({ frames := 4, cells := 0, slots := 0, locals := 90 }) [.ref q, .int (nI a), .int (nI b), .int v, .int t, .int rp, .int (nI M)] [(q, .inr (10, [.ref qtx, .int (nI ln), .int fa, .ref qlw, .ref qgp, .ref qhm, .ref qpcs, .ref qdl, .ref qdg, .ref qdh, .ref qdp, .int dr, .int tl, .ref qnw, .ref qps, .int (nI dn), .ref qim, .ref qisd, .ref qkp, .int sd, .ref qfd, .int (nI fn), .ref qbk, .int (nI en), .int (nI at_), .int (nI wr), .int pl, .int yd, .int wy, .int pce_, .ref qal, .ref qco])), (qlw, .inl (cI, 5, .inl lw)), (qgp, .inl (cI, 8, .inl gp))] (S := Int32 × Int32 × Int32 × Int32) (fun (r : Int32) (u : Int32 × Int32 × Int32 × Int32) => r = rT (wT (fun k9 t9 => yG P (gp k9) gr t9) rp v t b M a 0 0)) (fun (u : Int32 × Int32 × Int32 × Int32) => [(q, .inr (10, [.ref qtx, .int (nI ln), .int fa, .ref qlw, .ref qgp, .ref qhm, .ref qpcs, .ref qdl, .ref qdg, .ref qdh, .ref qdp, .int dr, .int tl, .ref qnw, .ref qps, .int (nI dn), .ref qim, .ref qisd, .ref qkp, .int sd, .ref qfd, .int (nI fn), .ref qbk, .int (nI en), .int (nI at_), .int (nI wr), .int u.1, .int u.2.1, .int u.2.2.1, .int u.2.2.2, .ref qal, .ref qco])), (qlw, .inl (cI, 5, .inl lw)), (qgp, .inl (cI, 8, .inl gp))]) := by
  refine CI.intro (by decide) (Nat.le_of_ble_eq_true rfl) ?_
  intro p0 e0 s0 m0 ar0 be0 me0 c0 A0 X hr
  refine J_aload_n (pc := 0) X 0 dX10_takesBy_0 rfl ?_
  refine J_iload_n (pc := 1) X 1 dX10_takesBy_1 rfl ?_
  refine J_iload_n (pc := 2) X 2 dX10_takesBy_2 rfl ?_
  refine J_iload_n (pc := 3) X 1 dX10_takesBy_3 rfl ?_
  refine J_icmp_le (pc := 4) X 11 dX10_takesBy_4 (by decide) (fun c_1 => ?_) (fun c_1 => ?_)
  · have c_1 : b ≤ a := n_le_of (a := b) (b := a) (by omega) (by omega) c_1
    refine J_iconst (pc := 11) X 0 dX10_takesBy_11 (by decide) ?_
    refine J_iload_n (pc := 12) X 3 dX10_takesBy_12 rfl ?_
    refine J_callV (pc := 13) (As := [.int (nI a), .int 0, .int v]) (rest := []) X mtX10_setsOut g1183 [0] [1, 2] [2, 0, 1] 0 (fun u => [(q, .inr (10, [.ref qtx, .int (nI ln), .int fa, .ref qlw, .ref qgp, .ref qhm, .ref qpcs, .ref qdl, .ref qdg, .ref qdh, .ref qdp, .int dr, .int tl, .ref qnw, .ref qps, .int (nI dn), .ref qim, .ref qisd, .ref qkp, .int sd, .ref qfd, .int (nI fn), .ref qbk, .int (nI en), .int (nI at_), .int (nI wr), .int (nI a), .int 0, .int 0, .int v, .ref qal, .ref qco])), (qlw, .inl (cI, 5, .inl lw)), (qgp, .inl (cI, 8, .inl gp))]) (kX10_setsOut l G cI cC cZ q qtx qlw qgp qhm qpcs qdl qdg qdh qdp qnw qps qim qisd qkp qfd qbk qal qco ln fa dr dn sd fn en at_ wr pl yd wy pce_ tl a 0 v ) ⟨Nat.le_of_ble_eq_true rfl, Nat.le_of_ble_eq_true rfl⟩ rfl rfl rfl (by decide) (wr := [(qlw, .inl (cI, 5, .inl lw)), (qgp, .inl (cI, 8, .inl gp))]) rfl (by decide) (by decide) (fun _ => rfl) (by decide) rfl rfl rfl rfl rfl (Nat.le_of_ble_eq_true rfl) (Nat.zero_le _) (Nat.zero_le _) dX10_takesBy_13 (fun u_3 w_4 => ?_)
    try dsimp only at w_4
    refine J_iconst (pc := 16) X 1 dX10_takesBy_16 (by decide) ?_
    refine J_istore (pc := 17) X [(7, .int 1), (0, .ref q), (1, .int (nI a)), (2, .int (nI b)), (3, .int v), (4, .int t), (5, .int rp), (6, .int (nI M))] dX10_takesBy_17 (by decide) rfl ?_
    have L_19 : ∀ (n_19 : Nat) (m : Nat) (pos : Nat) (y : Int32) (wx : Int32) (hm : m ≤ M) (hpk : posOk g pos) (hy0 : pos < 100 → y = 0) (hdir : (wx = 2 ∧ hO pos wx < b) ∨ (wx = 0 ∧ b < hO pos wx)) (hwt : wT (fun k9 t9 => yG P (gp k9) gr t9) rp v t b (M - m) (hO pos wx) y m = wT (fun k9 t9 => yG P (gp k9) gr t9) rp v t b M a 0 0), (M - m) < n_19 → JJ p0 l e0 ({ frames := 4, cells := 0, slots := 0, locals := 90 }) s0 m0 ar0 be0 me0 c0 A0 G 8 0 0 (QI be0 ar0 s0 A0 G (tys3 cI cC cZ) (S := Int32 × Int32 × Int32 × Int32) (fun (r : Int32) (u : Int32 × Int32 × Int32 × Int32) => r = rT (wT (fun k9 t9 => yG P (gp k9) gr t9) rp v t b M a 0 0)) (fun (u : Int32 × Int32 × Int32 × Int32) => [(q, .inr (10, [.ref qtx, .int (nI ln), .int fa, .ref qlw, .ref qgp, .ref qhm, .ref qpcs, .ref qdl, .ref qdg, .ref qdh, .ref qdp, .int dr, .int tl, .ref qnw, .ref qps, .int (nI dn), .ref qim, .ref qisd, .ref qkp, .int sd, .ref qfd, .int (nI fn), .ref qbk, .int (nI en), .int (nI at_), .int (nI wr), .int u.1, .int u.2.1, .int u.2.2.1, .int u.2.2.2, .ref qal, .ref qco])), (qlw, .inl (cI, 5, .inl lw)), (qgp, .inl (cI, 8, .inl gp))])) [(q, .inr (10, [.ref qtx, .int (nI ln), .int fa, .ref qlw, .ref qgp, .ref qhm, .ref qpcs, .ref qdl, .ref qdg, .ref qdh, .ref qdp, .int dr, .int tl, .ref qnw, .ref qps, .int (nI dn), .ref qim, .ref qisd, .ref qkp, .int sd, .ref qfd, .int (nI fn), .ref qbk, .int (nI en), .int (nI at_), .int (nI wr), .int (nI pos), .int y, .int wx, .int v, .ref qal, .ref qco])), (qlw, .inl (cI, 5, .inl lw)), (qgp, .inl (cI, 8, .inl gp))] 19 [(0, .ref q), (1, .int (nI a)), (2, .int (nI b)), (3, .int v), (4, .int t), (5, .int rp), (6, .int (nI M)), (7, .int (nI (m + 1)))] [] := by
      intro n_19
      induction n_19 with
      | zero => intro m pos y wx hm hpk hy0 hdir hwt hm_19; exact absurd hm_19 (Nat.not_lt_zero _)
      | succ n_19 ih_19 =>
        intro m pos y wx hm hpk hy0 hdir hwt hm_19
        refine J_iload (pc := 19) X 7 dX10_takesBy_19 rfl ?_
        refine J_iload (pc := 21) X 6 dX10_takesBy_21 rfl ?_
        refine J_icmp_gt (pc := 23) X 56 dX10_takesBy_23 (by decide) (fun c_5 => ?_) (fun c_5 => ?_)
        · have c_5 : M < m + 1 := n_lt_of (a := M) (b := m + 1) (by omega) (by omega) c_5
          refine J_iconst (pc := 56) X (-1) dX10_takesBy_56 (by decide) ?_
          refine J_iret (pc := 57) X hr ((nI pos), y, wx, v) dX10_takesBy_57 ?_ rfl
          exact tk_out (by rcases hdir with h | h <;> omega) (by omega) hwt
        · have c_5 : m + 1 ≤ M := n_nlt_of (a := M) (b := m + 1) (by omega) (by omega) c_5
          refine J_aload_n (pc := 26) X 0 dX10_takesBy_26 rfl ?_
          refine J_iload (pc := 27) X 4 dX10_takesBy_27 rfl ?_
          refine J_iload (pc := 29) X 7 dX10_takesBy_29 rfl ?_
          refine J_iadd (pc := 31) X dX10_takesBy_31 ?_
          refine J_iconst (pc := 32) X 1 dX10_takesBy_32 (by decide) ?_
          refine J_isub (pc := 33) X dX10_takesBy_33 ?_
          refine J_top (y := t + nI m) (by rw [show nI (m + 1) = nI m + 1 from nI_succ m, ← Int32.add_assoc, Int32.add_sub_cancel]) ?_
          refine J_iload (pc := 34) X 5 dX10_takesBy_34 rfl ?_
          refine J_callV (pc := 36) (As := [.int (t + nI m), .int rp]) (rest := []) X mtX10_walks g1135 [0, 1, 2] [] [0, 1, 2] 0 (fun u => [(q, .inr (10, [.ref qtx, .int (nI ln), .int fa, .ref qlw, .ref qgp, .ref qhm, .ref qpcs, .ref qdl, .ref qdg, .ref qdh, .ref qdp, .int dr, .int tl, .ref qnw, .ref qps, .int (nI dn), .ref qim, .ref qisd, .ref qkp, .int sd, .ref qfd, .int (nI fn), .ref qbk, .int (nI en), .int (nI at_), .int (nI wr), .int (nI u.1), .int u.2.1, .int u.2.2, .int v, .ref qal, .ref qco])), (qlw, .inl (cI, 5, .inl lw)), (qgp, .inl (cI, 8, .inl gp))]) (kX10_walks l G cI cC cZ q qtx qlw qgp qhm qpcs qdl qdg qdh qdp qnw qps qim qisd qkp qfd qbk qal qco ln fa dr dn sd fn en at_ wr tl lw gp P gr wd g wk pos y wx v (t + nI m) rp (by first | assumption | omega) (by first | assumption | omega) (by first | assumption | omega) (by first | assumption | omega) (by first | assumption | omega) (by first | assumption | omega) (by first | assumption | omega) (by first | assumption | omega) (by first | assumption | omega) (by first | assumption | omega) hpk) ⟨Nat.le_of_ble_eq_true rfl, Nat.le_of_ble_eq_true rfl⟩ rfl rfl rfl (by decide) (wr := []) rfl (by decide) (by decide) (fun _ => rfl) (by decide) rfl rfl rfl rfl rfl (Nat.le_of_ble_eq_true rfl) (Nat.zero_le _) (Nat.zero_le _) dX10_takesBy_36 (fun u_7 w_8 => ?_)
          obtain ⟨pos2_u_7, y2_u_7, w2_u_7⟩ := u_7
          try dsimp only at w_8
          have hts := tk_step hg hb hpk hy0 hdir (by omega) hwt w_8; have hpl2 := posOk_lt hg hts.2.1
          refine J_aload_n (pc := 39) X 0 dX10_takesBy_39 rfl ?_
          refine J_get (pc := 40) X clX10 0 26 rfl (by decide) g915 rfl dX10_takesBy_40 ?_
          refine J_iload_n (pc := 43) X 2 dX10_takesBy_43 rfl ?_
          refine J_icmp_ne (pc := 44) X 50 dX10_takesBy_44 (by decide) (fun c_9 => ?_) (fun c_9 => ?_)
          · have c_9 : ¬ pos2_u_7 = b := n_ne_of (a := pos2_u_7) (b := b) (by omega) (by omega) c_9
            refine J_iinc (pc := 50) X (nI (m + 2)) 7 [(7, .int (nI (m + 2))), (0, .ref q), (1, .int (nI a)), (2, .int (nI b)), (3, .int v), (4, .int t), (5, .int rp), (6, .int (nI M))] dX10_takesBy_50 rfl (n_add (x := m + 1) (y := 1) rfl rfl (by omega)) (by decide) rfl ?_
            refine J_goto (pc := 53) X 19 dX10_takesBy_53 (by decide) ?_
            refine J_loc [1, 2, 3, 4, 5, 6, 7, 0] (lv2 := [(0, .ref q), (1, .int (nI a)), (2, .int (nI b)), (3, .int v), (4, .int t), (5, .int rp), (6, .int (nI M)), (7, .int (nI (m + 2)))]) rfl ?_
            exact ih_19  (m + 1) pos2_u_7 y2_u_7 w2_u_7 (by first | assumption | omega | simp_all) hts.2.1 hts.2.2.1 (hts.1 ▸ hts.2.2.2.2.resolve_left (by assumption)) (hts.1 ▸ hts.2.2.2.1) (by omega)
          · have c_9 : pos2_u_7 = b := n_eq_of (a := pos2_u_7) (b := b) (by omega) (by omega) c_9
            refine J_iload (pc := 47) X 7 dX10_takesBy_47 rfl ?_
            refine J_iret (pc := 49) X hr ((nI pos2_u_7), y2_u_7, w2_u_7, v) dX10_takesBy_49 ?_ rfl
            rw [‹pos2_u_7 = b›] at hts; exact tk_end (by omega) hts.2.2.2.1
    refine J_loc [1, 2, 3, 4, 5, 6, 7, 0] (lv2 := [(0, .ref q), (1, .int (nI a)), (2, .int (nI b)), (3, .int v), (4, .int t), (5, .int rp), (6, .int (nI M)), (7, .int 1)]) rfl ?_
    exact L_19 _  0 a 0 0 (by first | assumption | omega | simp_all) (Or.inl ha) (fun _ => rfl) (by simp [hO, show a < 100 from by omega]; omega) (by simp [hO, show a < 100 from by omega]) (Nat.lt_succ_self _)
  · have c_1 : a < b := n_nle_of (a := b) (b := a) (by omega) (by omega) c_1
    refine J_iconst (pc := 7) X 2 dX10_takesBy_7 (by decide) ?_
    refine J_goto (pc := 8) X 12 dX10_takesBy_8 (by decide) ?_
    refine J_iload_n (pc := 12) X 3 dX10_takesBy_12 rfl ?_
    refine J_callV (pc := 13) (As := [.int (nI a), .int 2, .int v]) (rest := []) X mtX10_setsOut g1183 [0] [1, 2] [2, 0, 1] 0 (fun u => [(q, .inr (10, [.ref qtx, .int (nI ln), .int fa, .ref qlw, .ref qgp, .ref qhm, .ref qpcs, .ref qdl, .ref qdg, .ref qdh, .ref qdp, .int dr, .int tl, .ref qnw, .ref qps, .int (nI dn), .ref qim, .ref qisd, .ref qkp, .int sd, .ref qfd, .int (nI fn), .ref qbk, .int (nI en), .int (nI at_), .int (nI wr), .int (nI a), .int 0, .int 2, .int v, .ref qal, .ref qco])), (qlw, .inl (cI, 5, .inl lw)), (qgp, .inl (cI, 8, .inl gp))]) (kX10_setsOut l G cI cC cZ q qtx qlw qgp qhm qpcs qdl qdg qdh qdp qnw qps qim qisd qkp qfd qbk qal qco ln fa dr dn sd fn en at_ wr pl yd wy pce_ tl a 2 v ) ⟨Nat.le_of_ble_eq_true rfl, Nat.le_of_ble_eq_true rfl⟩ rfl rfl rfl (by decide) (wr := [(qlw, .inl (cI, 5, .inl lw)), (qgp, .inl (cI, 8, .inl gp))]) rfl (by decide) (by decide) (fun _ => rfl) (by decide) rfl rfl rfl rfl rfl (Nat.le_of_ble_eq_true rfl) (Nat.zero_le _) (Nat.zero_le _) dX10_takesBy_13 (fun u_11 w_12 => ?_)
    try dsimp only at w_12
    refine J_iconst (pc := 16) X 1 dX10_takesBy_16 (by decide) ?_
    refine J_istore (pc := 17) X [(7, .int 1), (0, .ref q), (1, .int (nI a)), (2, .int (nI b)), (3, .int v), (4, .int t), (5, .int rp), (6, .int (nI M))] dX10_takesBy_17 (by decide) rfl ?_
    have L_19 : ∀ (n_19 : Nat) (m : Nat) (pos : Nat) (y : Int32) (wx : Int32) (hm : m ≤ M) (hpk : posOk g pos) (hy0 : pos < 100 → y = 0) (hdir : (wx = 2 ∧ hO pos wx < b) ∨ (wx = 0 ∧ b < hO pos wx)) (hwt : wT (fun k9 t9 => yG P (gp k9) gr t9) rp v t b (M - m) (hO pos wx) y m = wT (fun k9 t9 => yG P (gp k9) gr t9) rp v t b M a 0 0), (M - m) < n_19 → JJ p0 l e0 ({ frames := 4, cells := 0, slots := 0, locals := 90 }) s0 m0 ar0 be0 me0 c0 A0 G 8 0 0 (QI be0 ar0 s0 A0 G (tys3 cI cC cZ) (S := Int32 × Int32 × Int32 × Int32) (fun (r : Int32) (u : Int32 × Int32 × Int32 × Int32) => r = rT (wT (fun k9 t9 => yG P (gp k9) gr t9) rp v t b M a 0 0)) (fun (u : Int32 × Int32 × Int32 × Int32) => [(q, .inr (10, [.ref qtx, .int (nI ln), .int fa, .ref qlw, .ref qgp, .ref qhm, .ref qpcs, .ref qdl, .ref qdg, .ref qdh, .ref qdp, .int dr, .int tl, .ref qnw, .ref qps, .int (nI dn), .ref qim, .ref qisd, .ref qkp, .int sd, .ref qfd, .int (nI fn), .ref qbk, .int (nI en), .int (nI at_), .int (nI wr), .int u.1, .int u.2.1, .int u.2.2.1, .int u.2.2.2, .ref qal, .ref qco])), (qlw, .inl (cI, 5, .inl lw)), (qgp, .inl (cI, 8, .inl gp))])) [(q, .inr (10, [.ref qtx, .int (nI ln), .int fa, .ref qlw, .ref qgp, .ref qhm, .ref qpcs, .ref qdl, .ref qdg, .ref qdh, .ref qdp, .int dr, .int tl, .ref qnw, .ref qps, .int (nI dn), .ref qim, .ref qisd, .ref qkp, .int sd, .ref qfd, .int (nI fn), .ref qbk, .int (nI en), .int (nI at_), .int (nI wr), .int (nI pos), .int y, .int wx, .int v, .ref qal, .ref qco])), (qlw, .inl (cI, 5, .inl lw)), (qgp, .inl (cI, 8, .inl gp))] 19 [(0, .ref q), (1, .int (nI a)), (2, .int (nI b)), (3, .int v), (4, .int t), (5, .int rp), (6, .int (nI M)), (7, .int (nI (m + 1)))] [] := by
      intro n_19
      induction n_19 with
      | zero => intro m pos y wx hm hpk hy0 hdir hwt hm_19; exact absurd hm_19 (Nat.not_lt_zero _)
      | succ n_19 ih_19 =>
        intro m pos y wx hm hpk hy0 hdir hwt hm_19
        refine J_iload (pc := 19) X 7 dX10_takesBy_19 rfl ?_
        refine J_iload (pc := 21) X 6 dX10_takesBy_21 rfl ?_
        refine J_icmp_gt (pc := 23) X 56 dX10_takesBy_23 (by decide) (fun c_13 => ?_) (fun c_13 => ?_)
        · have c_13 : M < m + 1 := n_lt_of (a := M) (b := m + 1) (by omega) (by omega) c_13
          refine J_iconst (pc := 56) X (-1) dX10_takesBy_56 (by decide) ?_
          refine J_iret (pc := 57) X hr ((nI pos), y, wx, v) dX10_takesBy_57 ?_ rfl
          exact tk_out (by rcases hdir with h | h <;> omega) (by omega) hwt
        · have c_13 : m + 1 ≤ M := n_nlt_of (a := M) (b := m + 1) (by omega) (by omega) c_13
          refine J_aload_n (pc := 26) X 0 dX10_takesBy_26 rfl ?_
          refine J_iload (pc := 27) X 4 dX10_takesBy_27 rfl ?_
          refine J_iload (pc := 29) X 7 dX10_takesBy_29 rfl ?_
          refine J_iadd (pc := 31) X dX10_takesBy_31 ?_
          refine J_iconst (pc := 32) X 1 dX10_takesBy_32 (by decide) ?_
          refine J_isub (pc := 33) X dX10_takesBy_33 ?_
          refine J_top (y := t + nI m) (by rw [show nI (m + 1) = nI m + 1 from nI_succ m, ← Int32.add_assoc, Int32.add_sub_cancel]) ?_
          refine J_iload (pc := 34) X 5 dX10_takesBy_34 rfl ?_
          refine J_callV (pc := 36) (As := [.int (t + nI m), .int rp]) (rest := []) X mtX10_walks g1135 [0, 1, 2] [] [0, 1, 2] 0 (fun u => [(q, .inr (10, [.ref qtx, .int (nI ln), .int fa, .ref qlw, .ref qgp, .ref qhm, .ref qpcs, .ref qdl, .ref qdg, .ref qdh, .ref qdp, .int dr, .int tl, .ref qnw, .ref qps, .int (nI dn), .ref qim, .ref qisd, .ref qkp, .int sd, .ref qfd, .int (nI fn), .ref qbk, .int (nI en), .int (nI at_), .int (nI wr), .int (nI u.1), .int u.2.1, .int u.2.2, .int v, .ref qal, .ref qco])), (qlw, .inl (cI, 5, .inl lw)), (qgp, .inl (cI, 8, .inl gp))]) (kX10_walks l G cI cC cZ q qtx qlw qgp qhm qpcs qdl qdg qdh qdp qnw qps qim qisd qkp qfd qbk qal qco ln fa dr dn sd fn en at_ wr tl lw gp P gr wd g wk pos y wx v (t + nI m) rp (by first | assumption | omega) (by first | assumption | omega) (by first | assumption | omega) (by first | assumption | omega) (by first | assumption | omega) (by first | assumption | omega) (by first | assumption | omega) (by first | assumption | omega) (by first | assumption | omega) (by first | assumption | omega) hpk) ⟨Nat.le_of_ble_eq_true rfl, Nat.le_of_ble_eq_true rfl⟩ rfl rfl rfl (by decide) (wr := []) rfl (by decide) (by decide) (fun _ => rfl) (by decide) rfl rfl rfl rfl rfl (Nat.le_of_ble_eq_true rfl) (Nat.zero_le _) (Nat.zero_le _) dX10_takesBy_36 (fun u_15 w_16 => ?_)
          obtain ⟨pos2_u_15, y2_u_15, w2_u_15⟩ := u_15
          try dsimp only at w_16
          have hts := tk_step hg hb hpk hy0 hdir (by omega) hwt w_16; have hpl2 := posOk_lt hg hts.2.1
          refine J_aload_n (pc := 39) X 0 dX10_takesBy_39 rfl ?_
          refine J_get (pc := 40) X clX10 0 26 rfl (by decide) g915 rfl dX10_takesBy_40 ?_
          refine J_iload_n (pc := 43) X 2 dX10_takesBy_43 rfl ?_
          refine J_icmp_ne (pc := 44) X 50 dX10_takesBy_44 (by decide) (fun c_17 => ?_) (fun c_17 => ?_)
          · have c_17 : ¬ pos2_u_15 = b := n_ne_of (a := pos2_u_15) (b := b) (by omega) (by omega) c_17
            refine J_iinc (pc := 50) X (nI (m + 2)) 7 [(7, .int (nI (m + 2))), (0, .ref q), (1, .int (nI a)), (2, .int (nI b)), (3, .int v), (4, .int t), (5, .int rp), (6, .int (nI M))] dX10_takesBy_50 rfl (n_add (x := m + 1) (y := 1) rfl rfl (by omega)) (by decide) rfl ?_
            refine J_goto (pc := 53) X 19 dX10_takesBy_53 (by decide) ?_
            refine J_loc [1, 2, 3, 4, 5, 6, 7, 0] (lv2 := [(0, .ref q), (1, .int (nI a)), (2, .int (nI b)), (3, .int v), (4, .int t), (5, .int rp), (6, .int (nI M)), (7, .int (nI (m + 2)))]) rfl ?_
            exact ih_19  (m + 1) pos2_u_15 y2_u_15 w2_u_15 (by first | assumption | omega | simp_all) hts.2.1 hts.2.2.1 (hts.1 ▸ hts.2.2.2.2.resolve_left (by assumption)) (hts.1 ▸ hts.2.2.2.1) (by omega)
          · have c_17 : pos2_u_15 = b := n_eq_of (a := pos2_u_15) (b := b) (by omega) (by omega) c_17
            refine J_iload (pc := 47) X 7 dX10_takesBy_47 rfl ?_
            refine J_iret (pc := 49) X hr ((nI pos2_u_15), y2_u_15, w2_u_15, v) dX10_takesBy_49 ?_ rfl
            rw [‹pos2_u_15 = b›] at hts; exact tk_end (by omega) hts.2.2.2.1
    refine J_loc [1, 2, 3, 4, 5, 6, 7, 0] (lv2 := [(0, .ref q), (1, .int (nI a)), (2, .int (nI b)), (3, .int v), (4, .int t), (5, .int rp), (6, .int (nI M)), (7, .int 1)]) rfl ?_
    exact L_19 _  0 a 0 2 (by first | assumption | omega | simp_all) (Or.inl ha) (fun _ => rfl) (by simp [hO, show a < 100 from by omega]; omega) (by simp [hO, show a < 100 from by omega]) (Nat.lt_succ_self _)
