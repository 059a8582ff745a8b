set_option maxRecDepth 100000 in
set_option maxHeartbeats 600000 in
theorem kX10_takes (l : Launch) (G : va_G) (cI cC cZ : ClassId) (q : Nat) (qtx : Nat) (qlw : Nat) (qgp : Nat) (qhm : Nat) (qpcs : Nat) (qdl : Nat) (qdg : Nat) (qdh : Nat) (qdp : Nat) (qnw : Nat) (qps : Nat) (qim : Nat) (qisd : Nat) (qkp : Nat) (qfd : Nat) (qbk : Nat) (qal : Nat) (qco : Nat) (ln : Nat) (fa : Int32) (dr : Int32) (dn : Nat) (sd : Int32) (fn : Nat) (en : Nat) (at_ : Nat) (wr : Nat) (pl : Int32) (yd : Int32) (wy : Int32) (pce_ : Int32) (tl : Int32) (lw : Nat → Int32) (gp : Nat → Int32) (nw : Nat → Int32) (P : Nat) (gr : Int32) (wd : Nat) (g : Nat) (wk : Nat) (hs : Nat) (a : Int32) (b : Int32) (v : Int32) (t : Int32) (hPl : P ≤ 60) (hg : g ≤ 8) (hwk : wk ≤ 4) (hwd : wd ≤ 50) (hl0 : lw 0 = nI P) (hl1 : lw 1 = gr) (hl2 : lw 2 = nI wd) (hl3 : lw 3 = nI g) (hl4 : lw 4 = nI wk) (hP0 : 0 < g → 0 < P) (hhs : (g = 0 ∧ hs = 0) ∨ (0 < g ∧ hs = g + 1)) : CI l G (tys3 cI cC cZ) yX10_takes cX10_takes 5 (some .int) ({ frames := 5, cells := 0, slots := 0, locals := 117 }) [.ref q, .int a, .int b, .int v, .int t] [(q, .inr (10, [.ref qtx, .int (nI ln), .int fa, .ref qlw, .ref qgp, .ref qhm, .ref qpcs, .ref qdl, .ref qdg, .ref qdh, .ref qdp, .int dr, .int tl, .ref qnw, .ref qps, .int (nI dn), .ref qim, .ref qisd, .ref qkp, .int sd, .ref qfd, .int (nI fn), .ref qbk, .int (nI en), .int (nI at_), .int (nI wr), .int pl, .int yd, .int wy, .int pce_, .ref qal, .ref qco])), (qlw, .inl (cI, 5, .inl lw)), (qgp, .inl (cI, 8, .inl gp)), (qnw, .inl (cI, 14, .inl nw))] (S := Int32 × Int32 × Int32 × Int32) (fun (r : Int32) (u : Int32 × Int32 × Int32 × Int32) => r = spTakes hs (fun k9 t9 => yG P (gp k9) gr t9) (nw 1) a b v t) (fun (u : Int32 × Int32 × Int32 × Int32) => [(q, .inr (10, [.ref qtx, .int (nI ln), .int fa, .ref qlw, .ref qgp, .ref qhm, .ref qpcs, .ref qdl, .ref qdg, .ref qdh, .ref qdp, .int dr, .int tl, .ref qnw, .ref qps, .int (nI dn), .ref qim, .ref qisd, .ref qkp, .int sd, .ref qfd, .int (nI fn), .ref qbk, .int (nI en), .int (nI at_), .int (nI wr), .int u.1, .int u.2.1, .int u.2.2.1, .int u.2.2.2, .ref qal, .ref qco])), (qlw, .inl (cI, 5, .inl lw)), (qgp, .inl (cI, 8, .inl gp)), (qnw, .inl (cI, 14, .inl nw))]) := by
  refine CI.intro (by decide) (Nat.le_of_ble_eq_true rfl) ?_
  intro p0 e0 s0 m0 ar0 be0 me0 c0 A0 X hr
  refine J_aload_n (pc := 0) X 0 dX10_takes_0 rfl ?_
  refine J_iload_n (pc := 1) X 1 dX10_takes_1 rfl ?_
  refine J_iload_n (pc := 2) X 2 dX10_takes_2 rfl ?_
  refine J_callR (pc := 3) (As := [.int a, .int b]) (rest := []) X mtX10_areHouses g1171 [0, 1] 0 (kX10_areHouses l G cI cC cZ q qtx qlw qgp qhm qpcs qdl qdg qdh qdp qnw qps qim qisd qkp qfd qbk qal qco ln fa dr dn sd fn en at_ wr pl yd wy pce_ tl lw P gr wd g wk hs a b (by first | assumption | omega) (by first | assumption | omega) (by first | assumption | omega) (by first | assumption | omega) (by first | assumption | omega) (by first | assumption | omega) (by first | assumption | omega) (by first | assumption | omega) (by first | assumption | omega) (by first | assumption | omega)) ⟨Nat.le_of_ble_eq_true rfl, Nat.le_of_ble_eq_true rfl⟩ rfl rfl rfl (by decide) rfl rfl rfl rfl rfl (Nat.le_of_ble_eq_true rfl) (Nat.zero_le _) (Nat.zero_le _) dX10_takes_3 (fun r_1 u_2 w_3 => ?_)
  try dsimp only at w_3
  subst w_3
  refine J_bif_ne (pc := 6) X 12 dX10_takes_6 (by decide) (fun c_4 => ?_) (fun c_4 => ?_)
  · skip
    have htwo := c_4
    obtain ⟨hta, htb, hnab⟩ := c_4
    obtain ⟨an, han, rfl⟩ := inB_ex (by omega) hta
    obtain ⟨bn, hbn, rfl⟩ := inB_ex (by omega) htb
    have hne : ¬ an = bn := fun e9 => hnab (congrArg nI e9)
    have ca := nI_clamp (n := an) (by omega)
    have cb := nI_clamp (n := bn) (by omega)
    refine J_iload_n (pc := 12) X 3 dX10_takes_12 rfl ?_
    refine J_iconst (pc := 13) X 1 dX10_takes_13 (by decide) ?_
    refine J_bipush (pc := 14) X 40 dX10_takes_14 (by decide) ?_
    refine J_callS (pc := 16) (As := [.int v, .int 1, .int 40]) (rest := []) X mtX10_in g990 [] (kX10_in l G cI cC cZ v 1 40 ) ⟨Nat.le_of_ble_eq_true rfl, Nat.le_of_ble_eq_true rfl⟩ rfl rfl rfl (by decide) rfl rfl (Nat.le_of_ble_eq_true rfl) (Nat.zero_le _) (Nat.zero_le _) dX10_takes_16 (fun r_5 u_6 w_7 => ?_)
    try dsimp only at w_7
    subst w_7
    refine J_bif_eq (pc := 19) X 33 dX10_takes_19 (by decide) (fun c_8 => ?_) (fun c_8 => ?_)
    · skip
      refine J_ldc (pc := 33) X g993 dX10_takes_33 ?_
      refine J_iret (pc := 35) X hr (pl, yd, wy, pce_) dX10_takes_35 ?_ rfl
      rw [spTakes, if_pos htwo, ca, cb]
      first | exact (if_neg (fun z => absurd z.1 (by assumption))).symm | exact (if_neg (fun z => absurd z.2 (by assumption))).symm | exact (if_neg (fun z => absurd z.2.1 (by assumption))).symm | exact (if_neg (fun z => absurd z.2.2 (by assumption))).symm
    · skip
      refine J_iload (pc := 22) X 4 dX10_takes_22 rfl ?_
      refine J_iconst (pc := 24) X 0 dX10_takes_24 (by decide) ?_
      refine J_bipush (pc := 25) X 119 dX10_takes_25 (by decide) ?_
      refine J_callS (pc := 27) (As := [.int t, .int 0, .int 119]) (rest := []) X mtX10_in g990 [] (kX10_in l G cI cC cZ t 0 119 ) ⟨Nat.le_of_ble_eq_true rfl, Nat.le_of_ble_eq_true rfl⟩ rfl rfl rfl (by decide) rfl rfl (Nat.le_of_ble_eq_true rfl) (Nat.zero_le _) (Nat.zero_le _) dX10_takes_27 (fun r_9 u_10 w_11 => ?_)
      try dsimp only at w_11
      subst w_11
      refine J_bif_ne (pc := 30) X 36 dX10_takes_30 (by decide) (fun c_12 => ?_) (fun c_12 => ?_)
      · skip
        refine J_aload_n (pc := 36) X 0 dX10_takes_36 rfl ?_
        refine J_iload_n (pc := 37) X 1 dX10_takes_37 rfl ?_
        refine J_iload_n (pc := 38) X 2 dX10_takes_38 rfl ?_
        refine J_iload_n (pc := 39) X 3 dX10_takes_39 rfl ?_
        refine J_iload (pc := 40) X 4 dX10_takes_40 rfl ?_
        refine J_aload_n (pc := 42) X 0 dX10_takes_42 rfl ?_
        refine J_get (pc := 43) X clX10 0 13 rfl (by decide) g902 rfl dX10_takes_43 ?_
        refine J_iconst (pc := 46) X 1 dX10_takes_46 (by decide) ?_
        refine J_iald (pc := 47) X 3 0 1 rfl rfl rfl (by decide) (by decide) dX10_takes_47 ?_
        refine J_sipush (pc := 48) X 300 dX10_takes_48 (by decide) ?_
        refine J_callI (pc := 51) (As := [.int (nI an), .int (nI bn), .int v, .int t, .int (nw 1), .int 300]) (rest := []) X mtX10_takesBy g1179 [0, 1, 2] [3] [1, 2, 3, 0] 0 (fun u => [(q, .inr (10, [.ref qtx, .int (nI ln), .int fa, .ref qlw, .ref qgp, .ref qhm, .ref qpcs, .ref qdl, .ref qdg, .ref qdh, .ref qdp, .int dr, .int tl, .ref qnw, .ref qps, .int (nI dn), .ref qim, .ref qisd, .ref qkp, .int sd, .ref qfd, .int (nI fn), .ref qbk, .int (nI en), .int (nI at_), .int (nI wr), .int u.1, .int u.2.1, .int u.2.2.1, .int u.2.2.2, .ref qal, .ref qco])), (qlw, .inl (cI, 5, .inl lw)), (qgp, .inl (cI, 8, .inl gp)), (qnw, .inl (cI, 14, .inl nw))]) (kX10_takesBy l G cI cC cZ q qtx qlw qgp qhm qpcs qdl qdg qdh qdp qnw qps qim qisd qkp qfd qbk qal qco ln fa dr dn sd fn en at_ wr pl yd wy pce_ tl lw gp P gr wd g wk an bn v t (nw 1) 300 (by first | assumption | omega) (by first | assumption | omega) (by first | assumption | omega) (by first | assumption | omega) (by first | assumption | omega) (by first | assumption | omega) (by first | assumption | omega) (by first | assumption | omega) (by first | assumption | omega) (by first | assumption | omega) (by first | assumption | omega) (by first | assumption | omega) hne (by first | assumption | omega)) ⟨Nat.le_of_ble_eq_true rfl, Nat.le_of_ble_eq_true rfl⟩ rfl rfl rfl (by decide) (wr := [(qnw, .inl (cI, 14, .inl nw))]) rfl (by decide) (by decide) (fun _ => rfl) (by decide) rfl rfl rfl rfl rfl (Nat.le_of_ble_eq_true rfl) (Nat.zero_le _) (Nat.zero_le _) dX10_takes_51 (fun r_13 u_14 w_15 => ?_)
        obtain ⟨plx_u_14, ydx_u_14, wyx_u_14, pcx_u_14⟩ := u_14
        try dsimp only at w_15
        try dsimp only at w_15
        subst w_15
        refine J_iret (pc := 54) X hr (plx_u_14, ydx_u_14, wyx_u_14, pcx_u_14) dX10_takes_54 ?_ rfl
        rw [spTakes, if_pos htwo, ca, cb]
        rw [if_pos ⟨by assumption, by assumption⟩]
      · skip
        refine J_ldc (pc := 33) X g993 dX10_takes_33 ?_
        refine J_iret (pc := 35) X hr (pl, yd, wy, pce_) dX10_takes_35 ?_ rfl
        rw [spTakes, if_pos htwo, ca, cb]
        first | exact (if_neg (fun z => absurd z.1 (by assumption))).symm | exact (if_neg (fun z => absurd z.2 (by assumption))).symm | exact (if_neg (fun z => absurd z.2.1 (by assumption))).symm | exact (if_neg (fun z => absurd z.2.2 (by assumption))).symm
  · skip
    refine J_ldc (pc := 9) X g1066 dX10_takes_9 ?_
    refine J_iret (pc := 11) X hr (pl, yd, wy, pce_) dX10_takes_11 ?_ rfl
    exact (if_neg (by assumption)).symm
set_option maxRecDepth 100000 in
set_option maxHeartbeats 600000 in
theorem kX10_setOut (l : Launch) (G : va_G) (cI cC cZ : ClassId) (q : Nat) (qtx : Nat) (qlw : Nat) (qgp : Nat) (qhm : Nat) (qpcs : Nat) (qdl : Nat) (qdg : Nat) (qdh : Nat) (qdp : Nat) (qnw : Nat) (qps : Nat) (qim : Nat) (qisd : Nat) (qkp : Nat) (qfd : Nat) (qbk : Nat) (qal : Nat) (qco : Nat) (ln : Nat) (fa : Int32) (dr : Int32) (dn : Nat) (sd : Int32) (fn : Nat) (en : Nat) (at_ : Nat) (wr : Nat) (pl : Int32) (yd : Int32) (wy : Int32) (pce_ : Int32) (tl : Int32) (lw : Nat → Int32) (gp : Nat → Int32) (nw : Nat → Int32) (P : Nat) (gr : Int32) (wd : Nat) (g : Nat) (wk : Nat) (hs : Nat) (a : Int32) (b : Int32) (v : Int32) (uu : Int32) (what : Int32) (hPl : P ≤ 60) (hg : g ≤ 8) (hwk : wk ≤ 4) (hwd : wd ≤ 50) (hl0 : lw 0 = nI P) (hl1 : lw 1 = gr) (hl2 : lw 2 = nI wd) (hl3 : lw 3 = nI g) (hl4 : lw 4 = nI wk) (hP0 : 0 < g → 0 < P) (hhs : (g = 0 ∧ hs = 0) ∨ (0 < g ∧ hs = g + 1)) : CI l G (tys3 cI cC cZ) yX10_setOut cX10_setOut 11 (some .int) ({ frames := 5, cells := 0, slots := 0, locals := 117 }) [.ref q, .int a, .int b, .int v, .int uu, .int what] [(q, .inr (10, [.ref qtx, .int (nI ln), .int fa, .ref qlw, .ref qgp, .ref qhm, .ref qpcs, .ref qdl, .ref qdg, .ref qdh, .ref qdp, .int dr, .int tl, .ref qnw, .ref qps, .int (nI dn), .ref qim, .ref qisd, .ref qkp, .int sd, .ref qfd, .int (nI fn), .ref qbk, .int (nI en), .int (nI at_), .int (nI wr), .int pl, .int yd, .int wy, .int pce_, .ref qal, .ref qco])), (qlw, .inl (cI, 5, .inl lw)), (qgp, .inl (cI, 8, .inl gp)), (qnw, .inl (cI, 14, .inl nw))] (S := Int32 × Int32 × Int32 × Int32) (fun (r : Int32) (u : Int32 × Int32 × Int32 × Int32) => r = spSetOut hs (fun k9 t9 => yG P (gp k9) gr t9) (nw 1) a b v uu what) (fun (u : Int32 × Int32 × Int32 × Int32) => [(q, .inr (10, [.ref qtx, .int (nI ln), .int fa, .ref qlw, .ref qgp, .ref qhm, .ref qpcs, .ref qdl, .ref qdg, .ref qdh, .ref qdp, .int dr, .int tl, .ref qnw, .ref qps, .int (nI dn), .ref qim, .ref qisd, .ref qkp, .int sd, .ref qfd, .int (nI fn), .ref qbk, .int (nI en), .int (nI at_), .int (nI wr), .int u.1, .int u.2.1, .int u.2.2.1, .int u.2.2.2, .ref qal, .ref qco])), (qlw, .inl (cI, 5, .inl lw)), (qgp, .inl (cI, 8, .inl gp)), (qnw, .inl (cI, 14, .inl nw))]) := by
  refine CI.intro (by decide) (Nat.le_of_ble_eq_true rfl) ?_
  intro p0 e0 s0 m0 ar0 be0 me0 c0 A0 X hr
  refine J_aload_n (pc := 0) X 0 dX10_setOut_0 rfl ?_
  refine J_iload_n (pc := 1) X 1 dX10_setOut_1 rfl ?_
  refine J_iload_n (pc := 2) X 2 dX10_setOut_2 rfl ?_
  refine J_callR (pc := 3) (As := [.int a, .int b]) (rest := []) X mtX10_areHouses g1171 [0, 1] 0 (kX10_areHouses l G cI cC cZ q qtx qlw qgp qhm qpcs qdl qdg qdh qdp qnw qps qim qisd qkp qfd qbk qal qco ln fa dr dn sd fn en at_ wr pl yd wy pce_ tl lw P gr wd g wk hs a b (by first | assumption | omega) (by first | assumption | omega) (by first | assumption | omega) (by first | assumption | omega) (by first | assumption | omega) (by first | assumption | omega) (by first | assumption | omega) (by first | assumption | omega) (by first | assumption | omega) (by first | assumption | omega)) ⟨Nat.le_of_ble_eq_true rfl, Nat.le_of_ble_eq_true rfl⟩ rfl rfl rfl (by decide) rfl rfl rfl rfl rfl (Nat.le_of_ble_eq_true rfl) (Nat.zero_le _) (Nat.zero_le _) dX10_setOut_3 (fun r_1 u_2 w_3 => ?_)
  try dsimp only at w_3
  subst w_3
  refine J_bif_ne (pc := 6) X 12 dX10_setOut_6 (by decide) (fun c_4 => ?_) (fun c_4 => ?_)
  · skip
    have htwo := c_4
    obtain ⟨hta, htb, hnab⟩ := c_4
    obtain ⟨an, han, rfl⟩ := inB_ex (by omega) hta
    obtain ⟨bn, hbn, rfl⟩ := inB_ex (by omega) htb
    have hne : ¬ an = bn := fun e9 => hnab (congrArg nI e9)
    have ca := nI_clamp (n := an) (by omega)
    have cb := nI_clamp (n := bn) (by omega)
    refine J_iload_n (pc := 12) X 3 dX10_setOut_12 rfl ?_
    refine J_iconst (pc := 13) X 1 dX10_setOut_13 (by decide) ?_
    refine J_bipush (pc := 14) X 40 dX10_setOut_14 (by decide) ?_
    refine J_callS (pc := 16) (As := [.int v, .int 1, .int 40]) (rest := []) X mtX10_in g990 [] (kX10_in l G cI cC cZ v 1 40 ) ⟨Nat.le_of_ble_eq_true rfl, Nat.le_of_ble_eq_true rfl⟩ rfl rfl rfl (by decide) rfl rfl (Nat.le_of_ble_eq_true rfl) (Nat.zero_le _) (Nat.zero_le _) dX10_setOut_16 (fun r_5 u_6 w_7 => ?_)
    try dsimp only at w_7
    subst w_7
    refine J_bif_eq (pc := 19) X 43 dX10_setOut_19 (by decide) (fun c_8 => ?_) (fun c_8 => ?_)
    · skip
      refine J_ldc (pc := 43) X g993 dX10_setOut_43 ?_
      refine J_iret (pc := 45) X hr (pl, yd, wy, pce_) dX10_setOut_45 ?_ rfl
      rw [spSetOut, if_pos htwo, ca, cb]
      first | exact (if_neg (fun z => absurd z.1 (by assumption))).symm | exact (if_neg (fun z => absurd z.2 (by assumption))).symm | exact (if_neg (fun z => absurd z.2.1 (by assumption))).symm | exact (if_neg (fun z => absurd z.2.2 (by assumption))).symm
    · skip
      refine J_iload (pc := 22) X 4 dX10_setOut_22 rfl ?_
      refine J_iconst (pc := 24) X 0 dX10_setOut_24 (by decide) ?_
      refine J_bipush (pc := 25) X 119 dX10_setOut_25 (by decide) ?_
      refine J_callS (pc := 27) (As := [.int uu, .int 0, .int 119]) (rest := []) X mtX10_in g990 [] (kX10_in l G cI cC cZ uu 0 119 ) ⟨Nat.le_of_ble_eq_true rfl, Nat.le_of_ble_eq_true rfl⟩ rfl rfl rfl (by decide) rfl rfl (Nat.le_of_ble_eq_true rfl) (Nat.zero_le _) (Nat.zero_le _) dX10_setOut_27 (fun r_9 u_10 w_11 => ?_)
      try dsimp only at w_11
      subst w_11
      refine J_bif_eq (pc := 30) X 43 dX10_setOut_30 (by decide) (fun c_12 => ?_) (fun c_12 => ?_)
      · skip
        refine J_ldc (pc := 43) X g993 dX10_setOut_43 ?_
        refine J_iret (pc := 45) X hr (pl, yd, wy, pce_) dX10_setOut_45 ?_ rfl
        rw [spSetOut, if_pos htwo, ca, cb]
        first | exact (if_neg (fun z => absurd z.1 (by assumption))).symm | exact (if_neg (fun z => absurd z.2 (by assumption))).symm | exact (if_neg (fun z => absurd z.2.1 (by assumption))).symm | exact (if_neg (fun z => absurd z.2.2 (by assumption))).symm
      · skip
        refine J_iload (pc := 33) X 5 dX10_setOut_33 rfl ?_
        refine J_iconst (pc := 35) X 0 dX10_setOut_35 (by decide) ?_
        refine J_iconst (pc := 36) X 2 dX10_setOut_36 (by decide) ?_
        refine J_callS (pc := 37) (As := [.int what, .int 0, .int 2]) (rest := []) X mtX10_in g990 [] (kX10_in l G cI cC cZ what 0 2 ) ⟨Nat.le_of_ble_eq_true rfl, Nat.le_of_ble_eq_true rfl⟩ rfl rfl rfl (by decide) rfl rfl (Nat.le_of_ble_eq_true rfl) (Nat.zero_le _) (Nat.zero_le _) dX10_setOut_37 (fun r_13 u_14 w_15 => ?_)
        try dsimp only at w_15
        subst w_15
        refine J_bif_ne (pc := 40) X 46 dX10_setOut_40 (by decide) (fun c_16 => ?_) (fun c_16 => ?_)
        · skip
          have hwu := c_12
          obtain ⟨un, hun1, hun2, rfl⟩ := wIn_ex 0 119 (by decide) (by decide) c_12
          have cu := nI_clamp (n := un) (by omega)
          refine J_iconst (pc := 46) X (-1) dX10_setOut_46 (by decide) ?_
          refine J_istore (pc := 47) X [(6, .int (-1)), (0, .ref q), (1, .int (nI an)), (2, .int (nI bn)), (3, .int v), (4, .int (nI un)), (5, .int what)] dX10_setOut_47 (by decide) rfl ?_
          refine J_iconst (pc := 49) X (-1) dX10_setOut_49 (by decide) ?_
          refine J_istore (pc := 50) X [(7, .int (-1)), (6, .int (-1)), (0, .ref q), (1, .int (nI an)), (2, .int (nI bn)), (3, .int v), (4, .int (nI un)), (5, .int what)] dX10_setOut_50 (by decide) rfl ?_
          refine J_iconst (pc := 52) X 0 dX10_setOut_52 (by decide) ?_
          refine J_istore (pc := 53) X [(8, .int 0), (7, .int (-1)), (6, .int (-1)), (0, .ref q), (1, .int (nI an)), (2, .int (nI bn)), (3, .int v), (4, .int (nI un)), (5, .int what)] dX10_setOut_53 (by decide) rfl ?_
          refine J_iconst (pc := 55) X 0 dX10_setOut_55 (by decide) ?_
          refine J_istore (pc := 56) X [(9, .int 0), (8, .int 0), (7, .int (-1)), (6, .int (-1)), (0, .ref q), (1, .int (nI an)), (2, .int (nI bn)), (3, .int v), (4, .int (nI un)), (5, .int what)] dX10_setOut_56 (by decide) rfl ?_
          have L_58 : ∀ (n_58 : Nat) (i : Nat) (fs_ : Int32) (ls_ : Int32) (n : Nat) (plx : Int32) (ydx : Int32) (wyx : Int32) (pcx : Int32) (hi : i ≤ un + 1) (hn : n ≤ i) (hsp : (fs_, ls_, n) = spn (soQ (fun k9 t9 => yG P (gp k9) gr t9) (nw 1) v an bn un) i), (un + 1 - i) < n_58 → JJ p0 l e0 ({ frames := 5, cells := 0, slots := 0, locals := 117 }) s0 m0 ar0 be0 me0 c0 A0 G 11 0 0 (QI be0 ar0 s0 A0 G (tys3 cI cC cZ) (S := Int32 × Int32 × Int32 × Int32) (fun (r : Int32) (u : Int32 × Int32 × Int32 × Int32) => r = spSetOut hs (fun k9 t9 => yG P (gp k9) gr t9) (nw 1) (nI an) (nI bn) v (nI un) what) (fun (u : Int32 × Int32 × Int32 × Int32) => [(q, .inr (10, [.ref qtx, .int (nI ln), .int fa, .ref qlw, .ref qgp, .ref qhm, .ref qpcs, .ref qdl, .ref qdg, .ref qdh, .ref qdp, .int dr, .int tl, .ref qnw, .ref qps, .int (nI dn), .ref qim, .ref qisd, .ref qkp, .int sd, .ref qfd, .int (nI fn), .ref qbk, .int (nI en), .int (nI at_), .int (nI wr), .int u.1, .int u.2.1, .int u.2.2.1, .int u.2.2.2, .ref qal, .ref qco])), (qlw, .inl (cI, 5, .inl lw)), (qgp, .inl (cI, 8, .inl gp)), (qnw, .inl (cI, 14, .inl nw))])) [(q, .inr (10, [.ref qtx, .int (nI ln), .int fa, .ref qlw, .ref qgp, .ref qhm, .ref qpcs, .ref qdl, .ref qdg, .ref qdh, .ref qdp, .int dr, .int tl, .ref qnw, .ref qps, .int (nI dn), .ref qim, .ref qisd, .ref qkp, .int sd, .ref qfd, .int (nI fn), .ref qbk, .int (nI en), .int (nI at_), .int (nI wr), .int plx, .int ydx, .int wyx, .int pcx, .ref qal, .ref qco])), (qlw, .inl (cI, 5, .inl lw)), (qgp, .inl (cI, 8, .inl gp)), (qnw, .inl (cI, 14, .inl nw))] 58 [(0, .ref q), (1, .int (nI an)), (2, .int (nI bn)), (3, .int v), (4, .int (nI un)), (5, .int what), (6, .int fs_), (7, .int ls_), (8, .int (nI n)), (9, .int (nI i))] [] := by
            intro n_58
            induction n_58 with
            | zero => intro i fs_ ls_ n plx ydx wyx pcx hi hn hsp hm_58; exact absurd hm_58 (Nat.not_lt_zero _)
            | succ n_58 ih_58 =>
              intro i fs_ ls_ n plx ydx wyx pcx hi hn hsp hm_58
              refine J_iload (pc := 58) X 9 dX10_setOut_58 rfl ?_
              refine J_iload (pc := 60) X 4 dX10_setOut_60 rfl ?_
              refine J_icmp_gt (pc := 62) X 128 dX10_setOut_62 (by decide) (fun c_17 => ?_) (fun c_17 => ?_)
              · have c_17 : un < i := n_lt_of (a := un) (b := i) (by omega) (by omega) c_17
                refine J_iload (pc := 128) X 5 dX10_setOut_128 rfl ?_
                refine J_if_ne (pc := 130) X 138 dX10_setOut_130 (by decide) (fun c_18 => ?_) (fun c_18 => ?_)
                · skip
                  refine J_iload (pc := 138) X 5 dX10_setOut_138 rfl ?_
                  refine J_iconst (pc := 140) X 1 dX10_setOut_140 (by decide) ?_
                  refine J_icmp_ne (pc := 141) X 149 dX10_setOut_141 (by decide) (fun c_19 => ?_) (fun c_19 => ?_)
                  · skip
                    refine J_iload (pc := 149) X 8 dX10_setOut_149 rfl ?_
                    refine J_iret (pc := 151) X hr (plx, ydx, wyx, pcx) dX10_setOut_151 ?_ rfl
                    rw [spSetOut, if_pos htwo, ca, cb]
                    rw [if_pos ⟨by assumption, hwu, by assumption⟩, cu, show un + 1 = i from by omega, ← hsp]
                    simp [pick3, c_8, c_16, c_17, c_18, c_19]
                  · skip
                    refine J_iload (pc := 144) X 7 dX10_setOut_144 rfl ?_
                    refine J_goto (pc := 146) X 151 dX10_setOut_146 (by decide) ?_
                    refine J_iret (pc := 151) X hr (plx, ydx, wyx, pcx) dX10_setOut_151 ?_ rfl
                    rw [spSetOut, if_pos htwo, ca, cb]
                    rw [if_pos ⟨by assumption, hwu, by assumption⟩, cu, show un + 1 = i from by omega, ← hsp]
                    simp [pick3, c_8, c_16, c_17, c_18, c_19]
                · skip
                  refine J_iload (pc := 133) X 6 dX10_setOut_133 rfl ?_
                  refine J_goto (pc := 135) X 151 dX10_setOut_135 (by decide) ?_
                  refine J_iret (pc := 151) X hr (plx, ydx, wyx, pcx) dX10_setOut_151 ?_ rfl
                  rw [spSetOut, if_pos htwo, ca, cb]
                  rw [if_pos ⟨by assumption, hwu, by assumption⟩, cu, show un + 1 = i from by omega, ← hsp]
                  simp [pick3, c_8, c_16, c_17, c_18]
              · have c_17 : i ≤ un := n_nlt_of (a := un) (b := i) (by omega) (by omega) c_17
                refine J_aload_n (pc := 65) X 0 dX10_setOut_65 rfl ?_
                refine J_iload_n (pc := 66) X 1 dX10_setOut_66 rfl ?_
                refine J_iload_n (pc := 67) X 2 dX10_setOut_67 rfl ?_
                refine J_iload_n (pc := 68) X 3 dX10_setOut_68 rfl ?_
                refine J_iload (pc := 69) X 9 dX10_setOut_69 rfl ?_
                refine J_aload_n (pc := 71) X 0 dX10_setOut_71 rfl ?_
                refine J_get (pc := 72) X clX10 0 13 rfl (by decide) g902 rfl dX10_setOut_72 ?_
                refine J_iconst (pc := 75) X 1 dX10_setOut_75 (by decide) ?_
                refine J_iald (pc := 76) X 3 0 1 rfl rfl rfl (by decide) (by decide) dX10_setOut_76 ?_
                refine J_sipush (pc := 77) X 300 dX10_setOut_77 (by decide) ?_
                refine J_callI (pc := 80) (As := [.int (nI an), .int (nI bn), .int v, .int (nI i), .int (nw 1), .int 300]) (rest := []) X mtX10_takesBy g1179 [0, 1, 2] [3] [1, 2, 3, 0] 0 (fun u => [(q, .inr (10, [.ref qtx, .int (nI ln), .int fa, .ref qlw, .ref qgp, .ref qhm, .ref qpcs, .ref qdl, .ref qdg, .ref qdh, .ref qdp, .int dr, .int tl, .ref qnw, .ref qps, .int (nI dn), .ref qim, .ref qisd, .ref qkp, .int sd, .ref qfd, .int (nI fn), .ref qbk, .int (nI en), .int (nI at_), .int (nI wr), .int u.1, .int u.2.1, .int u.2.2.1, .int u.2.2.2, .ref qal, .ref qco])), (qlw, .inl (cI, 5, .inl lw)), (qgp, .inl (cI, 8, .inl gp)), (qnw, .inl (cI, 14, .inl nw))]) (kX10_takesBy l G cI cC cZ q qtx qlw qgp qhm qpcs qdl qdg qdh qdp qnw qps qim qisd qkp qfd qbk qal qco ln fa dr dn sd fn en at_ wr plx ydx wyx pcx tl lw gp P gr wd g wk an bn v (nI i) (nw 1) 300 (by first | assumption | omega) (by first | assumption | omega) (by first | assumption | omega) (by first | assumption | omega) (by first | assumption | omega) (by first | assumption | omega) (by first | assumption | omega) (by first | assumption | omega) (by first | assumption | omega) (by first | assumption | omega) (by first | assumption | omega) (by first | assumption | omega) hne (by first | assumption | omega)) ⟨Nat.le_of_ble_eq_true rfl, Nat.le_of_ble_eq_true rfl⟩ rfl rfl rfl (by decide) (wr := [(qnw, .inl (cI, 14, .inl nw))]) rfl (by decide) (by decide) (fun _ => rfl) (by decide) rfl rfl rfl rfl rfl (Nat.le_of_ble_eq_true rfl) (Nat.zero_le _) (Nat.zero_le _) dX10_setOut_80 (fun r_20 u_21 w_22 => ?_)
                obtain ⟨plx_u_21, ydx_u_21, wyx_u_21, pcx_u_21⟩ := u_21
                try dsimp only at w_22
                try dsimp only at w_22
                subst w_22
                refine J_istore (pc := 83) X [(10, .int (rT (wT (fun k9 t9 => yG P (gp k9) gr t9) (nw 1) v (nI i) bn 300 an 0 0))), (0, .ref q), (1, .int (nI an)), (2, .int (nI bn)), (3, .int v), (4, .int (nI un)), (5, .int what), (6, .int fs_), (7, .int ls_), (8, .int (nI n)), (9, .int (nI i))] dX10_setOut_83 (by decide) rfl ?_
                refine J_iload (pc := 85) X 0 dX10_setOut_85 rfl ?_
                refine J_iconst (pc := 87) X (-1) dX10_setOut_87 (by decide) ?_
                refine J_icmp_eq (pc := 88) X 122 dX10_setOut_88 (by decide) (fun c_23 => ?_) (fun c_23 => ?_)
                · skip
                  refine J_iinc (pc := 122) X (nI (i + 1)) 10 [(9, .int (nI (i + 1))), (10, .int (rT (wT (fun k9 t9 => yG P (gp k9) gr t9) (nw 1) v (nI i) bn 300 an 0 0))), (0, .ref q), (1, .int (nI an)), (2, .int (nI bn)), (3, .int v), (4, .int (nI un)), (5, .int what), (6, .int fs_), (7, .int ls_), (8, .int (nI n))] dX10_setOut_122 rfl (n_add (x := i) (y := 1) rfl rfl (by omega)) (by decide) rfl ?_
                  refine J_goto (pc := 125) X 58 dX10_setOut_125 (by decide) ?_
                  refine J_loc [2, 3, 4, 5, 6, 7, 8, 9, 10, 0] (lv2 := [(0, .ref q), (1, .int (nI an)), (2, .int (nI bn)), (3, .int v), (4, .int (nI un)), (5, .int what), (6, .int fs_), (7, .int ls_), (8, .int (nI n)), (9, .int (nI (i + 1)))]) rfl ?_
                  exact ih_58  (i + 1) fs_ ls_ n plx_u_21 ydx_u_21 wyx_u_21 pcx_u_21 (by first | assumption | omega | simp_all) (by first | assumption | omega | simp_all) (by first | exact spn_out hsp (fun z => absurd (by assumption) z.1) | exact spn_out hsp (fun z => absurd (by assumption) z.2) | exact (by have z := spn_in hsp ⟨by assumption, by assumption⟩; rw [if_pos (by assumption)] at z; exact z) | exact (by have z := spn_in hsp ⟨by assumption, by assumption⟩; rw [if_neg (by assumption)] at z; exact z)) (by omega)
                · skip
                  refine J_iload (pc := 91) X 10 dX10_setOut_91 rfl ?_
                  refine J_iload (pc := 93) X 0 dX10_setOut_93 rfl ?_
                  refine J_iadd (pc := 95) X dX10_setOut_95 ?_
                  refine J_iload (pc := 96) X 5 dX10_setOut_96 rfl ?_
                  refine J_icmp_gt (pc := 98) X 122 dX10_setOut_98 (by decide) (fun c_24 => ?_) (fun c_24 => ?_)
                  · skip
                    refine J_iinc (pc := 122) X (nI (i + 1)) 10 [(9, .int (nI (i + 1))), (10, .int (rT (wT (fun k9 t9 => yG P (gp k9) gr t9) (nw 1) v (nI i) bn 300 an 0 0))), (0, .ref q), (1, .int (nI an)), (2, .int (nI bn)), (3, .int v), (4, .int (nI un)), (5, .int what), (6, .int fs_), (7, .int ls_), (8, .int (nI n))] dX10_setOut_122 rfl (n_add (x := i) (y := 1) rfl rfl (by omega)) (by decide) rfl ?_
                    refine J_goto (pc := 125) X 58 dX10_setOut_125 (by decide) ?_
                    refine J_loc [2, 3, 4, 5, 6, 7, 8, 9, 10, 0] (lv2 := [(0, .ref q), (1, .int (nI an)), (2, .int (nI bn)), (3, .int v), (4, .int (nI un)), (5, .int what), (6, .int fs_), (7, .int ls_), (8, .int (nI n)), (9, .int (nI (i + 1)))]) rfl ?_
                    exact ih_58  (i + 1) fs_ ls_ n plx_u_21 ydx_u_21 wyx_u_21 pcx_u_21 (by first | assumption | omega | simp_all) (by first | assumption | omega | simp_all) (by first | exact spn_out hsp (fun z => absurd (by assumption) z.1) | exact spn_out hsp (fun z => absurd (by assumption) z.2) | exact (by have z := spn_in hsp ⟨by assumption, by assumption⟩; rw [if_pos (by assumption)] at z; exact z) | exact (by have z := spn_in hsp ⟨by assumption, by assumption⟩; rw [if_neg (by assumption)] at z; exact z)) (by omega)
                  · skip
                    refine J_iload (pc := 101) X 9 dX10_setOut_101 rfl ?_
                    refine J_if_ne (pc := 103) X 111 dX10_setOut_103 (by decide) (fun c_25 => ?_) (fun c_25 => ?_)
                    · have c_25 : ¬ n = 0 := n_ne_of (a := n) (b := 0) (by omega) (by omega) c_25
                      refine J_iload (pc := 111) X 7 dX10_setOut_111 rfl ?_
                      refine J_istore (pc := 113) X [(6, .int fs_), (10, .int (rT (wT (fun k9 t9 => yG P (gp k9) gr t9) (nw 1) v (nI i) bn 300 an 0 0))), (0, .ref q), (1, .int (nI an)), (2, .int (nI bn)), (3, .int v), (4, .int (nI un)), (5, .int what), (7, .int ls_), (8, .int (nI n)), (9, .int (nI i))] dX10_setOut_113 (by decide) rfl ?_
                      refine J_iload (pc := 115) X 10 dX10_setOut_115 rfl ?_
                      refine J_istore (pc := 117) X [(7, .int (nI i)), (6, .int fs_), (10, .int (rT (wT (fun k9 t9 => yG P (gp k9) gr t9) (nw 1) v (nI i) bn 300 an 0 0))), (0, .ref q), (1, .int (nI an)), (2, .int (nI bn)), (3, .int v), (4, .int (nI un)), (5, .int what), (8, .int (nI n)), (9, .int (nI i))] dX10_setOut_117 (by decide) rfl ?_
                      refine J_iinc (pc := 119) X (nI (n + 1)) 9 [(8, .int (nI (n + 1))), (7, .int (nI i)), (6, .int fs_), (10, .int (rT (wT (fun k9 t9 => yG P (gp k9) gr t9) (nw 1) v (nI i) bn 300 an 0 0))), (0, .ref q), (1, .int (nI an)), (2, .int (nI bn)), (3, .int v), (4, .int (nI un)), (5, .int what), (9, .int (nI i))] dX10_setOut_119 rfl (n_add (x := n) (y := 1) rfl rfl (by omega)) (by decide) rfl ?_
                      refine J_iinc (pc := 122) X (nI (i + 1)) 10 [(9, .int (nI (i + 1))), (8, .int (nI (n + 1))), (7, .int (nI i)), (6, .int fs_), (10, .int (rT (wT (fun k9 t9 => yG P (gp k9) gr t9) (nw 1) v (nI i) bn 300 an 0 0))), (0, .ref q), (1, .int (nI an)), (2, .int (nI bn)), (3, .int v), (4, .int (nI un)), (5, .int what)] dX10_setOut_122 rfl (n_add (x := i) (y := 1) rfl rfl (by omega)) (by decide) rfl ?_
                      refine J_goto (pc := 125) X 58 dX10_setOut_125 (by decide) ?_
                      refine J_loc [5, 6, 7, 8, 9, 10, 3, 2, 1, 0] (lv2 := [(0, .ref q), (1, .int (nI an)), (2, .int (nI bn)), (3, .int v), (4, .int (nI un)), (5, .int what), (6, .int fs_), (7, .int (nI i)), (8, .int (nI (n + 1))), (9, .int (nI (i + 1)))]) rfl ?_
                      exact ih_58  (i + 1) fs_ (nI i) (n + 1) plx_u_21 ydx_u_21 wyx_u_21 pcx_u_21 (by first | assumption | omega | simp_all) (by first | assumption | omega | simp_all) (by first | exact spn_out hsp (fun z => absurd (by assumption) z.1) | exact spn_out hsp (fun z => absurd (by assumption) z.2) | exact (by have z := spn_in hsp ⟨by assumption, by assumption⟩; rw [if_pos (by assumption)] at z; exact z) | exact (by have z := spn_in hsp ⟨by assumption, by assumption⟩; rw [if_neg (by assumption)] at z; exact z)) (by omega)
                    · have c_25 : n = 0 := n_eq_of (a := n) (b := 0) (by omega) (by omega) c_25
                      refine J_iload (pc := 106) X 10 dX10_setOut_106 rfl ?_
                      refine J_goto (pc := 108) X 113 dX10_setOut_108 (by decide) ?_
                      refine J_istore (pc := 113) X [(6, .int (nI i)), (10, .int (rT (wT (fun k9 t9 => yG P (gp k9) gr t9) (nw 1) v (nI i) bn 300 an 0 0))), (0, .ref q), (1, .int (nI an)), (2, .int (nI bn)), (3, .int v), (4, .int (nI un)), (5, .int what), (7, .int ls_), (8, .int (nI n)), (9, .int (nI i))] dX10_setOut_113 (by decide) rfl ?_
                      refine J_iload (pc := 115) X 10 dX10_setOut_115 rfl ?_
                      refine J_istore (pc := 117) X [(7, .int (nI i)), (6, .int (nI i)), (10, .int (rT (wT (fun k9 t9 => yG P (gp k9) gr t9) (nw 1) v (nI i) bn 300 an 0 0))), (0, .ref q), (1, .int (nI an)), (2, .int (nI bn)), (3, .int v), (4, .int (nI un)), (5, .int what), (8, .int (nI n)), (9, .int (nI i))] dX10_setOut_117 (by decide) rfl ?_
                      refine J_iinc (pc := 119) X (nI (n + 1)) 9 [(8, .int (nI (n + 1))), (7, .int (nI i)), (6, .int (nI i)), (10, .int (rT (wT (fun k9 t9 => yG P (gp k9) gr t9) (nw 1) v (nI i) bn 300 an 0 0))), (0, .ref q), (1, .int (nI an)), (2, .int (nI bn)), (3, .int v), (4, .int (nI un)), (5, .int what), (9, .int (nI i))] dX10_setOut_119 rfl (n_add (x := n) (y := 1) rfl rfl (by omega)) (by decide) rfl ?_
                      refine J_iinc (pc := 122) X (nI (i + 1)) 10 [(9, .int (nI (i + 1))), (8, .int (nI (n + 1))), (7, .int (nI i)), (6, .int (nI i)), (10, .int (rT (wT (fun k9 t9 => yG P (gp k9) gr t9) (nw 1) v (nI i) bn 300 an 0 0))), (0, .ref q), (1, .int (nI an)), (2, .int (nI bn)), (3, .int v), (4, .int (nI un)), (5, .int what)] dX10_setOut_122 rfl (n_add (x := i) (y := 1) rfl rfl (by omega)) (by decide) rfl ?_
                      refine J_goto (pc := 125) X 58 dX10_setOut_125 (by decide) ?_
                      refine J_loc [5, 6, 7, 8, 9, 10, 3, 2, 1, 0] (lv2 := [(0, .ref q), (1, .int (nI an)), (2, .int (nI bn)), (3, .int v), (4, .int (nI un)), (5, .int what), (6, .int (nI i)), (7, .int (nI i)), (8, .int (nI (n + 1))), (9, .int (nI (i + 1)))]) rfl ?_
                      exact ih_58  (i + 1) (nI i) (nI i) (n + 1) plx_u_21 ydx_u_21 wyx_u_21 pcx_u_21 (by first | assumption | omega | simp_all) (by first | assumption | omega | simp_all) (by first | exact spn_out hsp (fun z => absurd (by assumption) z.1) | exact spn_out hsp (fun z => absurd (by assumption) z.2) | exact (by have z := spn_in hsp ⟨by assumption, by assumption⟩; rw [if_pos (by assumption)] at z; exact z) | exact (by have z := spn_in hsp ⟨by assumption, by assumption⟩; rw [if_neg (by assumption)] at z; exact z)) (by omega)
          refine J_loc [4, 5, 6, 7, 8, 9, 3, 2, 1, 0] (lv2 := [(0, .ref q), (1, .int (nI an)), (2, .int (nI bn)), (3, .int v), (4, .int (nI un)), (5, .int what), (6, .int (-1)), (7, .int (-1)), (8, .int 0), (9, .int 0)]) rfl ?_
          exact L_58 _  0 (-1) (-1) 0 pl yd wy pce_ (by first | assumption | omega | simp_all) (by first | assumption | omega | simp_all) rfl (Nat.lt_succ_self _)
        · skip
          refine J_ldc (pc := 43) X g993 dX10_setOut_43 ?_
          refine J_iret (pc := 45) X hr (pl, yd, wy, pce_) dX10_setOut_45 ?_ rfl
          rw [spSetOut, if_pos htwo, ca, cb]
          first | exact (if_neg (fun z => absurd z.1 (by assumption))).symm | exact (if_neg (fun z => absurd z.2 (by assumption))).symm | exact (if_neg (fun z => absurd z.2.1 (by assumption))).symm | exact (if_neg (fun z => absurd z.2.2 (by assumption))).symm
  · skip
    refine J_ldc (pc := 9) X g1066 dX10_setOut_9 ?_
    refine J_iret (pc := 11) X hr (pl, yd, wy, pce_) dX10_setOut_11 ?_ rfl
    exact (if_neg (by assumption)).symm
