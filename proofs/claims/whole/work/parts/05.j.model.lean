set_option maxRecDepth 100000 in
set_option maxHeartbeats 600000 in
theorem kX10_go (l : Launch) (G : va_G) (cI cC cZ : ClassId) (q : Nat) (qtx : Nat) (qlw : Nat) (qgp : Nat) (qhm : Nat) (qpcs : Nat) (qdl : Nat) (qdg : Nat) (qdh : Nat) (qdp : Nat) (qnw : Nat) (qps : Nat) (qim : Nat) (qisd : Nat) (qkp : Nat) (qfd : Nat) (qbk : Nat) (qal : Nat) (qco : Nat) (ln : Nat) (fa : Int32) (dr : Int32) (dn : Nat) (sd : Int32) (fn : Nat) (en : Nat) (at_ : Nat) (wr : Nat) (pl : Int32) (yd : Int32) (wy : Int32) (pce_ : Int32) (tl : Int32) (lw : Nat → Int32) (gp : Nat → Int32) (pcs : Nat → Int32) (nw : Nat → Int32) (ps : Nat → Int32) (P : Nat) (gr : Int32) (wd : Nat) (g : Nat) (wk : Nat) (w : Int32) (wayx : Int32) (hPl : P ≤ 60) (hg : g ≤ 8) (hwk : wk ≤ 4) (hwd : wd ≤ 50) (hl0 : lw 0 = nI P) (hl1 : lw 1 = gr) (hl2 : lw 2 = nI wd) (hl3 : lw 3 = nI g) (hl4 : lw 4 = nI wk) (hP0 : 0 < g → 0 < P) (hok : okS g wk nw) (hdn : dn ≤ 30) : CI l G (tys3 cI cC cZ) yX10_go cX10_go 6 (some .int) ({ frames := 5, cells := 0, slots := 0, locals := 113 }) [.ref q, .int w, .int wayx] [(q, .inr (10, [.ref qtx, .int (nI ln), .int fa, .ref qlw, .ref qgp, .ref qhm, .ref qpcs, .ref qdl, .ref qdg, .ref qdh, .ref qdp, .int dr, .int tl, .ref qnw, .ref qps, .int (nI dn), .ref qim, .ref qisd, .ref qkp, .int sd, .ref qfd, .int (nI fn), .ref qbk, .int (nI en), .int (nI at_), .int (nI wr), .int pl, .int yd, .int wy, .int pce_, .ref qal, .ref qco])), (qlw, .inl (cI, 5, .inl lw)), (qgp, .inl (cI, 8, .inl gp)), (qpcs, .inl (cI, 4, .inl pcs)), (qnw, .inl (cI, 14, .inl nw)), (qps, .inl (cI, 420, .inl ps))] (S := (Nat → Int32) × Nat × (Nat → Int32) × Int32 × Int32 × Int32 × Int32) (fun (r : Int32) (u : (Nat → Int32) × Nat × (Nat → Int32) × Int32 × Int32 × Int32 × Int32) => r = (if goR wk nw w wayx = 0 then whN (fun k9 t9 => yG P (gp k9) gr t9) u.1 w.toNatClampNeg else goR wk nw w wayx) ∧ (goR wk nw w wayx = 0 → u.1 = goN (fun k9 t9 => yG P (gp k9) gr t9) nw w.toNatClampNeg wayx ∧ u.2.2.1 = pushF dn nw ps ∧ ((dn < 30 ∧ u.2.1 = dn + 1) ∨ (dn = 30 ∧ u.2.1 = 30))) ∧ (¬ goR wk nw w wayx = 0 → u.1 = nw ∧ u.2.2.1 = ps ∧ u.2.1 = dn)) (fun (u : (Nat → Int32) × Nat × (Nat → Int32) × Int32 × Int32 × Int32 × Int32) => [(q, .inr (10, [.ref qtx, .int (nI ln), .int fa, .ref qlw, .ref qgp, .ref qhm, .ref qpcs, .ref qdl, .ref qdg, .ref qdh, .ref qdp, .int dr, .int tl, .ref qnw, .ref qps, .int (nI u.2.1), .ref qim, .ref qisd, .ref qkp, .int sd, .ref qfd, .int (nI fn), .ref qbk, .int (nI en), .int (nI at_), .int (nI wr), .int u.2.2.2.1, .int u.2.2.2.2.1, .int u.2.2.2.2.2.1, .int u.2.2.2.2.2.2, .ref qal, .ref qco])), (qlw, .inl (cI, 5, .inl lw)), (qgp, .inl (cI, 8, .inl gp)), (qpcs, .inl (cI, 4, .inl pcs)), (qnw, .inl (cI, 14, .inl u.1)), (qps, .inl (cI, 420, .inl u.2.2.1))]) := by
  refine CI.intro (by decide) (Nat.le_of_ble_eq_true rfl) ?_
  intro p0 e0 s0 m0 ar0 be0 me0 c0 A0 X hr
  refine J_aload_n (pc := 0) X 0 dX10_go_0 rfl ?_
  refine J_iload_n (pc := 1) X 1 dX10_go_1 rfl ?_
  refine J_callR (pc := 2) (As := [.int w]) (rest := []) X mtX10_isWalker g1086 [0, 1] 0 (kX10_isWalker l G cI cC cZ q qtx qlw qgp qhm qpcs qdl qdg qdh qdp qnw qps qim qisd qkp qfd qbk qal qco ln fa dr dn sd fn en at_ wr pl yd wy pce_ tl lw P gr wd g wk w (by first | assumption | omega) (by first | assumption | omega) (by first | assumption | omega) (by first | assumption | omega) (by first | assumption | omega) (by first | assumption | omega) (by first | assumption | omega) (by first | assumption | omega) (by first | assumption | omega)) ⟨Nat.le_of_ble_eq_true rfl, Nat.le_of_ble_eq_true rfl⟩ rfl rfl rfl (by decide) rfl rfl rfl rfl rfl (Nat.le_of_ble_eq_true rfl) (Nat.zero_le _) (Nat.zero_le _) dX10_go_2 (fun r_1 u_2 w_3 => ?_)
  try dsimp only at w_3
  subst w_3
  refine J_bif_ne (pc := 5) X 11 dX10_go_5 (by decide) (fun c_4 => ?_) (fun c_4 => ?_)
  · skip
    obtain ⟨wn, hwn, rfl⟩ := inB_ex (by omega) c_4
    have hin9 := (inB_nI (n := wk) (j := wn) (by omega)).mpr hwn
    obtain ⟨pos, hpos, hpk⟩ := hok wn hwn
    have hpl := posOk_lt hg hpk
    have hpf := posF_of hpos hpl
    have hpo : pos ≤ g ∨ (100 ≤ pos ∧ pos < 100 + g) := hpk
    refine J_iload_n (pc := 11) X 2 dX10_go_11 rfl ?_
    refine J_iconst (pc := 12) X 0 dX10_go_12 (by decide) ?_
    refine J_iconst (pc := 13) X 2 dX10_go_13 (by decide) ?_
    refine J_callS (pc := 14) (As := [.int wayx, .int 0, .int 2]) (rest := []) X mtX10_in g990 [] (kX10_in l G cI cC cZ wayx 0 2 ) ⟨Nat.le_of_ble_eq_true rfl, Nat.le_of_ble_eq_true rfl⟩ rfl rfl rfl (by decide) rfl rfl (Nat.le_of_ble_eq_true rfl) (Nat.zero_le _) (Nat.zero_le _) dX10_go_14 (fun r_5 u_6 w_7 => ?_)
    try dsimp only at w_7
    subst w_7
    refine J_bif_ne (pc := 17) X 23 dX10_go_17 (by decide) (fun c_8 => ?_) (fun c_8 => ?_)
    · skip
      refine J_iconst (pc := 23) X 2 dX10_go_23 (by decide) ?_
      refine J_iconst (pc := 24) X 3 dX10_go_24 (by decide) ?_
      refine J_iload_n (pc := 25) X 1 dX10_go_25 rfl ?_
      refine J_imul (pc := 26) X dX10_go_26 ?_
      refine J_top (y := nI (3 * wn)) (n_mul (x := 3) (y := wn) rfl rfl (by omega)) ?_
      refine J_iadd (pc := 27) X dX10_go_27 ?_
      refine J_top (y := nI (3 * wn + 2)) (n_add (x := 2) (y := 3 * wn) rfl rfl (by omega)) ?_
      refine J_istore_n (pc := 28) X [(3, .int (nI (3 * wn + 2))), (0, .ref q), (1, .int (nI wn)), (2, .int wayx)] dX10_go_28 (by decide) rfl ?_
      refine J_aload_n (pc := 29) X 1 dX10_go_29 rfl ?_
      refine J_get (pc := 30) X clX10 0 13 rfl (by decide) g902 rfl dX10_go_30 ?_
      refine J_iload_n (pc := 33) X 0 dX10_go_33 rfl ?_
      refine J_iald (pc := 34) X 4 0 (3 * wn + 2) rfl rfl rfl (by omega) (by decide) dX10_go_34 ?_
      refine J_top (y := nI pos) hpos ?_
      refine J_bipush (pc := 35) X 100 dX10_go_35 (by decide) ?_
      refine J_icmp_lt (pc := 37) X 44 dX10_go_37 (by decide) (fun c_9 => ?_) (fun c_9 => ?_)
      · have c_9 : pos < 100 := n_lt_of (a := pos) (b := 100) (by omega) (by omega) c_9
        refine J_iconst (pc := 44) X 0 dX10_go_44 (by decide) ?_
        refine J_istore (pc := 45) X [(4, .int 0), (3, .int (nI (3 * wn + 2))), (0, .ref q), (1, .int (nI wn)), (2, .int wayx)] dX10_go_45 (by decide) rfl ?_
        refine J_iload (pc := 47) X 0 dX10_go_47 rfl ?_
        refine J_if_eq (pc := 49) X 60 dX10_go_49 (by decide) (fun c_10 => ?_) (fun c_10 => ?_)
        · have c_10 : 0 = 0 := n_eq_of (a := 0) (b := 0) (by omega) (by omega) c_10
          refine J_aload_n (pc := 60) X 2 dX10_go_60 rfl ?_
          refine J_callV (pc := 61) (As := []) (rest := []) X mtX10_notes g1107 [0, 4, 5] [1, 2, 3] [3, 0, 1, 2, 4, 5] 0 (fun u => [(q, .inr (10, [.ref qtx, .int (nI ln), .int fa, .ref qlw, .ref qgp, .ref qhm, .ref qpcs, .ref qdl, .ref qdg, .ref qdh, .ref qdp, .int dr, .int tl, .ref qnw, .ref qps, .int (nI u.1), .ref qim, .ref qisd, .ref qkp, .int sd, .ref qfd, .int (nI fn), .ref qbk, .int (nI en), .int (nI at_), .int (nI wr), .int pl, .int yd, .int wy, .int pce_, .ref qal, .ref qco])), (qlw, .inl (cI, 5, .inl lw)), (qgp, .inl (cI, 8, .inl gp)), (qpcs, .inl (cI, 4, .inl pcs)), (qnw, .inl (cI, 14, .inl nw)), (qps, .inl (cI, 420, .inl u.2))]) (kX10_notes l G cI cC cZ q qtx qlw qgp qhm qpcs qdl qdg qdh qdp qnw qps qim qisd qkp qfd qbk qal qco ln fa dr dn sd fn en at_ wr pl yd wy pce_ tl nw ps (by first | assumption | omega)) ⟨Nat.le_of_ble_eq_true rfl, Nat.le_of_ble_eq_true rfl⟩ rfl rfl rfl (by decide) (wr := [(qlw, .inl (cI, 5, .inl lw)), (qgp, .inl (cI, 8, .inl gp)), (qpcs, .inl (cI, 4, .inl pcs))]) rfl (by decide) (by decide) (fun _ => rfl) (by decide) rfl rfl rfl rfl rfl (Nat.le_of_ble_eq_true rfl) (Nat.zero_le _) (Nat.zero_le _) dX10_go_61 (fun u_12 w_13 => ?_)
          obtain ⟨dn2_u_12, ps2_u_12⟩ := u_12
          try dsimp only at w_13
          obtain ⟨hp1, hp2⟩ := w_13; subst hp1
          refine J_iload (pc := 64) X 0 dX10_go_64 rfl ?_
          refine J_if_eq (pc := 66) X 130 dX10_go_66 (by decide) (fun c_14 => ?_) (fun c_14 => ?_)
          · have c_14 : 0 = 0 := n_eq_of (a := 0) (b := 0) (by omega) (by omega) c_14
            refine J_aload_n (pc := 130) X 2 dX10_go_130 rfl ?_
            refine J_get (pc := 131) X clX10 0 13 rfl (by decide) g902 rfl dX10_go_131 ?_
            refine J_iload_n (pc := 134) X 1 dX10_go_134 rfl ?_
            refine J_iconst (pc := 135) X 2 dX10_go_135 (by decide) ?_
            refine J_iadd (pc := 136) X dX10_go_136 ?_
            refine J_top (y := nI (3 * wn + 4)) (n_add (x := 3 * wn + 2) (y := 2) rfl rfl (by omega)) ?_
            refine J_iload_n (pc := 137) X 4 dX10_go_137 rfl ?_
            refine J_iast (pc := 138) X 4 0 (3 * wn + 4) [(q, .inr (10, [.ref qtx, .int (nI ln), .int fa, .ref qlw, .ref qgp, .ref qhm, .ref qpcs, .ref qdl, .ref qdg, .ref qdh, .ref qdp, .int dr, .int tl, .ref qnw, .ref qps, .int (nI dn2_u_12), .ref qim, .ref qisd, .ref qkp, .int sd, .ref qfd, .int (nI fn), .ref qbk, .int (nI en), .int (nI at_), .int (nI wr), .int pl, .int yd, .int wy, .int pce_, .ref qal, .ref qco])), (qlw, .inl (cI, 5, .inl lw)), (qgp, .inl (cI, 8, .inl gp)), (qpcs, .inl (cI, 4, .inl pcs)), (qnw, .inl (cI, 14, .inl (upd nw (3 * wn + 4) wayx))), (qps, .inl (cI, 420, .inl (pushF dn nw ps)))] rfl rfl rfl (by omega) (by decide) rfl dX10_go_138 ?_
            refine J_aload_n (pc := 139) X 2 dX10_go_139 rfl ?_
            refine J_iload_n (pc := 140) X 3 dX10_go_140 rfl ?_
            refine J_callI (pc := 141) (As := [.int (nI wn)]) (rest := []) X mtX10_whereIs g1090 [0, 1, 2, 4, 3] [5] [1, 2, 3, 5, 4, 0] 0 (fun u => [(q, .inr (10, [.ref qtx, .int (nI ln), .int fa, .ref qlw, .ref qgp, .ref qhm, .ref qpcs, .ref qdl, .ref qdg, .ref qdh, .ref qdp, .int dr, .int tl, .ref qnw, .ref qps, .int (nI dn2_u_12), .ref qim, .ref qisd, .ref qkp, .int sd, .ref qfd, .int (nI fn), .ref qbk, .int (nI en), .int (nI at_), .int (nI wr), .int (nI pos), .int ((upd nw (3 * wn + 4) wayx) (3 * wn + 3)), .int ((upd nw (3 * wn + 4) wayx) (3 * wn + 4)), .int (pcs wn), .ref qal, .ref qco])), (qlw, .inl (cI, 5, .inl lw)), (qgp, .inl (cI, 8, .inl gp)), (qpcs, .inl (cI, 4, .inl pcs)), (qnw, .inl (cI, 14, .inl (upd nw (3 * wn + 4) wayx))), (qps, .inl (cI, 420, .inl (pushF dn nw ps)))]) (kX10_whereIs l G cI cC cZ q qtx qlw qgp qhm qpcs qdl qdg qdh qdp qnw qps qim qisd qkp qfd qbk qal qco ln fa dr dn2_u_12 sd fn en at_ wr pl yd wy pce_ tl lw gp (upd nw (3 * wn + 4) wayx) pcs P gr wd g wk wn pos (by first | assumption | omega) (by first | assumption | omega) (by first | assumption | omega) (by first | assumption | omega) (by first | assumption | omega) (by first | assumption | omega) (by first | assumption | omega) (by first | assumption | omega) (by first | assumption | omega) (by first | assumption | omega) (by first | assumption | omega) (by first | (rw [upd_n (by omega)]; exact hpos) | (rw [upd_n (by omega), upd_n (by omega)]; exact hpos)) hpk) ⟨Nat.le_of_ble_eq_true rfl, Nat.le_of_ble_eq_true rfl⟩ rfl rfl rfl (by decide) (wr := [(qps, .inl (cI, 420, .inl (pushF dn nw ps)))]) rfl (by decide) (by decide) (fun _ => rfl) (by decide) rfl rfl rfl rfl rfl (Nat.le_of_ble_eq_true rfl) (Nat.zero_le _) (Nat.zero_le _) dX10_go_141 (fun r_15 u_16 w_17 => ?_)
            try dsimp only at w_17
            try dsimp only at w_17
            subst w_17
            refine J_iret (pc := 144) X hr ((upd nw (3 * wn + 4) wayx), dn2_u_12, (pushF dn nw ps), (nI pos), ((upd nw (3 * wn + 4) wayx) (3 * wn + 3)), ((upd nw (3 * wn + 4) wayx) (3 * wn + 4)), (pcs wn)) dX10_go_144 ?_ rfl
            have hz : goR wk nw (nI wn) wayx = 0 := goR_0 hin9 (by omega) (by assumption) hpf (fun ⟨z1, z2⟩ => by first | omega | exact absurd z2 (by assumption))
            have hp9 : (upd nw (3 * wn + 4) wayx) (3 * wn + 2) = nI pos := by first | (rw [upd_n (by omega)]; exact hpos) | (rw [upd_n (by omega), upd_n (by omega)]; exact hpos)
            rw [hz, if_pos rfl, nI_clamp (by omega)]
            refine ⟨?_, fun _ => ⟨?_, rfl, hp2⟩, fun h => absurd rfl h⟩
            · rw [whN, posF_of hp9 hpl]
            · exact goN_a hpf (fun ⟨z1, z2⟩ => by first | omega | exact absurd (by assumption) z2)
          · have c_14 : ¬ 0 = 0 := n_ne_of (a := 0) (b := 0) (by omega) (by omega) c_14
            exfalso; omega
        · have c_10 : ¬ 0 = 0 := n_ne_of (a := 0) (b := 0) (by omega) (by omega) c_10
          exfalso; omega
      · have c_9 : 100 ≤ pos := n_nlt_of (a := pos) (b := 100) (by omega) (by omega) c_9
        refine J_iconst (pc := 40) X 1 dX10_go_40 (by decide) ?_
        refine J_goto (pc := 41) X 45 dX10_go_41 (by decide) ?_
        refine J_istore (pc := 45) X [(4, .int 1), (3, .int (nI (3 * wn + 2))), (0, .ref q), (1, .int (nI wn)), (2, .int wayx)] dX10_go_45 (by decide) rfl ?_
        refine J_iload (pc := 47) X 0 dX10_go_47 rfl ?_
        refine J_if_eq (pc := 49) X 60 dX10_go_49 (by decide) (fun c_18 => ?_) (fun c_18 => ?_)
        · have c_18 : 1 = 0 := n_eq_of (a := 1) (b := 0) (by omega) (by omega) c_18
          exfalso; omega
        · have c_18 : ¬ 1 = 0 := n_ne_of (a := 1) (b := 0) (by omega) (by omega) c_18
          refine J_iload_n (pc := 52) X 4 dX10_go_52 rfl ?_
          refine J_iconst (pc := 53) X 1 dX10_go_53 (by decide) ?_
          refine J_icmp_ne (pc := 54) X 60 dX10_go_54 (by decide) (fun c_19 => ?_) (fun c_19 => ?_)
          · skip
            refine J_aload_n (pc := 60) X 2 dX10_go_60 rfl ?_
            refine J_callV (pc := 61) (As := []) (rest := []) X mtX10_notes g1107 [0, 4, 5] [1, 2, 3] [3, 0, 1, 2, 4, 5] 0 (fun u => [(q, .inr (10, [.ref qtx, .int (nI ln), .int fa, .ref qlw, .ref qgp, .ref qhm, .ref qpcs, .ref qdl, .ref qdg, .ref qdh, .ref qdp, .int dr, .int tl, .ref qnw, .ref qps, .int (nI u.1), .ref qim, .ref qisd, .ref qkp, .int sd, .ref qfd, .int (nI fn), .ref qbk, .int (nI en), .int (nI at_), .int (nI wr), .int pl, .int yd, .int wy, .int pce_, .ref qal, .ref qco])), (qlw, .inl (cI, 5, .inl lw)), (qgp, .inl (cI, 8, .inl gp)), (qpcs, .inl (cI, 4, .inl pcs)), (qnw, .inl (cI, 14, .inl nw)), (qps, .inl (cI, 420, .inl u.2))]) (kX10_notes l G cI cC cZ q qtx qlw qgp qhm qpcs qdl qdg qdh qdp qnw qps qim qisd qkp qfd qbk qal qco ln fa dr dn sd fn en at_ wr pl yd wy pce_ tl nw ps (by first | assumption | omega)) ⟨Nat.le_of_ble_eq_true rfl, Nat.le_of_ble_eq_true rfl⟩ rfl rfl rfl (by decide) (wr := [(qlw, .inl (cI, 5, .inl lw)), (qgp, .inl (cI, 8, .inl gp)), (qpcs, .inl (cI, 4, .inl pcs))]) rfl (by decide) (by decide) (fun _ => rfl) (by decide) rfl rfl rfl rfl rfl (Nat.le_of_ble_eq_true rfl) (Nat.zero_le _) (Nat.zero_le _) dX10_go_61 (fun u_21 w_22 => ?_)
            obtain ⟨dn2_u_21, ps2_u_21⟩ := u_21
            try dsimp only at w_22
            obtain ⟨hp1, hp2⟩ := w_22; subst hp1
            refine J_iload (pc := 64) X 0 dX10_go_64 rfl ?_
            refine J_if_eq (pc := 66) X 130 dX10_go_66 (by decide) (fun c_23 => ?_) (fun c_23 => ?_)
            · have c_23 : 1 = 0 := n_eq_of (a := 1) (b := 0) (by omega) (by omega) c_23
              exfalso; omega
            · have c_23 : ¬ 1 = 0 := n_ne_of (a := 1) (b := 0) (by omega) (by omega) c_23
              refine J_aload_n (pc := 69) X 2 dX10_go_69 rfl ?_
              refine J_get (pc := 70) X clX10 0 13 rfl (by decide) g902 rfl dX10_go_70 ?_
              refine J_iload_n (pc := 73) X 1 dX10_go_73 rfl ?_
              refine J_iconst (pc := 74) X 2 dX10_go_74 (by decide) ?_
              refine J_iadd (pc := 75) X dX10_go_75 ?_
              refine J_top (y := nI (3 * wn + 4)) (n_add (x := 3 * wn + 2) (y := 2) rfl rfl (by omega)) ?_
              refine J_iald (pc := 76) X 4 0 (3 * wn + 4) rfl rfl rfl (by omega) (by decide) dX10_go_76 ?_
              refine J_iload_n (pc := 77) X 4 dX10_go_77 rfl ?_
              refine J_icmp_eq (pc := 78) X 130 dX10_go_78 (by decide) (fun c_24 => ?_) (fun c_24 => ?_)
              · skip
                refine J_aload_n (pc := 130) X 2 dX10_go_130 rfl ?_
                refine J_get (pc := 131) X clX10 0 13 rfl (by decide) g902 rfl dX10_go_131 ?_
                refine J_iload_n (pc := 134) X 1 dX10_go_134 rfl ?_
                refine J_iconst (pc := 135) X 2 dX10_go_135 (by decide) ?_
                refine J_iadd (pc := 136) X dX10_go_136 ?_
                refine J_top (y := nI (3 * wn + 4)) (n_add (x := 3 * wn + 2) (y := 2) rfl rfl (by omega)) ?_
                refine J_iload_n (pc := 137) X 4 dX10_go_137 rfl ?_
                refine J_iast (pc := 138) X 4 0 (3 * wn + 4) [(q, .inr (10, [.ref qtx, .int (nI ln), .int fa, .ref qlw, .ref qgp, .ref qhm, .ref qpcs, .ref qdl, .ref qdg, .ref qdh, .ref qdp, .int dr, .int tl, .ref qnw, .ref qps, .int (nI dn2_u_21), .ref qim, .ref qisd, .ref qkp, .int sd, .ref qfd, .int (nI fn), .ref qbk, .int (nI en), .int (nI at_), .int (nI wr), .int pl, .int yd, .int wy, .int pce_, .ref qal, .ref qco])), (qlw, .inl (cI, 5, .inl lw)), (qgp, .inl (cI, 8, .inl gp)), (qpcs, .inl (cI, 4, .inl pcs)), (qnw, .inl (cI, 14, .inl (upd nw (3 * wn + 4) wayx))), (qps, .inl (cI, 420, .inl (pushF dn nw ps)))] rfl rfl rfl (by omega) (by decide) rfl dX10_go_138 ?_
                refine J_aload_n (pc := 139) X 2 dX10_go_139 rfl ?_
                refine J_iload_n (pc := 140) X 3 dX10_go_140 rfl ?_
                refine J_callI (pc := 141) (As := [.int (nI wn)]) (rest := []) X mtX10_whereIs g1090 [0, 1, 2, 4, 3] [5] [1, 2, 3, 5, 4, 0] 0 (fun u => [(q, .inr (10, [.ref qtx, .int (nI ln), .int fa, .ref qlw, .ref qgp, .ref qhm, .ref qpcs, .ref qdl, .ref qdg, .ref qdh, .ref qdp, .int dr, .int tl, .ref qnw, .ref qps, .int (nI dn2_u_21), .ref qim, .ref qisd, .ref qkp, .int sd, .ref qfd, .int (nI fn), .ref qbk, .int (nI en), .int (nI at_), .int (nI wr), .int (nI pos), .int ((upd nw (3 * wn + 4) wayx) (3 * wn + 3)), .int ((upd nw (3 * wn + 4) wayx) (3 * wn + 4)), .int (pcs wn), .ref qal, .ref qco])), (qlw, .inl (cI, 5, .inl lw)), (qgp, .inl (cI, 8, .inl gp)), (qpcs, .inl (cI, 4, .inl pcs)), (qnw, .inl (cI, 14, .inl (upd nw (3 * wn + 4) wayx))), (qps, .inl (cI, 420, .inl (pushF dn nw ps)))]) (kX10_whereIs l G cI cC cZ q qtx qlw qgp qhm qpcs qdl qdg qdh qdp qnw qps qim qisd qkp qfd qbk qal qco ln fa dr dn2_u_21 sd fn en at_ wr pl yd wy pce_ tl lw gp (upd nw (3 * wn + 4) wayx) pcs P gr wd g wk wn pos (by first | assumption | omega) (by first | assumption | omega) (by first | assumption | omega) (by first | assumption | omega) (by first | assumption | omega) (by first | assumption | omega) (by first | assumption | omega) (by first | assumption | omega) (by first | assumption | omega) (by first | assumption | omega) (by first | assumption | omega) (by first | (rw [upd_n (by omega)]; exact hpos) | (rw [upd_n (by omega), upd_n (by omega)]; exact hpos)) hpk) ⟨Nat.le_of_ble_eq_true rfl, Nat.le_of_ble_eq_true rfl⟩ rfl rfl rfl (by decide) (wr := [(qps, .inl (cI, 420, .inl (pushF dn nw ps)))]) rfl (by decide) (by decide) (fun _ => rfl) (by decide) rfl rfl rfl rfl rfl (Nat.le_of_ble_eq_true rfl) (Nat.zero_le _) (Nat.zero_le _) dX10_go_141 (fun r_25 u_26 w_27 => ?_)
                try dsimp only at w_27
                try dsimp only at w_27
                subst w_27
                refine J_iret (pc := 144) X hr ((upd nw (3 * wn + 4) wayx), dn2_u_21, (pushF dn nw ps), (nI pos), ((upd nw (3 * wn + 4) wayx) (3 * wn + 3)), ((upd nw (3 * wn + 4) wayx) (3 * wn + 4)), (pcs wn)) dX10_go_144 ?_ rfl
                have hz : goR wk nw (nI wn) wayx = 0 := goR_0 hin9 (by omega) (by assumption) hpf (fun ⟨z1, z2⟩ => by first | omega | exact absurd z2 (by assumption))
                have hp9 : (upd nw (3 * wn + 4) wayx) (3 * wn + 2) = nI pos := by first | (rw [upd_n (by omega)]; exact hpos) | (rw [upd_n (by omega), upd_n (by omega)]; exact hpos)
                rw [hz, if_pos rfl, nI_clamp (by omega)]
                refine ⟨?_, fun _ => ⟨?_, rfl, hp2⟩, fun h => absurd rfl h⟩
                · rw [whN, posF_of hp9 hpl]
                · exact goN_a hpf (fun ⟨z1, z2⟩ => by first | omega | exact absurd (by assumption) z2)
              · skip
                refine J_aload_n (pc := 81) X 2 dX10_go_81 rfl ?_
                refine J_aload_n (pc := 82) X 2 dX10_go_82 rfl ?_
                refine J_get (pc := 83) X clX10 0 13 rfl (by decide) g902 rfl dX10_go_83 ?_
                refine J_iload_n (pc := 86) X 1 dX10_go_86 rfl ?_
                refine J_iald (pc := 87) X 4 0 (3 * wn + 2) rfl rfl rfl (by omega) (by decide) dX10_go_87 ?_
                refine J_top (y := nI pos) hpos ?_
                refine J_bipush (pc := 88) X 100 dX10_go_88 (by decide) ?_
                refine J_isub (pc := 90) X dX10_go_90 ?_
                refine J_top (y := nI (pos - 100)) (n_sub (x := pos) (y := 100) rfl rfl (by omega) (by omega)) ?_
                refine J_aload_n (pc := 91) X 2 dX10_go_91 rfl ?_
                refine J_get (pc := 92) X clX10 0 13 rfl (by decide) g902 rfl dX10_go_92 ?_
                refine J_iconst (pc := 95) X 0 dX10_go_95 (by decide) ?_
                refine J_iald (pc := 96) X 4 0 0 rfl rfl rfl (by decide) (by decide) dX10_go_96 ?_
                refine J_callR (pc := 97) (As := [.int (nI (pos - 100)), .int (nw 0)]) (rest := []) X mtX10_yardsOf g1067 [0, 1, 2] 0 (kX10_yardsOf l G cI cC cZ q qtx qlw qgp qhm qpcs qdl qdg qdh qdp qnw qps qim qisd qkp qfd qbk qal qco ln fa dr dn2_u_21 sd fn en at_ wr pl yd wy pce_ tl lw gp P gr wd g wk (pos - 100) (nw 0) (by first | assumption | omega) (by first | assumption | omega) (by first | assumption | omega) (by first | assumption | omega) (by first | assumption | omega) (by first | assumption | omega) (by first | assumption | omega) (by first | assumption | omega) (by first | assumption | omega) (by first | assumption | omega) (by first | assumption | omega)) ⟨Nat.le_of_ble_eq_true rfl, Nat.le_of_ble_eq_true rfl⟩ rfl rfl rfl (by decide) rfl rfl rfl rfl rfl (Nat.le_of_ble_eq_true rfl) (Nat.zero_le _) (Nat.zero_le _) dX10_go_97 (fun r_28 u_29 w_30 => ?_)
                try dsimp only at w_30
                subst w_30
                refine J_aload_n (pc := 100) X 2 dX10_go_100 rfl ?_
                refine J_get (pc := 101) X clX10 0 13 rfl (by decide) g902 rfl dX10_go_101 ?_
                refine J_iload_n (pc := 104) X 1 dX10_go_104 rfl ?_
                refine J_iconst (pc := 105) X 1 dX10_go_105 (by decide) ?_
                refine J_iadd (pc := 106) X dX10_go_106 ?_
                refine J_top (y := nI (3 * wn + 3)) (n_add (x := 3 * wn + 2) (y := 1) rfl rfl (by omega)) ?_
                refine J_iald (pc := 107) X 4 0 (3 * wn + 3) rfl rfl rfl (by omega) (by decide) dX10_go_107 ?_
                refine J_isub (pc := 108) X dX10_go_108 ?_
                refine J_istore (pc := 109) X [(5, .int ((yG P (gp (pos - 100)) gr (nw 0)) - (nw (3 * wn + 3)))), (4, .int 1), (3, .int (nI (3 * wn + 2))), (0, .ref q), (1, .int (nI wn)), (2, .int wayx)] dX10_go_109 (by decide) rfl ?_
                refine J_aload_n (pc := 111) X 3 dX10_go_111 rfl ?_
                refine J_get (pc := 112) X clX10 0 13 rfl (by decide) g902 rfl dX10_go_112 ?_
                refine J_iload_n (pc := 115) X 2 dX10_go_115 rfl ?_
                refine J_iconst (pc := 116) X 1 dX10_go_116 (by decide) ?_
                refine J_iadd (pc := 117) X dX10_go_117 ?_
                refine J_top (y := nI (3 * wn + 3)) (n_add (x := 3 * wn + 2) (y := 1) rfl rfl (by omega)) ?_
                refine J_iload (pc := 118) X 0 dX10_go_118 rfl ?_
                refine J_if_ge (pc := 120) X 127 dX10_go_120 (by decide) (fun c_31 => ?_) (fun c_31 => ?_)
                · have c_31 := Int32.not_lt.mpr c_31
                  refine J_iload (pc := 127) X 0 dX10_go_127 rfl ?_
                  refine J_iast (pc := 129) X 4 0 (3 * wn + 3) [(q, .inr (10, [.ref qtx, .int (nI ln), .int fa, .ref qlw, .ref qgp, .ref qhm, .ref qpcs, .ref qdl, .ref qdg, .ref qdh, .ref qdp, .int dr, .int tl, .ref qnw, .ref qps, .int (nI dn2_u_21), .ref qim, .ref qisd, .ref qkp, .int sd, .ref qfd, .int (nI fn), .ref qbk, .int (nI en), .int (nI at_), .int (nI wr), .int pl, .int yd, .int wy, .int pce_, .ref qal, .ref qco])), (qlw, .inl (cI, 5, .inl lw)), (qgp, .inl (cI, 8, .inl gp)), (qpcs, .inl (cI, 4, .inl pcs)), (qnw, .inl (cI, 14, .inl (upd nw (3 * wn + 3) ((yG P (gp (pos - 100)) gr (nw 0)) - (nw (3 * wn + 3)))))), (qps, .inl (cI, 420, .inl (pushF dn nw ps)))] rfl rfl rfl (by omega) (by decide) rfl dX10_go_129 ?_
                  refine J_aload_n (pc := 130) X 3 dX10_go_130 rfl ?_
                  refine J_get (pc := 131) X clX10 0 13 rfl (by decide) g902 rfl dX10_go_131 ?_
                  refine J_iload_n (pc := 134) X 2 dX10_go_134 rfl ?_
                  refine J_iconst (pc := 135) X 2 dX10_go_135 (by decide) ?_
                  refine J_iadd (pc := 136) X dX10_go_136 ?_
                  refine J_top (y := nI (3 * wn + 4)) (n_add (x := 3 * wn + 2) (y := 2) rfl rfl (by omega)) ?_
                  refine J_iload_n (pc := 137) X 5 dX10_go_137 rfl ?_
                  refine J_iast (pc := 138) X 4 0 (3 * wn + 4) [(q, .inr (10, [.ref qtx, .int (nI ln), .int fa, .ref qlw, .ref qgp, .ref qhm, .ref qpcs, .ref qdl, .ref qdg, .ref qdh, .ref qdp, .int dr, .int tl, .ref qnw, .ref qps, .int (nI dn2_u_21), .ref qim, .ref qisd, .ref qkp, .int sd, .ref qfd, .int (nI fn), .ref qbk, .int (nI en), .int (nI at_), .int (nI wr), .int pl, .int yd, .int wy, .int pce_, .ref qal, .ref qco])), (qlw, .inl (cI, 5, .inl lw)), (qgp, .inl (cI, 8, .inl gp)), (qpcs, .inl (cI, 4, .inl pcs)), (qnw, .inl (cI, 14, .inl (upd (upd nw (3 * wn + 3) ((yG P (gp (pos - 100)) gr (nw 0)) - (nw (3 * wn + 3)))) (3 * wn + 4) wayx))), (qps, .inl (cI, 420, .inl (pushF dn nw ps)))] rfl rfl rfl (by omega) (by decide) rfl dX10_go_138 ?_
                  refine J_aload_n (pc := 139) X 3 dX10_go_139 rfl ?_
                  refine J_iload_n (pc := 140) X 4 dX10_go_140 rfl ?_
                  refine J_callI (pc := 141) (As := [.int (nI wn)]) (rest := []) X mtX10_whereIs g1090 [0, 1, 2, 4, 3] [5] [1, 2, 3, 5, 4, 0] 0 (fun u => [(q, .inr (10, [.ref qtx, .int (nI ln), .int fa, .ref qlw, .ref qgp, .ref qhm, .ref qpcs, .ref qdl, .ref qdg, .ref qdh, .ref qdp, .int dr, .int tl, .ref qnw, .ref qps, .int (nI dn2_u_21), .ref qim, .ref qisd, .ref qkp, .int sd, .ref qfd, .int (nI fn), .ref qbk, .int (nI en), .int (nI at_), .int (nI wr), .int (nI pos), .int ((upd (upd nw (3 * wn + 3) ((yG P (gp (pos - 100)) gr (nw 0)) - (nw (3 * wn + 3)))) (3 * wn + 4) wayx) (3 * wn + 3)), .int ((upd (upd nw (3 * wn + 3) ((yG P (gp (pos - 100)) gr (nw 0)) - (nw (3 * wn + 3)))) (3 * wn + 4) wayx) (3 * wn + 4)), .int (pcs wn), .ref qal, .ref qco])), (qlw, .inl (cI, 5, .inl lw)), (qgp, .inl (cI, 8, .inl gp)), (qpcs, .inl (cI, 4, .inl pcs)), (qnw, .inl (cI, 14, .inl (upd (upd nw (3 * wn + 3) ((yG P (gp (pos - 100)) gr (nw 0)) - (nw (3 * wn + 3)))) (3 * wn + 4) wayx))), (qps, .inl (cI, 420, .inl (pushF dn nw ps)))]) (kX10_whereIs l G cI cC cZ q qtx qlw qgp qhm qpcs qdl qdg qdh qdp qnw qps qim qisd qkp qfd qbk qal qco ln fa dr dn2_u_21 sd fn en at_ wr pl yd wy pce_ tl lw gp (upd (upd nw (3 * wn + 3) ((yG P (gp (pos - 100)) gr (nw 0)) - (nw (3 * wn + 3)))) (3 * wn + 4) wayx) pcs P gr wd g wk wn pos (by first | assumption | omega) (by first | assumption | omega) (by first | assumption | omega) (by first | assumption | omega) (by first | assumption | omega) (by first | assumption | omega) (by first | assumption | omega) (by first | assumption | omega) (by first | assumption | omega) (by first | assumption | omega) (by first | assumption | omega) (by first | (rw [upd_n (by omega)]; exact hpos) | (rw [upd_n (by omega), upd_n (by omega)]; exact hpos)) hpk) ⟨Nat.le_of_ble_eq_true rfl, Nat.le_of_ble_eq_true rfl⟩ rfl rfl rfl (by decide) (wr := [(qps, .inl (cI, 420, .inl (pushF dn nw ps)))]) rfl (by decide) (by decide) (fun _ => rfl) (by decide) rfl rfl rfl rfl rfl (Nat.le_of_ble_eq_true rfl) (Nat.zero_le _) (Nat.zero_le _) dX10_go_141 (fun r_32 u_33 w_34 => ?_)
                  try dsimp only at w_34
                  try dsimp only at w_34
                  subst w_34
                  refine J_iret (pc := 144) X hr ((upd (upd nw (3 * wn + 3) ((yG P (gp (pos - 100)) gr (nw 0)) - (nw (3 * wn + 3)))) (3 * wn + 4) wayx), dn2_u_21, (pushF dn nw ps), (nI pos), ((upd (upd nw (3 * wn + 3) ((yG P (gp (pos - 100)) gr (nw 0)) - (nw (3 * wn + 3)))) (3 * wn + 4) wayx) (3 * wn + 3)), ((upd (upd nw (3 * wn + 3) ((yG P (gp (pos - 100)) gr (nw 0)) - (nw (3 * wn + 3)))) (3 * wn + 4) wayx) (3 * wn + 4)), (pcs wn)) dX10_go_144 ?_ rfl
                  have hz : goR wk nw (nI wn) wayx = 0 := goR_0 hin9 (by omega) (by assumption) hpf (fun ⟨z1, z2⟩ => by first | omega | exact absurd z2 (by assumption))
                  have hp9 : (upd (upd nw (3 * wn + 3) ((yG P (gp (pos - 100)) gr (nw 0)) - (nw (3 * wn + 3)))) (3 * wn + 4) wayx) (3 * wn + 2) = nI pos := by first | (rw [upd_n (by omega)]; exact hpos) | (rw [upd_n (by omega), upd_n (by omega)]; exact hpos)
                  rw [hz, if_pos rfl, nI_clamp (by omega)]
                  refine ⟨?_, fun _ => ⟨?_, rfl, hp2⟩, fun h => absurd rfl h⟩
                  · rw [whN, posF_of hp9 hpl]
                  · exact goN_b (F := (fun k9 t9 => yG P (gp k9) gr t9)) hpf ⟨by omega, by assumption⟩ (by first | exact (if_pos (by assumption)).symm | exact (if_neg (by assumption)).symm)
                · have c_31 := Int32.not_le.mp c_31
                  refine J_iconst (pc := 123) X 0 dX10_go_123 (by decide) ?_
                  refine J_goto (pc := 124) X 129 dX10_go_124 (by decide) ?_
                  refine J_iast (pc := 129) X 4 0 (3 * wn + 3) [(q, .inr (10, [.ref qtx, .int (nI ln), .int fa, .ref qlw, .ref qgp, .ref qhm, .ref qpcs, .ref qdl, .ref qdg, .ref qdh, .ref qdp, .int dr, .int tl, .ref qnw, .ref qps, .int (nI dn2_u_21), .ref qim, .ref qisd, .ref qkp, .int sd, .ref qfd, .int (nI fn), .ref qbk, .int (nI en), .int (nI at_), .int (nI wr), .int pl, .int yd, .int wy, .int pce_, .ref qal, .ref qco])), (qlw, .inl (cI, 5, .inl lw)), (qgp, .inl (cI, 8, .inl gp)), (qpcs, .inl (cI, 4, .inl pcs)), (qnw, .inl (cI, 14, .inl (upd nw (3 * wn + 3) 0))), (qps, .inl (cI, 420, .inl (pushF dn nw ps)))] rfl rfl rfl (by omega) (by decide) rfl dX10_go_129 ?_
                  refine J_aload_n (pc := 130) X 3 dX10_go_130 rfl ?_
                  refine J_get (pc := 131) X clX10 0 13 rfl (by decide) g902 rfl dX10_go_131 ?_
                  refine J_iload_n (pc := 134) X 2 dX10_go_134 rfl ?_
                  refine J_iconst (pc := 135) X 2 dX10_go_135 (by decide) ?_
                  refine J_iadd (pc := 136) X dX10_go_136 ?_
                  refine J_top (y := nI (3 * wn + 4)) (n_add (x := 3 * wn + 2) (y := 2) rfl rfl (by omega)) ?_
                  refine J_iload_n (pc := 137) X 5 dX10_go_137 rfl ?_
                  refine J_iast (pc := 138) X 4 0 (3 * wn + 4) [(q, .inr (10, [.ref qtx, .int (nI ln), .int fa, .ref qlw, .ref qgp, .ref qhm, .ref qpcs, .ref qdl, .ref qdg, .ref qdh, .ref qdp, .int dr, .int tl, .ref qnw, .ref qps, .int (nI dn2_u_21), .ref qim, .ref qisd, .ref qkp, .int sd, .ref qfd, .int (nI fn), .ref qbk, .int (nI en), .int (nI at_), .int (nI wr), .int pl, .int yd, .int wy, .int pce_, .ref qal, .ref qco])), (qlw, .inl (cI, 5, .inl lw)), (qgp, .inl (cI, 8, .inl gp)), (qpcs, .inl (cI, 4, .inl pcs)), (qnw, .inl (cI, 14, .inl (upd (upd nw (3 * wn + 3) 0) (3 * wn + 4) wayx))), (qps, .inl (cI, 420, .inl (pushF dn nw ps)))] rfl rfl rfl (by omega) (by decide) rfl dX10_go_138 ?_
                  refine J_aload_n (pc := 139) X 3 dX10_go_139 rfl ?_
                  refine J_iload_n (pc := 140) X 4 dX10_go_140 rfl ?_
                  refine J_callI (pc := 141) (As := [.int (nI wn)]) (rest := []) X mtX10_whereIs g1090 [0, 1, 2, 4, 3] [5] [1, 2, 3, 5, 4, 0] 0 (fun u => [(q, .inr (10, [.ref qtx, .int (nI ln), .int fa, .ref qlw, .ref qgp, .ref qhm, .ref qpcs, .ref qdl, .ref qdg, .ref qdh, .ref qdp, .int dr, .int tl, .ref qnw, .ref qps, .int (nI dn2_u_21), .ref qim, .ref qisd, .ref qkp, .int sd, .ref qfd, .int (nI fn), .ref qbk, .int (nI en), .int (nI at_), .int (nI wr), .int (nI pos), .int ((upd (upd nw (3 * wn + 3) 0) (3 * wn + 4) wayx) (3 * wn + 3)), .int ((upd (upd nw (3 * wn + 3) 0) (3 * wn + 4) wayx) (3 * wn + 4)), .int (pcs wn), .ref qal, .ref qco])), (qlw, .inl (cI, 5, .inl lw)), (qgp, .inl (cI, 8, .inl gp)), (qpcs, .inl (cI, 4, .inl pcs)), (qnw, .inl (cI, 14, .inl (upd (upd nw (3 * wn + 3) 0) (3 * wn + 4) wayx))), (qps, .inl (cI, 420, .inl (pushF dn nw ps)))]) (kX10_whereIs l G cI cC cZ q qtx qlw qgp qhm qpcs qdl qdg qdh qdp qnw qps qim qisd qkp qfd qbk qal qco ln fa dr dn2_u_21 sd fn en at_ wr pl yd wy pce_ tl lw gp (upd (upd nw (3 * wn + 3) 0) (3 * wn + 4) wayx) pcs P gr wd g wk wn pos (by first | assumption | omega) (by first | assumption | omega) (by first | assumption | omega) (by first | assumption | omega) (by first | assumption | omega) (by first | assumption | omega) (by first | assumption | omega) (by first | assumption | omega) (by first | assumption | omega) (by first | assumption | omega) (by first | assumption | omega) (by first | (rw [upd_n (by omega)]; exact hpos) | (rw [upd_n (by omega), upd_n (by omega)]; exact hpos)) hpk) ⟨Nat.le_of_ble_eq_true rfl, Nat.le_of_ble_eq_true rfl⟩ rfl rfl rfl (by decide) (wr := [(qps, .inl (cI, 420, .inl (pushF dn nw ps)))]) rfl (by decide) (by decide) (fun _ => rfl) (by decide) rfl rfl rfl rfl rfl (Nat.le_of_ble_eq_true rfl) (Nat.zero_le _) (Nat.zero_le _) dX10_go_141 (fun r_35 u_36 w_37 => ?_)
                  try dsimp only at w_37
                  try dsimp only at w_37
                  subst w_37
                  refine J_iret (pc := 144) X hr ((upd (upd nw (3 * wn + 3) 0) (3 * wn + 4) wayx), dn2_u_21, (pushF dn nw ps), (nI pos), ((upd (upd nw (3 * wn + 3) 0) (3 * wn + 4) wayx) (3 * wn + 3)), ((upd (upd nw (3 * wn + 3) 0) (3 * wn + 4) wayx) (3 * wn + 4)), (pcs wn)) dX10_go_144 ?_ rfl
                  have hz : goR wk nw (nI wn) wayx = 0 := goR_0 hin9 (by omega) (by assumption) hpf (fun ⟨z1, z2⟩ => by first | omega | exact absurd z2 (by assumption))
                  have hp9 : (upd (upd nw (3 * wn + 3) 0) (3 * wn + 4) wayx) (3 * wn + 2) = nI pos := by first | (rw [upd_n (by omega)]; exact hpos) | (rw [upd_n (by omega), upd_n (by omega)]; exact hpos)
                  rw [hz, if_pos rfl, nI_clamp (by omega)]
                  refine ⟨?_, fun _ => ⟨?_, rfl, hp2⟩, fun h => absurd rfl h⟩
                  · rw [whN, posF_of hp9 hpl]
                  · exact goN_b (F := (fun k9 t9 => yG P (gp k9) gr t9)) hpf ⟨by omega, by assumption⟩ (by first | exact (if_pos (by assumption)).symm | exact (if_neg (by assumption)).symm)
          · skip
            refine J_ldc (pc := 57) X g1106 dX10_go_57 ?_
            refine J_iret (pc := 59) X hr (nw, dn, ps, pl, yd, wy, pce_) dX10_go_59 ?_ rfl
            have hz : goR wk nw (nI wn) wayx = -1000000003 := by rw [goR, if_pos hin9, if_pos (by assumption), nI_clamp (by omega), hpf, if_pos ⟨by omega, by assumption⟩]
            rw [hz]
            exact ⟨rfl, fun h => absurd h (by decide), fun _ => ⟨rfl, rfl, rfl⟩⟩
    · skip
      refine J_ldc (pc := 20) X g993 dX10_go_20 ?_
      refine J_iret (pc := 22) X hr (nw, dn, ps, pl, yd, wy, pce_) dX10_go_22 ?_ rfl
      have hz : goR wk nw (nI wn) wayx = -1000000002 := by rw [goR, if_pos hin9, if_neg (by assumption)]
      rw [hz]
      exact ⟨rfl, fun h => absurd h (by decide), fun _ => ⟨rfl, rfl, rfl⟩⟩
  · skip
    refine J_ldc (pc := 8) X g1066 dX10_go_8 ?_
    refine J_iret (pc := 10) X hr (nw, dn, ps, pl, yd, wy, pce_) dX10_go_10 ?_ rfl
    have hz : goR wk nw w wayx = -1000000001 := if_neg (by assumption)
    rw [hz]
    exact ⟨rfl, fun h => absurd h (by decide), fun _ => ⟨rfl, rfl, rfl⟩⟩
set_option maxRecDepth 100000 in
set_option maxHeartbeats 600000 in
theorem kX10_rope (l : Launch) (G : va_G) (cI cC cZ : ClassId) (q : Nat) (qtx : Nat) (qlw : Nat) (qgp : Nat) (qhm : Nat) (qpcs : Nat) (qdl : Nat) (qdg : Nat) (qdh : Nat) (qdp : Nat) (qnw : Nat) (qps : Nat) (qim : Nat) (qisd : Nat) (qkp : Nat) (qfd : Nat) (qbk : Nat) (qal : Nat) (qco : Nat) (ln : Nat) (fa : Int32) (dr : Int32) (dn : Nat) (sd : Int32) (fn : Nat) (en : Nat) (at_ : Nat) (wr : Nat) (pl : Int32) (yd : Int32) (wy : Int32) (pce_ : Int32) (tl : Int32) (lw : Nat → Int32) (nw : Nat → Int32) (ps : Nat → Int32) (P : Nat) (gr : Int32) (wd : Nat) (g : Nat) (wk : Nat) (k : Int32) (is_ : Int32) (hPl : P ≤ 60) (hg : g ≤ 8) (hwk : wk ≤ 4) (hwd : wd ≤ 50) (hl0 : lw 0 = nI P) (hl1 : lw 1 = gr) (hl2 : lw 2 = nI wd) (hl3 : lw 3 = nI g) (hl4 : lw 4 = nI wk) (hdn : dn ≤ 30) : CI l G (tys3 cI cC cZ) yX10_rope cX10_rope 4 (some .int) ({ frames := 2, cells := 0, slots := 0, locals := 45 }) [.ref q, .int k, .int is_] [(q, .inr (10, [.ref qtx, .int (nI ln), .int fa, .ref qlw, .ref qgp, .ref qhm, .ref qpcs, .ref qdl, .ref qdg, .ref qdh, .ref qdp, .int dr, .int tl, .ref qnw, .ref qps, .int (nI dn), .ref qim, .ref qisd, .ref qkp, .int sd, .ref qfd, .int (nI fn), .ref qbk, .int (nI en), .int (nI at_), .int (nI wr), .int pl, .int yd, .int wy, .int pce_, .ref qal, .ref qco])), (qlw, .inl (cI, 5, .inl lw)), (qnw, .inl (cI, 14, .inl nw)), (qps, .inl (cI, 420, .inl ps))] (S := (Nat → Int32) × Nat × (Nat → Int32)) (fun (r : Int32) (u : (Nat → Int32) × Nat × (Nat → Int32)) => r = (if inB k g then nw 1 >>> (k &&& 31) &&& 1 else -1000000001) ∧ (inB k g → u.1 = ropN nw k is_ ∧ u.2.2 = pushF dn nw ps ∧ ((dn < 30 ∧ u.2.1 = dn + 1) ∨ (dn = 30 ∧ u.2.1 = 30))) ∧ (¬ inB k g → u.1 = nw ∧ u.2.2 = ps ∧ u.2.1 = dn)) (fun (u : (Nat → Int32) × Nat × (Nat → Int32)) => [(q, .inr (10, [.ref qtx, .int (nI ln), .int fa, .ref qlw, .ref qgp, .ref qhm, .ref qpcs, .ref qdl, .ref qdg, .ref qdh, .ref qdp, .int dr, .int tl, .ref qnw, .ref qps, .int (nI u.2.1), .ref qim, .ref qisd, .ref qkp, .int sd, .ref qfd, .int (nI fn), .ref qbk, .int (nI en), .int (nI at_), .int (nI wr), .int pl, .int yd, .int wy, .int pce_, .ref qal, .ref qco])), (qlw, .inl (cI, 5, .inl lw)), (qnw, .inl (cI, 14, .inl u.1)), (qps, .inl (cI, 420, .inl u.2.2))]) := by
  refine CI.intro (by decide) (Nat.le_of_ble_eq_true rfl) ?_
  intro p0 e0 s0 m0 ar0 be0 me0 c0 A0 X hr
  refine J_aload_n (pc := 0) X 0 dX10_rope_0 rfl ?_
  refine J_iload_n (pc := 1) X 1 dX10_rope_1 rfl ?_
  refine J_callR (pc := 2) (As := [.int k]) (rest := []) X mtX10_isGap g1062 [0, 1] 0 (kX10_isGap l G cI cC cZ q qtx qlw qgp qhm qpcs qdl qdg qdh qdp qnw qps qim qisd qkp qfd qbk qal qco ln fa dr dn sd fn en at_ wr pl yd wy pce_ tl lw P gr wd g wk k (by first | assumption | omega) (by first | assumption | omega) (by first | assumption | omega) (by first | assumption | omega) (by first | assumption | omega) (by first | assumption | omega) (by first | assumption | omega) (by first | assumption | omega) (by first | assumption | omega)) ⟨Nat.le_of_ble_eq_true rfl, Nat.le_of_ble_eq_true rfl⟩ rfl rfl rfl (by decide) rfl rfl rfl rfl rfl (Nat.le_of_ble_eq_true rfl) (Nat.zero_le _) (Nat.zero_le _) dX10_rope_2 (fun r_1 u_2 w_3 => ?_)
  try dsimp only at w_3
  subst w_3
  refine J_bif_ne (pc := 5) X 11 dX10_rope_5 (by decide) (fun c_4 => ?_) (fun c_4 => ?_)
  · skip
    obtain ⟨kn, hkn, rfl⟩ := inB_ex (by omega) c_4
    refine J_aload_n (pc := 11) X 0 dX10_rope_11 rfl ?_
    refine J_callV (pc := 12) (As := []) (rest := []) X mtX10_notes g1107 [0, 2, 3] [1] [1, 0, 2, 3] 0 (fun u => [(q, .inr (10, [.ref qtx, .int (nI ln), .int fa, .ref qlw, .ref qgp, .ref qhm, .ref qpcs, .ref qdl, .ref qdg, .ref qdh, .ref qdp, .int dr, .int tl, .ref qnw, .ref qps, .int (nI u.1), .ref qim, .ref qisd, .ref qkp, .int sd, .ref qfd, .int (nI fn), .ref qbk, .int (nI en), .int (nI at_), .int (nI wr), .int pl, .int yd, .int wy, .int pce_, .ref qal, .ref qco])), (qlw, .inl (cI, 5, .inl lw)), (qnw, .inl (cI, 14, .inl nw)), (qps, .inl (cI, 420, .inl u.2))]) (kX10_notes l G cI cC cZ q qtx qlw qgp qhm qpcs qdl qdg qdh qdp qnw qps qim qisd qkp qfd qbk qal qco ln fa dr dn sd fn en at_ wr pl yd wy pce_ tl nw ps (by first | assumption | omega)) ⟨Nat.le_of_ble_eq_true rfl, Nat.le_of_ble_eq_true rfl⟩ rfl rfl rfl (by decide) (wr := [(qlw, .inl (cI, 5, .inl lw))]) rfl (by decide) (by decide) (fun _ => rfl) (by decide) rfl rfl rfl rfl rfl (Nat.le_of_ble_eq_true rfl) (Nat.zero_le _) (Nat.zero_le _) dX10_rope_12 (fun u_6 w_7 => ?_)
    obtain ⟨dn2_u_6, ps2_u_6⟩ := u_6
    try dsimp only at w_7
    obtain ⟨hp1, hp2⟩ := w_7; subst hp1
    refine J_aload_n (pc := 15) X 0 dX10_rope_15 rfl ?_
    refine J_get (pc := 16) X clX10 0 13 rfl (by decide) g902 rfl dX10_rope_16 ?_
    refine J_iconst (pc := 19) X 1 dX10_rope_19 (by decide) ?_
    refine J_iald (pc := 20) X 2 0 1 rfl rfl rfl (by decide) (by decide) dX10_rope_20 ?_
    refine J_iload_n (pc := 21) X 1 dX10_rope_21 rfl ?_
    refine J_ishr (pc := 22) X dX10_rope_22 ?_
    refine J_iconst (pc := 23) X 1 dX10_rope_23 (by decide) ?_
    refine J_iand (pc := 24) X dX10_rope_24 ?_
    refine J_istore_n (pc := 25) X [(3, .int (((nw 1) >>> ((nI kn) &&& 31)) &&& 1)), (0, .ref q), (1, .int (nI kn)), (2, .int is_)] dX10_rope_25 (by decide) rfl ?_
    refine J_aload_n (pc := 26) X 1 dX10_rope_26 rfl ?_
    refine J_get (pc := 27) X clX10 0 13 rfl (by decide) g902 rfl dX10_rope_27 ?_
    refine J_iconst (pc := 30) X 1 dX10_rope_30 (by decide) ?_
    refine J_iload_n (pc := 31) X 3 dX10_rope_31 rfl ?_
    refine J_if_eq (pc := 32) X 48 dX10_rope_32 (by decide) (fun c_8 => ?_) (fun c_8 => ?_)
    · skip
      refine J_aload_n (pc := 48) X 1 dX10_rope_48 rfl ?_
      refine J_get (pc := 49) X clX10 0 13 rfl (by decide) g902 rfl dX10_rope_49 ?_
      refine J_iconst (pc := 52) X 1 dX10_rope_52 (by decide) ?_
      refine J_iald (pc := 53) X 2 0 1 rfl rfl rfl (by decide) (by decide) dX10_rope_53 ?_
      refine J_iconst (pc := 54) X 1 dX10_rope_54 (by decide) ?_
      refine J_iload_n (pc := 55) X 2 dX10_rope_55 rfl ?_
      refine J_ishl (pc := 56) X dX10_rope_56 ?_
      refine J_iconst (pc := 57) X (-1) dX10_rope_57 (by decide) ?_
      refine J_ixor (pc := 58) X dX10_rope_58 ?_
      refine J_iand (pc := 59) X dX10_rope_59 ?_
      refine J_iast (pc := 60) X 2 0 1 [(q, .inr (10, [.ref qtx, .int (nI ln), .int fa, .ref qlw, .ref qgp, .ref qhm, .ref qpcs, .ref qdl, .ref qdg, .ref qdh, .ref qdp, .int dr, .int tl, .ref qnw, .ref qps, .int (nI dn2_u_6), .ref qim, .ref qisd, .ref qkp, .int sd, .ref qfd, .int (nI fn), .ref qbk, .int (nI en), .int (nI at_), .int (nI wr), .int pl, .int yd, .int wy, .int pce_, .ref qal, .ref qco])), (qlw, .inl (cI, 5, .inl lw)), (qnw, .inl (cI, 14, .inl (upd nw 1 ((nw 1) &&& ((1 <<< ((nI kn) &&& 31)) ^^^ (-1)))))), (qps, .inl (cI, 420, .inl (pushF dn nw ps)))] rfl rfl rfl (by decide) (by decide) rfl dX10_rope_60 ?_
      refine J_iload_n (pc := 61) X 0 dX10_rope_61 rfl ?_
      refine J_iret (pc := 62) X hr ((upd nw 1 ((nw 1) &&& ((1 <<< ((nI kn) &&& 31)) ^^^ (-1)))), dn2_u_6, (pushF dn nw ps)) dX10_rope_62 ?_ rfl
      have hin9 := (inB_nI (n := g) (j := kn) (by omega)).mpr hkn
      refine ⟨(if_pos hin9).symm, fun _ => ⟨?_, rfl, hp2⟩, fun h => absurd hin9 h⟩
      first | (rw [ropN, if_pos (by assumption)]; done) | (rw [ropN, if_neg (by assumption)]; done)
    · skip
      refine J_aload_n (pc := 35) X 1 dX10_rope_35 rfl ?_
      refine J_get (pc := 36) X clX10 0 13 rfl (by decide) g902 rfl dX10_rope_36 ?_
      refine J_iconst (pc := 39) X 1 dX10_rope_39 (by decide) ?_
      refine J_iald (pc := 40) X 2 0 1 rfl rfl rfl (by decide) (by decide) dX10_rope_40 ?_
      refine J_iconst (pc := 41) X 1 dX10_rope_41 (by decide) ?_
      refine J_iload_n (pc := 42) X 2 dX10_rope_42 rfl ?_
      refine J_ishl (pc := 43) X dX10_rope_43 ?_
      refine J_ior (pc := 44) X dX10_rope_44 ?_
      refine J_goto (pc := 45) X 60 dX10_rope_45 (by decide) ?_
      refine J_iast (pc := 60) X 2 0 1 [(q, .inr (10, [.ref qtx, .int (nI ln), .int fa, .ref qlw, .ref qgp, .ref qhm, .ref qpcs, .ref qdl, .ref qdg, .ref qdh, .ref qdp, .int dr, .int tl, .ref qnw, .ref qps, .int (nI dn2_u_6), .ref qim, .ref qisd, .ref qkp, .int sd, .ref qfd, .int (nI fn), .ref qbk, .int (nI en), .int (nI at_), .int (nI wr), .int pl, .int yd, .int wy, .int pce_, .ref qal, .ref qco])), (qlw, .inl (cI, 5, .inl lw)), (qnw, .inl (cI, 14, .inl (upd nw 1 ((nw 1) ||| (1 <<< ((nI kn) &&& 31)))))), (qps, .inl (cI, 420, .inl (pushF dn nw ps)))] rfl rfl rfl (by decide) (by decide) rfl dX10_rope_60 ?_
      refine J_iload_n (pc := 61) X 0 dX10_rope_61 rfl ?_
      refine J_iret (pc := 62) X hr ((upd nw 1 ((nw 1) ||| (1 <<< ((nI kn) &&& 31)))), dn2_u_6, (pushF dn nw ps)) dX10_rope_62 ?_ rfl
      have hin9 := (inB_nI (n := g) (j := kn) (by omega)).mpr hkn
      refine ⟨(if_pos hin9).symm, fun _ => ⟨?_, rfl, hp2⟩, fun h => absurd hin9 h⟩
      first | (rw [ropN, if_pos (by assumption)]; done) | (rw [ropN, if_neg (by assumption)]; done)
  · skip
    refine J_ldc (pc := 8) X g1066 dX10_rope_8 ?_
    refine J_iret (pc := 10) X hr (nw, dn, ps) dX10_rope_10 ?_ rfl
    exact ⟨(if_neg (by assumption)).symm, fun h => absurd h (by assumption), fun _ => ⟨rfl, rfl, rfl⟩⟩
