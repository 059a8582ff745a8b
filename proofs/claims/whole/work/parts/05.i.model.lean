set_option maxRecDepth 100000 in
set_option maxHeartbeats 600000 in
theorem kX10_apart (l : Launch) (G : va_G) (cI cC cZ : ClassId) (q : Nat) (qtx : Nat) (qlw : Nat) (qgp : Nat) (qhm : Nat) (qpcs : Nat) (qdl : Nat) (qdg : Nat) (qdh : Nat) (qdp : Nat) (qnw : Nat) (qps : Nat) (qim : Nat) (qisd : Nat) (qkp : Nat) (qfd : Nat) (qbk : Nat) (qal : Nat) (qco : Nat) (ln : Nat) (fa : Int32) (dr : Int32) (dn : Nat) (sd : Int32) (fn : Nat) (en : Nat) (at_ : Nat) (wr : Nat) (pl : Int32) (yd : Int32) (wy : Int32) (pce_ : Int32) (tl : Int32) (lw : Nat → Int32) (gp : Nat → Int32) (nw : Nat → Int32) (pcs : Nat → Int32) (P : Nat) (gr : Int32) (wd : Nat) (g : Nat) (wk : Nat) (w : Int32) (z : Int32) (hPl : P ≤ 60) (hg : g ≤ 8) (hwk : wk ≤ 4) (hwd : wd ≤ 50) (hl0 : lw 0 = nI P) (hl1 : lw 1 = gr) (hl2 : lw 2 = nI wd) (hl3 : lw 3 = nI g) (hl4 : lw 4 = nI wk) (hP0 : 0 < g → 0 < P) (hok : okS g wk nw) : CI l G (tys3 cI cC cZ) yX10_apart cX10_apart 4 (some .int) ({ frames := 5, cells := 0, slots := 0, locals := 113 }) [.ref q, .int w, .int z] [(q, .inr (10, [.ref qtx, .int (nI ln), .int fa, .ref qlw, .ref qgp, .ref qhm, .ref qpcs, .ref qdl, .ref qdg, .ref qdh, .ref qdp, .int dr, .int tl, .ref qnw, .ref qps, .int (nI dn), .ref qim, .ref qisd, .ref qkp, .int sd, .ref qfd, .int (nI fn), .ref qbk, .int (nI en), .int (nI at_), .int (nI wr), .int pl, .int yd, .int wy, .int pce_, .ref qal, .ref qco])), (qlw, .inl (cI, 5, .inl lw)), (qgp, .inl (cI, 8, .inl gp)), (qnw, .inl (cI, 14, .inl nw)), (qpcs, .inl (cI, 4, .inl pcs))] (S := Int32 × Int32 × Int32 × Int32) (fun (r : Int32) (u : Int32 × Int32 × Int32 × Int32) => r = spApart wk (fun k9 t9 => yG P (gp k9) gr t9) nw w z) (fun (u : Int32 × Int32 × Int32 × Int32) => [(q, .inr (10, [.ref qtx, .int (nI ln), .int fa, .ref qlw, .ref qgp, .ref qhm, .ref qpcs, .ref qdl, .ref qdg, .ref qdh, .ref qdp, .int dr, .int tl, .ref qnw, .ref qps, .int (nI dn), .ref qim, .ref qisd, .ref qkp, .int sd, .ref qfd, .int (nI fn), .ref qbk, .int (nI en), .int (nI at_), .int (nI wr), .int u.1, .int u.2.1, .int u.2.2.1, .int u.2.2.2, .ref qal, .ref qco])), (qlw, .inl (cI, 5, .inl lw)), (qgp, .inl (cI, 8, .inl gp)), (qnw, .inl (cI, 14, .inl nw)), (qpcs, .inl (cI, 4, .inl pcs))]) := by
  refine CI.intro (by decide) (Nat.le_of_ble_eq_true rfl) ?_
  intro p0 e0 s0 m0 ar0 be0 me0 c0 A0 X hr
  refine J_aload_n (pc := 0) X 0 dX10_apart_0 rfl ?_
  refine J_iload_n (pc := 1) X 1 dX10_apart_1 rfl ?_
  refine J_iload_n (pc := 2) X 2 dX10_apart_2 rfl ?_
  refine J_callR (pc := 3) (As := [.int w, .int z]) (rest := []) X mtX10_areWalkers g1159 [0, 1] 0 (kX10_areWalkers l G cI cC cZ q qtx qlw qgp qhm qpcs qdl qdg qdh qdp qnw qps qim qisd qkp qfd qbk qal qco ln fa dr dn sd fn en at_ wr pl yd wy pce_ tl lw P gr wd g wk w z (by first | assumption | omega) (by first | assumption | omega) (by first | assumption | omega) (by first | assumption | omega) (by first | assumption | omega) (by first | assumption | omega) (by first | assumption | omega) (by first | assumption | omega) (by first | assumption | omega)) ⟨Nat.le_of_ble_eq_true rfl, Nat.le_of_ble_eq_true rfl⟩ rfl rfl rfl (by decide) rfl rfl rfl rfl rfl (Nat.le_of_ble_eq_true rfl) (Nat.zero_le _) (Nat.zero_le _) dX10_apart_3 (fun r_1 u_2 w_3 => ?_)
  try dsimp only at w_3
  subst w_3
  refine J_bif_ne (pc := 6) X 12 dX10_apart_6 (by decide) (fun c_4 => ?_) (fun c_4 => ?_)
  · skip
    have htwo := c_4
    obtain ⟨hta, htb, hnab⟩ := c_4
    obtain ⟨an, han, rfl⟩ := inB_ex (by omega) hta
    obtain ⟨bn, hbn, rfl⟩ := inB_ex (by omega) htb
    have hne : ¬ an = bn := fun e9 => hnab (congrArg nI e9)
    have ca := nI_clamp (n := an) (by omega)
    have cb := nI_clamp (n := bn) (by omega)
    obtain ⟨ps1, hps1, hpk1⟩ := hok an han
    have hpl1 := posOk_lt hg hpk1
    have hpf1 := posF_of hps1 hpl1
    obtain ⟨ps2, hps2, hpk2⟩ := hok bn hbn
    have hpl2 := posOk_lt hg hpk2
    have hpf2 := posF_of hps2 hpl2
    refine J_aload_n (pc := 12) X 0 dX10_apart_12 rfl ?_
    refine J_iload_n (pc := 13) X 1 dX10_apart_13 rfl ?_
    refine J_callI (pc := 14) (As := [.int (nI an)]) (rest := []) X mtX10_whereIs g1090 [0, 1, 2, 3, 4] [] [0, 1, 2, 3, 4] 0 (fun u => [(q, .inr (10, [.ref qtx, .int (nI ln), .int fa, .ref qlw, .ref qgp, .ref qhm, .ref qpcs, .ref qdl, .ref qdg, .ref qdh, .ref qdp, .int dr, .int tl, .ref qnw, .ref qps, .int (nI dn), .ref qim, .ref qisd, .ref qkp, .int sd, .ref qfd, .int (nI fn), .ref qbk, .int (nI en), .int (nI at_), .int (nI wr), .int (nI ps1), .int (nw (3 * an + 3)), .int (nw (3 * an + 4)), .int (pcs an), .ref qal, .ref qco])), (qlw, .inl (cI, 5, .inl lw)), (qgp, .inl (cI, 8, .inl gp)), (qnw, .inl (cI, 14, .inl nw)), (qpcs, .inl (cI, 4, .inl pcs))]) (kX10_whereIs l G cI cC cZ q qtx qlw qgp qhm qpcs qdl qdg qdh qdp qnw qps qim qisd qkp qfd qbk qal qco ln fa dr dn sd fn en at_ wr pl yd wy pce_ tl lw gp nw pcs P gr wd g wk an ps1 (by first | assumption | omega) (by first | assumption | omega) (by first | assumption | omega) (by first | assumption | omega) (by first | assumption | omega) (by first | assumption | omega) (by first | assumption | omega) (by first | assumption | omega) (by first | assumption | omega) (by first | assumption | omega) (by first | assumption | omega) hps1 hpk1) ⟨Nat.le_of_ble_eq_true rfl, Nat.le_of_ble_eq_true rfl⟩ rfl rfl rfl (by decide) (wr := []) rfl (by decide) (by decide) (fun _ => rfl) (by decide) rfl rfl rfl rfl rfl (Nat.le_of_ble_eq_true rfl) (Nat.zero_le _) (Nat.zero_le _) dX10_apart_14 (fun r_5 u_6 w_7 => ?_)
    try dsimp only at w_7
    try dsimp only at w_7
    subst w_7
    refine J_aload_n (pc := 17) X 0 dX10_apart_17 rfl ?_
    refine J_iload_n (pc := 18) X 2 dX10_apart_18 rfl ?_
    refine J_callI (pc := 19) (As := [.int (nI bn)]) (rest := [.int (whP (fun k9 => yG P (gp k9) gr (nw 0)) ps1 (nw (3 * an + 3)) (nw (3 * an + 4)))]) X mtX10_whereIs g1090 [0, 1, 2, 3, 4] [] [0, 1, 2, 3, 4] 0 (fun u => [(q, .inr (10, [.ref qtx, .int (nI ln), .int fa, .ref qlw, .ref qgp, .ref qhm, .ref qpcs, .ref qdl, .ref qdg, .ref qdh, .ref qdp, .int dr, .int tl, .ref qnw, .ref qps, .int (nI dn), .ref qim, .ref qisd, .ref qkp, .int sd, .ref qfd, .int (nI fn), .ref qbk, .int (nI en), .int (nI at_), .int (nI wr), .int (nI ps2), .int (nw (3 * bn + 3)), .int (nw (3 * bn + 4)), .int (pcs bn), .ref qal, .ref qco])), (qlw, .inl (cI, 5, .inl lw)), (qgp, .inl (cI, 8, .inl gp)), (qnw, .inl (cI, 14, .inl nw)), (qpcs, .inl (cI, 4, .inl pcs))]) (kX10_whereIs l G cI cC cZ q qtx qlw qgp qhm qpcs qdl qdg qdh qdp qnw qps qim qisd qkp qfd qbk qal qco ln fa dr dn sd fn en at_ wr (nI ps1) (nw (3 * an + 3)) (nw (3 * an + 4)) (pcs an) tl lw gp nw pcs P gr wd g wk bn ps2 (by first | assumption | omega) (by first | assumption | omega) (by first | assumption | omega) (by first | assumption | omega) (by first | assumption | omega) (by first | assumption | omega) (by first | assumption | omega) (by first | assumption | omega) (by first | assumption | omega) (by first | assumption | omega) (by first | assumption | omega) hps2 hpk2) ⟨Nat.le_of_ble_eq_true rfl, Nat.le_of_ble_eq_true rfl⟩ rfl rfl rfl (by decide) (wr := []) rfl (by decide) (by decide) (fun _ => rfl) (by decide) rfl rfl rfl rfl rfl (Nat.le_of_ble_eq_true rfl) (Nat.zero_le _) (Nat.zero_le _) dX10_apart_19 (fun r_8 u_9 w_10 => ?_)
    try dsimp only at w_10
    try dsimp only at w_10
    subst w_10
    refine J_isub (pc := 22) X dX10_apart_22 ?_
    refine J_istore_n (pc := 23) X [(3, .int ((whP (fun k9 => yG P (gp k9) gr (nw 0)) ps1 (nw (3 * an + 3)) (nw (3 * an + 4))) - (whP (fun k9 => yG P (gp k9) gr (nw 0)) ps2 (nw (3 * bn + 3)) (nw (3 * bn + 4))))), (0, .ref q), (1, .int (nI an)), (2, .int (nI bn))] dX10_apart_23 (by decide) rfl ?_
    refine J_iload_n (pc := 24) X 0 dX10_apart_24 rfl ?_
    refine J_if_ge (pc := 25) X 33 dX10_apart_25 (by decide) (fun c_11 => ?_) (fun c_11 => ?_)
    · have c_11 := Int32.not_lt.mpr c_11
      refine J_iload_n (pc := 33) X 0 dX10_apart_33 rfl ?_
      refine J_iret (pc := 34) X hr ((nI ps2), (nw (3 * bn + 3)), (nw (3 * bn + 4)), (pcs bn)) dX10_apart_34 ?_ rfl
      rw [spApart, if_pos htwo, ca, cb, whN, whN, hpf1, hpf2]
      first | exact (if_pos (by assumption)).symm | exact (if_neg (by assumption)).symm
    · have c_11 := Int32.not_le.mp c_11
      refine J_iload_n (pc := 28) X 0 dX10_apart_28 rfl ?_
      refine J_ineg (pc := 29) X dX10_apart_29 ?_
      refine J_goto (pc := 30) X 34 dX10_apart_30 (by decide) ?_
      refine J_iret (pc := 34) X hr ((nI ps2), (nw (3 * bn + 3)), (nw (3 * bn + 4)), (pcs bn)) dX10_apart_34 ?_ rfl
      rw [spApart, if_pos htwo, ca, cb, whN, whN, hpf1, hpf2]
      first | exact (if_pos (by assumption)).symm | exact (if_neg (by assumption)).symm
  · skip
    refine J_ldc (pc := 9) X g1066 dX10_apart_9 ?_
    refine J_iret (pc := 11) X hr (pl, yd, wy, pce_) dX10_apart_11 ?_ rfl
    exact (if_neg (by assumption)).symm
set_option maxRecDepth 100000 in
set_option maxHeartbeats 600000 in
theorem kX10_undo (l : Launch) (G : va_G) (cI cC cZ : ClassId) (q : Nat) (qtx : Nat) (qlw : Nat) (qgp : Nat) (qhm : Nat) (qpcs : Nat) (qdl : Nat) (qdg : Nat) (qdh : Nat) (qdp : Nat) (qnw : Nat) (qps : Nat) (qim : Nat) (qisd : Nat) (qkp : Nat) (qfd : Nat) (qbk : Nat) (qal : Nat) (qco : Nat) (ln : Nat) (fa : Int32) (dr : Int32) (dn : Nat) (sd : Int32) (fn : Nat) (en : Nat) (at_ : Nat) (wr : Nat) (pl : Int32) (yd : Int32) (wy : Int32) (pce_ : Int32) (tl : Int32) (nw : Nat → Int32) (ps : Nat → Int32) (n : Int32) (hdn : dn ≤ 30) : CI l G (tys3 cI cC cZ) yX10_undo cX10_undo 2 (some .int) ({ frames := 1, cells := 0, slots := 0, locals := 24 }) [.ref q, .int n] [(q, .inr (10, [.ref qtx, .int (nI ln), .int fa, .ref qlw, .ref qgp, .ref qhm, .ref qpcs, .ref qdl, .ref qdg, .ref qdh, .ref qdp, .int dr, .int tl, .ref qnw, .ref qps, .int (nI dn), .ref qim, .ref qisd, .ref qkp, .int sd, .ref qfd, .int (nI fn), .ref qbk, .int (nI en), .int (nI at_), .int (nI wr), .int pl, .int yd, .int wy, .int pce_, .ref qal, .ref qco])), (qnw, .inl (cI, 14, .inl nw)), (qps, .inl (cI, 420, .inl ps))] (S := (Nat → Int32) × Nat) (fun (r : Int32) (u : (Nat → Int32) × Nat) => r = (if undR n dn = 0 then u.1 0 else undR n dn) ∧ (u.1, u.2, ps) = unS n (nw, dn, ps)) (fun (u : (Nat → Int32) × Nat) => [(q, .inr (10, [.ref qtx, .int (nI ln), .int fa, .ref qlw, .ref qgp, .ref qhm, .ref qpcs, .ref qdl, .ref qdg, .ref qdh, .ref qdp, .int dr, .int tl, .ref qnw, .ref qps, .int (nI u.2), .ref qim, .ref qisd, .ref qkp, .int sd, .ref qfd, .int (nI fn), .ref qbk, .int (nI en), .int (nI at_), .int (nI wr), .int pl, .int yd, .int wy, .int pce_, .ref qal, .ref qco])), (qnw, .inl (cI, 14, .inl u.1)), (qps, .inl (cI, 420, .inl ps))]) := by
  refine CI.intro (by decide) (Nat.le_of_ble_eq_true rfl) ?_
  intro p0 e0 s0 m0 ar0 be0 me0 c0 A0 X hr
  refine J_iload_n (pc := 0) X 1 dX10_undo_0 rfl ?_
  refine J_iconst (pc := 1) X 1 dX10_undo_1 (by decide) ?_
  refine J_bipush (pc := 2) X 30 dX10_undo_2 (by decide) ?_
  refine J_callS (pc := 4) (As := [.int n, .int 1, .int 30]) (rest := []) X mtX10_in g990 [] (kX10_in l G cI cC cZ n 1 30 ) ⟨Nat.le_of_ble_eq_true rfl, Nat.le_of_ble_eq_true rfl⟩ rfl rfl rfl (by decide) rfl rfl (Nat.le_of_ble_eq_true rfl) (Nat.zero_le _) (Nat.zero_le _) dX10_undo_4 (fun r_1 u_2 w_3 => ?_)
  try dsimp only at w_3
  subst w_3
  refine J_bif_ne (pc := 7) X 13 dX10_undo_7 (by decide) (fun c_4 => ?_) (fun c_4 => ?_)
  · skip
    have hw9 := c_4
    obtain ⟨nn, hnn1, hnn2, rfl⟩ := wIn_ex 1 30 (by decide) (by decide) c_4
    refine J_aload_n (pc := 13) X 0 dX10_undo_13 rfl ?_
    refine J_get (pc := 14) X clX10 0 15 rfl (by decide) g904 rfl dX10_undo_14 ?_
    refine J_iload_n (pc := 17) X 1 dX10_undo_17 rfl ?_
    refine J_icmp_ge (pc := 18) X 24 dX10_undo_18 (by decide) (fun c_5 => ?_) (fun c_5 => ?_)
    · have c_5 : nn ≤ dn := n_le_of (a := nn) (b := dn) (by omega) (by omega) c_5
      refine J_aload_n (pc := 24) X 0 dX10_undo_24 rfl ?_
      refine J_dup (pc := 25) X dX10_undo_25 rfl ?_
      refine J_get (pc := 26) X clX10 0 15 rfl (by decide) g904 rfl dX10_undo_26 ?_
      refine J_iload_n (pc := 29) X 1 dX10_undo_29 rfl ?_
      refine J_isub (pc := 30) X dX10_undo_30 ?_
      refine J_top (y := nI (dn - nn)) (n_sub (x := dn) (y := nn) rfl rfl (by omega) (by omega)) ?_
      refine J_put (pc := 31) X clX10 0 15 [(q, .inr (10, [.ref qtx, .int (nI ln), .int fa, .ref qlw, .ref qgp, .ref qhm, .ref qpcs, .ref qdl, .ref qdg, .ref qdh, .ref qdp, .int dr, .int tl, .ref qnw, .ref qps, .int (nI (dn - nn)), .ref qim, .ref qisd, .ref qkp, .int sd, .ref qfd, .int (nI fn), .ref qbk, .int (nI en), .int (nI at_), .int (nI wr), .int pl, .int yd, .int wy, .int pce_, .ref qal, .ref qco])), (qnw, .inl (cI, 14, .inl nw)), (qps, .inl (cI, 420, .inl ps))] rfl (by decide) g904 rfl rfl rfl (Nat.le_of_ble_eq_true rfl) rfl dX10_undo_31 ?_
      refine J_aload_n (pc := 34) X 0 dX10_undo_34 rfl ?_
      refine J_get (pc := 35) X clX10 0 14 rfl (by decide) g903 rfl dX10_undo_35 ?_
      refine J_bipush (pc := 38) X 14 dX10_undo_38 (by decide) ?_
      refine J_aload_n (pc := 40) X 0 dX10_undo_40 rfl ?_
      refine J_get (pc := 41) X clX10 0 15 rfl (by decide) g904 rfl dX10_undo_41 ?_
      refine J_imul (pc := 44) X dX10_undo_44 ?_
      refine J_top (y := nI (14 * dn - 14 * nn)) (n_mul (x := 14) (y := dn - nn) rfl rfl (by omega)) ?_
      refine J_aload_n (pc := 45) X 0 dX10_undo_45 rfl ?_
      refine J_get (pc := 46) X clX10 0 13 rfl (by decide) g902 rfl dX10_undo_46 ?_
      refine J_iconst (pc := 49) X 0 dX10_undo_49 (by decide) ?_
      refine J_callSV (pc := 50) (As := [.ref qps, .int (nI (14 * dn - 14 * nn)), .ref qnw, .int 0]) (rest := []) X mtX10_copies g1111 [2, 1] [0] [0, 2, 1] (fun u => [(q, .inr (10, [.ref qtx, .int (nI ln), .int fa, .ref qlw, .ref qgp, .ref qhm, .ref qpcs, .ref qdl, .ref qdg, .ref qdh, .ref qdp, .int dr, .int tl, .ref qnw, .ref qps, .int (nI (dn - nn)), .ref qim, .ref qisd, .ref qkp, .int sd, .ref qfd, .int (nI fn), .ref qbk, .int (nI en), .int (nI at_), .int (nI wr), .int pl, .int yd, .int wy, .int pce_, .ref qal, .ref qco])), (qnw, .inl (cI, 14, .inl u)), (qps, .inl (cI, 420, .inl ps))]) (kX10_copies l G cI cC cZ qps qnw 420 14 ps nw (14 * dn - 14 * nn) 0 (by first | assumption | omega) (by first | assumption | omega) (by first | assumption | omega) (by first | assumption | omega)) ⟨Nat.le_of_ble_eq_true rfl, Nat.le_of_ble_eq_true rfl⟩ rfl rfl rfl (by decide) (wr := [(q, .inr (10, [.ref qtx, .int (nI ln), .int fa, .ref qlw, .ref qgp, .ref qhm, .ref qpcs, .ref qdl, .ref qdg, .ref qdh, .ref qdp, .int dr, .int tl, .ref qnw, .ref qps, .int (nI (dn - nn)), .ref qim, .ref qisd, .ref qkp, .int sd, .ref qfd, .int (nI fn), .ref qbk, .int (nI en), .int (nI at_), .int (nI wr), .int pl, .int yd, .int wy, .int pce_, .ref qal, .ref qco]))]) rfl (by decide) (by decide) (fun _ => rfl) (by decide) rfl rfl (Nat.le_of_ble_eq_true rfl) (Nat.zero_le _) (Nat.zero_le _) dX10_undo_50 (fun u_7 w_8 => ?_)
      obtain ⟨fb2_u_7, rfl⟩ : ∃ z, z = u_7 := ⟨_, rfl⟩
      try dsimp only at w_8
      have hcp := w_8
      refine J_aload_n (pc := 53) X 0 dX10_undo_53 rfl ?_
      refine J_get (pc := 54) X clX10 0 13 rfl (by decide) g902 rfl dX10_undo_54 ?_
      refine J_iconst (pc := 57) X 0 dX10_undo_57 (by decide) ?_
      refine J_iald (pc := 58) X 1 0 0 rfl rfl rfl (by decide) (by decide) dX10_undo_58 ?_
      refine J_iret (pc := 59) X hr (fb2_u_7, (dn - nn)) dX10_undo_59 ?_ rfl
      have hz := undR_t hw9 (by omega) (show nn ≤ dn from by omega)
      rw [unS_t hz (by omega), if_pos hz, hcp]
      exact ⟨rfl, by rw [show 14 * dn - 14 * nn = 14 * (dn - nn) from by omega]⟩
    · have c_5 : dn < nn := n_nle_of (a := nn) (b := dn) (by omega) (by omega) c_5
      refine J_ldc (pc := 21) X g1106 dX10_undo_21 ?_
      refine J_iret (pc := 23) X hr (nw, dn) dX10_undo_23 ?_ rfl
      have hz := undR_f2 hw9 (by omega) (show dn < nn from by omega)
      rw [unS_f (by rw [hz]; decide), hz, if_neg (by decide)]
      exact ⟨rfl, rfl⟩
  · skip
    refine J_ldc (pc := 10) X g993 dX10_undo_10 ?_
    refine J_iret (pc := 12) X hr (nw, dn) dX10_undo_12 ?_ rfl
    rw [undR_f1 (by assumption), if_neg (by decide), unS_f (by rw [undR_f1 (by assumption)]; decide)]
    exact ⟨rfl, rfl⟩
set_option maxRecDepth 100000 in
set_option maxHeartbeats 600000 in
theorem kX10_keep (l : Launch) (G : va_G) (cI cC cZ : ClassId) (q : Nat) (qtx : Nat) (qlw : Nat) (qgp : Nat) (qhm : Nat) (qpcs : Nat) (qdl : Nat) (qdg : Nat) (qdh : Nat) (qdp : Nat) (qnw : Nat) (qps : Nat) (qim : Nat) (qisd : Nat) (qkp : Nat) (qfd : Nat) (qbk : Nat) (qal : Nat) (qco : Nat) (ln : Nat) (fa : Int32) (dr : Int32) (dn : Nat) (sd : Int32) (fn : Nat) (en : Nat) (at_ : Nat) (wr : Nat) (pl : Int32) (yd : Int32) (wy : Int32) (pce_ : Int32) (tl : Int32) (nw : Nat → Int32) (im : Nat → Int32) (isd : Nat → Int32) (kp : Nat → Int32) (i : Int32) : CI l G (tys3 cI cC cZ) yX10_keep cX10_keep 2 (some .int) ({ frames := 1, cells := 0, slots := 0, locals := 24 }) [.ref q, .int i] [(q, .inr (10, [.ref qtx, .int (nI ln), .int fa, .ref qlw, .ref qgp, .ref qhm, .ref qpcs, .ref qdl, .ref qdg, .ref qdh, .ref qdp, .int dr, .int tl, .ref qnw, .ref qps, .int (nI dn), .ref qim, .ref qisd, .ref qkp, .int sd, .ref qfd, .int (nI fn), .ref qbk, .int (nI en), .int (nI at_), .int (nI wr), .int pl, .int yd, .int wy, .int pce_, .ref qal, .ref qco])), (qnw, .inl (cI, 14, .inl nw)), (qim, .inl (cI, 28, .inl im)), (qisd, .inl (cI, 2, .inl isd)), (qkp, .inl (cZ, 2, .inl kp))] (S := (Nat → Int32) × (Nat → Int32) × (Nat → Int32) × Nat) (fun (r : Int32) (u : (Nat → Int32) × (Nat → Int32) × (Nat → Int32) × Nat) => r = kpR i ∧ (wIn i 0 1 → u.1 = va_cpy nw im 0 (14 * i.toNatClampNeg) 14 ∧ u.2.1 = upd isd i.toNatClampNeg sd ∧ u.2.2.1 = upd kp i.toNatClampNeg 1 ∧ u.2.2.2 = 0) ∧ (¬ wIn i 0 1 → u.1 = im ∧ u.2.1 = isd ∧ u.2.2.1 = kp ∧ u.2.2.2 = dn)) (fun (u : (Nat → Int32) × (Nat → Int32) × (Nat → Int32) × Nat) => [(q, .inr (10, [.ref qtx, .int (nI ln), .int fa, .ref qlw, .ref qgp, .ref qhm, .ref qpcs, .ref qdl, .ref qdg, .ref qdh, .ref qdp, .int dr, .int tl, .ref qnw, .ref qps, .int (nI u.2.2.2), .ref qim, .ref qisd, .ref qkp, .int sd, .ref qfd, .int (nI fn), .ref qbk, .int (nI en), .int (nI at_), .int (nI wr), .int pl, .int yd, .int wy, .int pce_, .ref qal, .ref qco])), (qnw, .inl (cI, 14, .inl nw)), (qim, .inl (cI, 28, .inl u.1)), (qisd, .inl (cI, 2, .inl u.2.1)), (qkp, .inl (cZ, 2, .inl u.2.2.1))]) := by
  refine CI.intro (by decide) (Nat.le_of_ble_eq_true rfl) ?_
  intro p0 e0 s0 m0 ar0 be0 me0 c0 A0 X hr
  refine J_iload_n (pc := 0) X 1 dX10_keep_0 rfl ?_
  refine J_iconst (pc := 1) X 0 dX10_keep_1 (by decide) ?_
  refine J_iconst (pc := 2) X 1 dX10_keep_2 (by decide) ?_
  refine J_callS (pc := 3) (As := [.int i, .int 0, .int 1]) (rest := []) X mtX10_in g990 [] (kX10_in l G cI cC cZ i 0 1 ) ⟨Nat.le_of_ble_eq_true rfl, Nat.le_of_ble_eq_true rfl⟩ rfl rfl rfl (by decide) rfl rfl (Nat.le_of_ble_eq_true rfl) (Nat.zero_le _) (Nat.zero_le _) dX10_keep_3 (fun r_1 u_2 w_3 => ?_)
  try dsimp only at w_3
  subst w_3
  refine J_bif_ne (pc := 6) X 12 dX10_keep_6 (by decide) (fun c_4 => ?_) (fun c_4 => ?_)
  · skip
    have hw9 := c_4
    obtain ⟨nn, hnn1, hnn2, rfl⟩ := wIn_ex 0 1 (by decide) (by decide) c_4
    refine J_aload_n (pc := 12) X 0 dX10_keep_12 rfl ?_
    refine J_get (pc := 13) X clX10 0 13 rfl (by decide) g902 rfl dX10_keep_13 ?_
    refine J_iconst (pc := 16) X 0 dX10_keep_16 (by decide) ?_
    refine J_aload_n (pc := 17) X 0 dX10_keep_17 rfl ?_
    refine J_get (pc := 18) X clX10 0 16 rfl (by decide) g905 rfl dX10_keep_18 ?_
    refine J_bipush (pc := 21) X 14 dX10_keep_21 (by decide) ?_
    refine J_iload_n (pc := 23) X 1 dX10_keep_23 rfl ?_
    refine J_imul (pc := 24) X dX10_keep_24 ?_
    refine J_top (y := nI (14 * nn)) (n_mul (x := 14) (y := nn) rfl rfl (by omega)) ?_
    refine J_callSV (pc := 25) (As := [.ref qnw, .int 0, .ref qim, .int (nI (14 * nn))]) (rest := []) X mtX10_copies g1111 [1, 2] [0, 3, 4] [0, 3, 4, 1, 2] (fun u => [(q, .inr (10, [.ref qtx, .int (nI ln), .int fa, .ref qlw, .ref qgp, .ref qhm, .ref qpcs, .ref qdl, .ref qdg, .ref qdh, .ref qdp, .int dr, .int tl, .ref qnw, .ref qps, .int (nI dn), .ref qim, .ref qisd, .ref qkp, .int sd, .ref qfd, .int (nI fn), .ref qbk, .int (nI en), .int (nI at_), .int (nI wr), .int pl, .int yd, .int wy, .int pce_, .ref qal, .ref qco])), (qnw, .inl (cI, 14, .inl nw)), (qim, .inl (cI, 28, .inl u)), (qisd, .inl (cI, 2, .inl isd)), (qkp, .inl (cZ, 2, .inl kp))]) (kX10_copies l G cI cC cZ qnw qim 14 28 nw im 0 (14 * nn) (by first | assumption | omega) (by first | assumption | omega) (by first | assumption | omega) (by first | assumption | omega)) ⟨Nat.le_of_ble_eq_true rfl, Nat.le_of_ble_eq_true rfl⟩ rfl rfl rfl (by decide) (wr := [(q, .inr (10, [.ref qtx, .int (nI ln), .int fa, .ref qlw, .ref qgp, .ref qhm, .ref qpcs, .ref qdl, .ref qdg, .ref qdh, .ref qdp, .int dr, .int tl, .ref qnw, .ref qps, .int (nI dn), .ref qim, .ref qisd, .ref qkp, .int sd, .ref qfd, .int (nI fn), .ref qbk, .int (nI en), .int (nI at_), .int (nI wr), .int pl, .int yd, .int wy, .int pce_, .ref qal, .ref qco])), (qisd, .inl (cI, 2, .inl isd)), (qkp, .inl (cZ, 2, .inl kp))]) rfl (by decide) (by decide) (fun _ => rfl) (by decide) rfl rfl (Nat.le_of_ble_eq_true rfl) (Nat.zero_le _) (Nat.zero_le _) dX10_keep_25 (fun u_6 w_7 => ?_)
    obtain ⟨fb2_u_6, rfl⟩ : ∃ z, z = u_6 := ⟨_, rfl⟩
    try dsimp only at w_7
    have hcp := w_7
    refine J_aload_n (pc := 28) X 0 dX10_keep_28 rfl ?_
    refine J_get (pc := 29) X clX10 0 17 rfl (by decide) g906 rfl dX10_keep_29 ?_
    refine J_iload_n (pc := 32) X 1 dX10_keep_32 rfl ?_
    refine J_aload_n (pc := 33) X 0 dX10_keep_33 rfl ?_
    refine J_get (pc := 34) X clX10 0 19 rfl (by decide) g908 rfl dX10_keep_34 ?_
    refine J_iast (pc := 37) X 3 0 nn [(q, .inr (10, [.ref qtx, .int (nI ln), .int fa, .ref qlw, .ref qgp, .ref qhm, .ref qpcs, .ref qdl, .ref qdg, .ref qdh, .ref qdp, .int dr, .int tl, .ref qnw, .ref qps, .int (nI dn), .ref qim, .ref qisd, .ref qkp, .int sd, .ref qfd, .int (nI fn), .ref qbk, .int (nI en), .int (nI at_), .int (nI wr), .int pl, .int yd, .int wy, .int pce_, .ref qal, .ref qco])), (qnw, .inl (cI, 14, .inl nw)), (qim, .inl (cI, 28, .inl fb2_u_6)), (qisd, .inl (cI, 2, .inl (upd isd nn sd))), (qkp, .inl (cZ, 2, .inl kp))] rfl rfl rfl (by omega) (by decide) rfl dX10_keep_37 ?_
    refine J_aload_n (pc := 38) X 0 dX10_keep_38 rfl ?_
    refine J_get (pc := 39) X clX10 0 18 rfl (by decide) g907 rfl dX10_keep_39 ?_
    refine J_iload_n (pc := 42) X 1 dX10_keep_42 rfl ?_
    refine J_iconst (pc := 43) X 1 dX10_keep_43 (by decide) ?_
    refine J_zast (pc := 44) X 4 2 nn [(q, .inr (10, [.ref qtx, .int (nI ln), .int fa, .ref qlw, .ref qgp, .ref qhm, .ref qpcs, .ref qdl, .ref qdg, .ref qdh, .ref qdp, .int dr, .int tl, .ref qnw, .ref qps, .int (nI dn), .ref qim, .ref qisd, .ref qkp, .int sd, .ref qfd, .int (nI fn), .ref qbk, .int (nI en), .int (nI at_), .int (nI wr), .int pl, .int yd, .int wy, .int pce_, .ref qal, .ref qco])), (qnw, .inl (cI, 14, .inl nw)), (qim, .inl (cI, 28, .inl fb2_u_6)), (qisd, .inl (cI, 2, .inl (upd isd nn sd))), (qkp, .inl (cZ, 2, .inl (upd kp nn (vp_nar .boolean 1))))] rfl rfl rfl (by omega) (by decide) rfl dX10_keep_44 ?_
    refine J_aload_n (pc := 45) X 0 dX10_keep_45 rfl ?_
    refine J_iconst (pc := 46) X 0 dX10_keep_46 (by decide) ?_
    refine J_put (pc := 47) X clX10 0 15 [(q, .inr (10, [.ref qtx, .int (nI ln), .int fa, .ref qlw, .ref qgp, .ref qhm, .ref qpcs, .ref qdl, .ref qdg, .ref qdh, .ref qdp, .int dr, .int tl, .ref qnw, .ref qps, .int 0, .ref qim, .ref qisd, .ref qkp, .int sd, .ref qfd, .int (nI fn), .ref qbk, .int (nI en), .int (nI at_), .int (nI wr), .int pl, .int yd, .int wy, .int pce_, .ref qal, .ref qco])), (qnw, .inl (cI, 14, .inl nw)), (qim, .inl (cI, 28, .inl fb2_u_6)), (qisd, .inl (cI, 2, .inl (upd isd nn sd))), (qkp, .inl (cZ, 2, .inl (upd kp nn (vp_nar .boolean 1))))] rfl (by decide) g904 rfl rfl rfl (Nat.le_of_ble_eq_true rfl) rfl dX10_keep_47 ?_
    refine J_iconst (pc := 50) X 1 dX10_keep_50 (by decide) ?_
    refine J_iret (pc := 51) X hr (fb2_u_6, (upd isd nn sd), (upd kp nn (vp_nar .boolean 1)), 0) dX10_keep_51 ?_ rfl
    refine ⟨(if_pos hw9).symm, fun _ => ⟨by rw [nI_clamp (by omega)]; exact hcp, by rw [nI_clamp (by omega)], by rw [nI_clamp (by omega)]; rfl, rfl⟩, fun h => absurd hw9 h⟩
  · skip
    refine J_ldc (pc := 9) X g1066 dX10_keep_9 ?_
    refine J_iret (pc := 11) X hr (im, isd, kp, dn) dX10_keep_11 ?_ rfl
    refine ⟨(if_neg (by assumption)).symm, fun h => absurd h (by assumption), fun _ => ⟨rfl, rfl, rfl, rfl⟩⟩
set_option maxRecDepth 100000 in
set_option maxHeartbeats 600000 in
theorem kX10_goBack (l : Launch) (G : va_G) (cI cC cZ : ClassId) (q : Nat) (qtx : Nat) (qlw : Nat) (qgp : Nat) (qhm : Nat) (qpcs : Nat) (qdl : Nat) (qdg : Nat) (qdh : Nat) (qdp : Nat) (qnw : Nat) (qps : Nat) (qim : Nat) (qisd : Nat) (qkp : Nat) (qfd : Nat) (qbk : Nat) (qal : Nat) (qco : Nat) (ln : Nat) (fa : Int32) (dr : Int32) (dn : Nat) (sd : Int32) (fn : Nat) (en : Nat) (at_ : Nat) (wr : Nat) (pl : Int32) (yd : Int32) (wy : Int32) (pce_ : Int32) (tl : Int32) (nw : Nat → Int32) (im : Nat → Int32) (isd : Nat → Int32) (kp : Nat → Int32) (i : Int32) : CI l G (tys3 cI cC cZ) yX10_goBack cX10_goBack 2 (some .int) ({ frames := 1, cells := 0, slots := 0, locals := 24 }) [.ref q, .int i] [(q, .inr (10, [.ref qtx, .int (nI ln), .int fa, .ref qlw, .ref qgp, .ref qhm, .ref qpcs, .ref qdl, .ref qdg, .ref qdh, .ref qdp, .int dr, .int tl, .ref qnw, .ref qps, .int (nI dn), .ref qim, .ref qisd, .ref qkp, .int sd, .ref qfd, .int (nI fn), .ref qbk, .int (nI en), .int (nI at_), .int (nI wr), .int pl, .int yd, .int wy, .int pce_, .ref qal, .ref qco])), (qnw, .inl (cI, 14, .inl nw)), (qim, .inl (cI, 28, .inl im)), (qisd, .inl (cI, 2, .inl isd)), (qkp, .inl (cZ, 2, .inl kp))] (S := (Nat → Int32) × Int32 × Nat) (fun (r : Int32) (u : (Nat → Int32) × Int32 × Nat) => r = bkR kp i ∧ (bkR kp i = 1 → u.1 = va_cpy im nw (14 * i.toNatClampNeg) 0 14 ∧ u.2.1 = isd i.toNatClampNeg ∧ u.2.2 = 0) ∧ (¬ bkR kp i = 1 → u.1 = nw ∧ u.2.1 = sd ∧ u.2.2 = dn)) (fun (u : (Nat → Int32) × Int32 × Nat) => [(q, .inr (10, [.ref qtx, .int (nI ln), .int fa, .ref qlw, .ref qgp, .ref qhm, .ref qpcs, .ref qdl, .ref qdg, .ref qdh, .ref qdp, .int dr, .int tl, .ref qnw, .ref qps, .int (nI u.2.2), .ref qim, .ref qisd, .ref qkp, .int u.2.1, .ref qfd, .int (nI fn), .ref qbk, .int (nI en), .int (nI at_), .int (nI wr), .int pl, .int yd, .int wy, .int pce_, .ref qal, .ref qco])), (qnw, .inl (cI, 14, .inl u.1)), (qim, .inl (cI, 28, .inl im)), (qisd, .inl (cI, 2, .inl isd)), (qkp, .inl (cZ, 2, .inl kp))]) := by
  refine CI.intro (by decide) (Nat.le_of_ble_eq_true rfl) ?_
  intro p0 e0 s0 m0 ar0 be0 me0 c0 A0 X hr
  refine J_iload_n (pc := 0) X 1 dX10_goBack_0 rfl ?_
  refine J_iconst (pc := 1) X 0 dX10_goBack_1 (by decide) ?_
  refine J_iconst (pc := 2) X 1 dX10_goBack_2 (by decide) ?_
  refine J_callS (pc := 3) (As := [.int i, .int 0, .int 1]) (rest := []) X mtX10_in g990 [] (kX10_in l G cI cC cZ i 0 1 ) ⟨Nat.le_of_ble_eq_true rfl, Nat.le_of_ble_eq_true rfl⟩ rfl rfl rfl (by decide) rfl rfl (Nat.le_of_ble_eq_true rfl) (Nat.zero_le _) (Nat.zero_le _) dX10_goBack_3 (fun r_1 u_2 w_3 => ?_)
  try dsimp only at w_3
  subst w_3
  refine J_bif_ne (pc := 6) X 12 dX10_goBack_6 (by decide) (fun c_4 => ?_) (fun c_4 => ?_)
  · skip
    have hw9 := c_4
    obtain ⟨nn, hnn1, hnn2, rfl⟩ := wIn_ex 0 1 (by decide) (by decide) c_4
    refine J_aload_n (pc := 12) X 0 dX10_goBack_12 rfl ?_
    refine J_get (pc := 13) X clX10 0 18 rfl (by decide) g907 rfl dX10_goBack_13 ?_
    refine J_iload_n (pc := 16) X 1 dX10_goBack_16 rfl ?_
    refine J_zald (pc := 17) X 4 2 nn rfl rfl rfl (by omega) (by decide) dX10_goBack_17 ?_
    refine J_if_ne (pc := 18) X 24 dX10_goBack_18 (by decide) (fun c_5 => ?_) (fun c_5 => ?_)
    · skip
      refine J_aload_n (pc := 24) X 0 dX10_goBack_24 rfl ?_
      refine J_get (pc := 25) X clX10 0 16 rfl (by decide) g905 rfl dX10_goBack_25 ?_
      refine J_bipush (pc := 28) X 14 dX10_goBack_28 (by decide) ?_
      refine J_iload_n (pc := 30) X 1 dX10_goBack_30 rfl ?_
      refine J_imul (pc := 31) X dX10_goBack_31 ?_
      refine J_top (y := nI (14 * nn)) (n_mul (x := 14) (y := nn) rfl rfl (by omega)) ?_
      refine J_aload_n (pc := 32) X 0 dX10_goBack_32 rfl ?_
      refine J_get (pc := 33) X clX10 0 13 rfl (by decide) g902 rfl dX10_goBack_33 ?_
      refine J_iconst (pc := 36) X 0 dX10_goBack_36 (by decide) ?_
      refine J_callSV (pc := 37) (As := [.ref qim, .int (nI (14 * nn)), .ref qnw, .int 0]) (rest := []) X mtX10_copies g1111 [2, 1] [0, 3, 4] [0, 4, 3, 1, 2] (fun u => [(q, .inr (10, [.ref qtx, .int (nI ln), .int fa, .ref qlw, .ref qgp, .ref qhm, .ref qpcs, .ref qdl, .ref qdg, .ref qdh, .ref qdp, .int dr, .int tl, .ref qnw, .ref qps, .int (nI dn), .ref qim, .ref qisd, .ref qkp, .int sd, .ref qfd, .int (nI fn), .ref qbk, .int (nI en), .int (nI at_), .int (nI wr), .int pl, .int yd, .int wy, .int pce_, .ref qal, .ref qco])), (qnw, .inl (cI, 14, .inl u)), (qim, .inl (cI, 28, .inl im)), (qisd, .inl (cI, 2, .inl isd)), (qkp, .inl (cZ, 2, .inl kp))]) (kX10_copies l G cI cC cZ qim qnw 28 14 im nw (14 * nn) 0 (by first | assumption | omega) (by first | assumption | omega) (by first | assumption | omega) (by first | assumption | omega)) ⟨Nat.le_of_ble_eq_true rfl, Nat.le_of_ble_eq_true rfl⟩ rfl rfl rfl (by decide) (wr := [(q, .inr (10, [.ref qtx, .int (nI ln), .int fa, .ref qlw, .ref qgp, .ref qhm, .ref qpcs, .ref qdl, .ref qdg, .ref qdh, .ref qdp, .int dr, .int tl, .ref qnw, .ref qps, .int (nI dn), .ref qim, .ref qisd, .ref qkp, .int sd, .ref qfd, .int (nI fn), .ref qbk, .int (nI en), .int (nI at_), .int (nI wr), .int pl, .int yd, .int wy, .int pce_, .ref qal, .ref qco])), (qisd, .inl (cI, 2, .inl isd)), (qkp, .inl (cZ, 2, .inl kp))]) rfl (by decide) (by decide) (fun _ => rfl) (by decide) rfl rfl (Nat.le_of_ble_eq_true rfl) (Nat.zero_le _) (Nat.zero_le _) dX10_goBack_37 (fun u_7 w_8 => ?_)
      obtain ⟨fb2_u_7, rfl⟩ : ∃ z, z = u_7 := ⟨_, rfl⟩
      try dsimp only at w_8
      have hcp := w_8
      refine J_aload_n (pc := 40) X 0 dX10_goBack_40 rfl ?_
      refine J_aload_n (pc := 41) X 0 dX10_goBack_41 rfl ?_
      refine J_get (pc := 42) X clX10 0 17 rfl (by decide) g906 rfl dX10_goBack_42 ?_
      refine J_iload_n (pc := 45) X 1 dX10_goBack_45 rfl ?_
      refine J_iald (pc := 46) X 3 0 nn rfl rfl rfl (by omega) (by decide) dX10_goBack_46 ?_
      refine J_put (pc := 47) X clX10 0 19 [(q, .inr (10, [.ref qtx, .int (nI ln), .int fa, .ref qlw, .ref qgp, .ref qhm, .ref qpcs, .ref qdl, .ref qdg, .ref qdh, .ref qdp, .int dr, .int tl, .ref qnw, .ref qps, .int (nI dn), .ref qim, .ref qisd, .ref qkp, .int (isd nn), .ref qfd, .int (nI fn), .ref qbk, .int (nI en), .int (nI at_), .int (nI wr), .int pl, .int yd, .int wy, .int pce_, .ref qal, .ref qco])), (qnw, .inl (cI, 14, .inl fb2_u_7)), (qim, .inl (cI, 28, .inl im)), (qisd, .inl (cI, 2, .inl isd)), (qkp, .inl (cZ, 2, .inl kp))] rfl (by decide) g908 rfl rfl rfl (Nat.le_of_ble_eq_true rfl) rfl dX10_goBack_47 ?_
      refine J_aload_n (pc := 50) X 0 dX10_goBack_50 rfl ?_
      refine J_iconst (pc := 51) X 0 dX10_goBack_51 (by decide) ?_
      refine J_put (pc := 52) X clX10 0 15 [(q, .inr (10, [.ref qtx, .int (nI ln), .int fa, .ref qlw, .ref qgp, .ref qhm, .ref qpcs, .ref qdl, .ref qdg, .ref qdh, .ref qdp, .int dr, .int tl, .ref qnw, .ref qps, .int 0, .ref qim, .ref qisd, .ref qkp, .int (isd nn), .ref qfd, .int (nI fn), .ref qbk, .int (nI en), .int (nI at_), .int (nI wr), .int pl, .int yd, .int wy, .int pce_, .ref qal, .ref qco])), (qnw, .inl (cI, 14, .inl fb2_u_7)), (qim, .inl (cI, 28, .inl im)), (qisd, .inl (cI, 2, .inl isd)), (qkp, .inl (cZ, 2, .inl kp))] rfl (by decide) g904 rfl rfl rfl (Nat.le_of_ble_eq_true rfl) rfl dX10_goBack_52 ?_
      refine J_iconst (pc := 55) X 1 dX10_goBack_55 (by decide) ?_
      refine J_iret (pc := 56) X hr (fb2_u_7, (isd nn), 0) dX10_goBack_56 ?_ rfl
      have hz : bkR kp (nI nn) = 1 := by rw [bkR, if_pos hw9, nI_clamp (by omega), if_neg (by assumption)]
      rw [hz, nI_clamp (by omega)]
      exact ⟨rfl, fun _ => ⟨hcp, rfl, rfl⟩, fun h => absurd rfl h⟩
    · skip
      refine J_ldc (pc := 21) X g1106 dX10_goBack_21 ?_
      refine J_iret (pc := 23) X hr (nw, sd, dn) dX10_goBack_23 ?_ rfl
      have hz : bkR kp (nI nn) = -1000000003 := by rw [bkR, if_pos hw9, nI_clamp (by omega), if_pos (by assumption)]
      rw [hz]
      exact ⟨rfl, fun h => absurd h (by decide), fun _ => ⟨rfl, rfl, rfl⟩⟩
  · skip
    refine J_ldc (pc := 9) X g1066 dX10_goBack_9 ?_
    refine J_iret (pc := 11) X hr (nw, sd, dn) dX10_goBack_11 ?_ rfl
    refine ⟨(if_neg (by assumption)).symm, fun h => absurd h (by rw [bkR, if_neg (by assumption)]; decide), fun _ => ⟨rfl, rfl, rfl⟩⟩
