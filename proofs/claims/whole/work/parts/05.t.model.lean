set_option maxRecDepth 100000 in
set_option maxHeartbeats 600000 in
theorem kX10_readsWalker (l : Launch) (G : va_G) (cI cC cZ : ClassId) (q : Nat) (qtx : Nat) (qlw : Nat) (qgp : Nat) (qhm : Nat) (qpcs : Nat) (qdl : Nat) (qdg : Nat) (qdh : Nat) (qdp : Nat) (qnw : Nat) (qps : Nat) (qim : Nat) (qisd : Nat) (qkp : Nat) (qfd : Nat) (qbk : Nat) (qal : Nat) (qco : Nat) (ln : Nat) (fa : Int32) (dr : Int32) (dn : Nat) (sd : Int32) (fn : Nat) (en : Nat) (at_ : Nat) (pl : Int32) (yd : Int32) (wy : Int32) (pce_ : Int32) (tl : Int32) (tx : Nat → Int32) (dl : Nat → Int32) (dh : Nat → Int32) (dp : Nat → Int32) (g : Nat) (wk : Nat) (hln : ln ≤ 200) (hat : at_ < ln) (hd3 : dl 3 = nI g) (hg : g ≤ 8) (hd4 : dl 4 = nI wk) (hwk : wk ≤ 4) : CV l G (tys3 cI cC cZ) yX10_readsWalker cX10_readsWalker 2 ({ frames := 3, cells := 0, slots := 0, locals := 64 }) [.ref q] [(q, .inr (10, [.ref qtx, .int (nI ln), .int fa, .ref qlw, .ref qgp, .ref qhm, .ref qpcs, .ref qdl, .ref qdg, .ref qdh, .ref qdp, .int dr, .int tl, .ref qnw, .ref qps, .int (nI dn), .ref qim, .ref qisd, .ref qkp, .int sd, .ref qfd, .int (nI fn), .ref qbk, .int (nI en), .int (nI at_), .int 0, .int pl, .int yd, .int wy, .int pce_, .ref qal, .ref qco])), (qtx, .inl (cI, 200, .inl tx)), (qdl, .inl (cI, 5, .inl dl)), (qdh, .inl (cI, 4, .inl dh)), (qdp, .inl (cI, 4, .inl dp))] (S := Nat × Nat × Nat × (Nat → Int32) × (Nat → Int32) × (Nat → Int32)) (fun (u : Nat × Nat × Nat × (Nat → Int32) × (Nat → Int32) × (Nat → Int32)) => (u.1, u.2.1, u.2.2.1, u.2.2.2.1, u.2.2.2.2.1) = rdWalk tx ln at_ g wk dh dp ∧ u.2.2.2.2.2 = upd dl 4 (nI u.2.2.1) ∧ u.1 ≤ ln ∧ u.2.1 ≤ 4 ∧ u.2.2.1 ≤ 4) (fun (u : Nat × Nat × Nat × (Nat → Int32) × (Nat → Int32) × (Nat → Int32)) => [(q, .inr (10, [.ref qtx, .int (nI ln), .int fa, .ref qlw, .ref qgp, .ref qhm, .ref qpcs, .ref qdl, .ref qdg, .ref qdh, .ref qdp, .int dr, .int tl, .ref qnw, .ref qps, .int (nI dn), .ref qim, .ref qisd, .ref qkp, .int sd, .ref qfd, .int (nI fn), .ref qbk, .int (nI en), .int (nI u.1), .int (nI u.2.1), .int pl, .int yd, .int wy, .int pce_, .ref qal, .ref qco])), (qtx, .inl (cI, 200, .inl tx)), (qdl, .inl (cI, 5, .inl u.2.2.2.2.2)), (qdh, .inl (cI, 4, .inl u.2.2.2.1)), (qdp, .inl (cI, 4, .inl u.2.2.2.2.1))]) := by
  refine CV.intro (by decide) (Nat.le_of_ble_eq_true rfl) ?_
  intro p0 e0 s0 m0 ar0 be0 me0 c0 A0 X hr
  refine J_aload_n (pc := 0) X 0 dX10_readsWalker_0 rfl ?_
  refine J_get (pc := 1) X clX10 0 7 rfl (by decide) g896 rfl dX10_readsWalker_1 ?_
  refine J_iconst (pc := 4) X 4 dX10_readsWalker_4 (by decide) ?_
  refine J_iald (pc := 5) X 2 0 4 rfl rfl rfl (by decide) (by decide) dX10_readsWalker_5 ?_
  refine J_top (y := nI wk) hd4 ?_
  refine J_istore_n (pc := 6) X [(1, .int (nI wk)), (0, .ref q)] dX10_readsWalker_6 (by decide) rfl ?_
  refine J_iload_n (pc := 7) X 0 dX10_readsWalker_7 rfl ?_
  refine J_iconst (pc := 8) X 4 dX10_readsWalker_8 (by decide) ?_
  refine J_icmp_ne (pc := 9) X 18 dX10_readsWalker_9 (by decide) (fun c_1 => ?_) (fun c_1 => ?_)
  · have c_1 : ¬ wk = 4 := n_ne_of (a := wk) (b := 4) (by omega) (by omega) c_1
    refine J_aload_n (pc := 18) X 1 dX10_readsWalker_18 rfl ?_
    refine J_dup (pc := 19) X dX10_readsWalker_19 rfl ?_
    refine J_get (pc := 20) X clX10 0 24 rfl (by decide) g913 rfl dX10_readsWalker_20 ?_
    refine J_iconst (pc := 23) X 1 dX10_readsWalker_23 (by decide) ?_
    refine J_iadd (pc := 24) X dX10_readsWalker_24 ?_
    refine J_top (y := nI (at_ + 1)) (n_add (x := at_) (y := 1) rfl rfl (by omega)) ?_
    refine J_put (pc := 25) X clX10 0 24 [(q, .inr (10, [.ref qtx, .int (nI ln), .int fa, .ref qlw, .ref qgp, .ref qhm, .ref qpcs, .ref qdl, .ref qdg, .ref qdh, .ref qdp, .int dr, .int tl, .ref qnw, .ref qps, .int (nI dn), .ref qim, .ref qisd, .ref qkp, .int sd, .ref qfd, .int (nI fn), .ref qbk, .int (nI en), .int (nI (at_ + 1)), .int 0, .int pl, .int yd, .int wy, .int pce_, .ref qal, .ref qco])), (qtx, .inl (cI, 200, .inl tx)), (qdl, .inl (cI, 5, .inl dl)), (qdh, .inl (cI, 4, .inl dh)), (qdp, .inl (cI, 4, .inl dp))] rfl (by decide) g913 rfl rfl rfl (Nat.le_of_ble_eq_true rfl) rfl dX10_readsWalker_25 ?_
    refine J_aload_n (pc := 28) X 1 dX10_readsWalker_28 rfl ?_
    refine J_get (pc := 29) X clX10 0 9 rfl (by decide) g898 rfl dX10_readsWalker_29 ?_
    refine J_iload_n (pc := 32) X 0 dX10_readsWalker_32 rfl ?_
    refine J_aload_n (pc := 33) X 1 dX10_readsWalker_33 rfl ?_
    refine J_iconst (pc := 34) X 0 dX10_readsWalker_34 (by decide) ?_
    refine J_aload_n (pc := 35) X 1 dX10_readsWalker_35 rfl ?_
    refine J_get (pc := 36) X clX10 0 7 rfl (by decide) g896 rfl dX10_readsWalker_36 ?_
    refine J_iconst (pc := 39) X 3 dX10_readsWalker_39 (by decide) ?_
    refine J_iald (pc := 40) X 2 0 3 rfl rfl rfl (by decide) (by decide) dX10_readsWalker_40 ?_
    refine J_top (y := nI g) hd3 ?_
    refine J_if_ne (pc := 41) X 48 dX10_readsWalker_41 (by decide) (fun c_2 => ?_) (fun c_2 => ?_)
    · have c_2 : ¬ g = 0 := n_ne_of (a := g) (b := 0) (by omega) (by omega) c_2
      refine J_aload_n (pc := 48) X 1 dX10_readsWalker_48 rfl ?_
      refine J_get (pc := 49) X clX10 0 7 rfl (by decide) g896 rfl dX10_readsWalker_49 ?_
      refine J_iconst (pc := 52) X 3 dX10_readsWalker_52 (by decide) ?_
      refine J_iald (pc := 53) X 2 0 3 rfl rfl rfl (by decide) (by decide) dX10_readsWalker_53 ?_
      refine J_top (y := nI g) hd3 ?_
      refine J_callI (pc := 54) (As := [.int 0, .int (nI g)]) (rest := [.int (nI wk), .ref qdh]) X mtX10_number g1019 [0, 1] [2, 3, 4] [3, 4, 0, 1, 2] 0 (fun u => [(q, .inr (10, [.ref qtx, .int (nI ln), .int fa, .ref qlw, .ref qgp, .ref qhm, .ref qpcs, .ref qdl, .ref qdg, .ref qdh, .ref qdp, .int dr, .int tl, .ref qnw, .ref qps, .int (nI dn), .ref qim, .ref qisd, .ref qkp, .int sd, .ref qfd, .int (nI fn), .ref qbk, .int (nI en), .int (nI u.1), .int (nI u.2), .int pl, .int yd, .int wy, .int pce_, .ref qal, .ref qco])), (qtx, .inl (cI, 200, .inl tx)), (qdl, .inl (cI, 5, .inl dl)), (qdh, .inl (cI, 4, .inl dh)), (qdp, .inl (cI, 4, .inl dp))]) (kX10_number l G cI cC cZ q qtx qlw qgp qhm qpcs qdl qdg qdh qdp qnw qps qim qisd qkp qfd qbk qal qco ln fa dr dn sd fn en (at_ + 1) 0 pl yd wy pce_ tl tx 0 (nI g) (by first | assumption | omega) (by first | assumption | omega) (by first | assumption | omega)) ⟨Nat.le_of_ble_eq_true rfl, Nat.le_of_ble_eq_true rfl⟩ rfl rfl rfl (by decide) (wr := [(qdl, .inl (cI, 5, .inl dl)), (qdh, .inl (cI, 4, .inl dh)), (qdp, .inl (cI, 4, .inl dp))]) rfl (by decide) (by decide) (fun _ => rfl) (by decide) rfl rfl rfl rfl rfl (Nat.le_of_ble_eq_true rfl) (Nat.zero_le _) (Nat.zero_le _) dX10_readsWalker_54 (fun v1 u_3 w_4 => ?_)
      obtain ⟨a1, e1⟩ := u_3
      try dsimp only at w_4
      obtain ⟨hn1, hb1, hc1⟩ := w_4
      refine J_iast (pc := 57) X 3 0 wk [(q, .inr (10, [.ref qtx, .int (nI ln), .int fa, .ref qlw, .ref qgp, .ref qhm, .ref qpcs, .ref qdl, .ref qdg, .ref qdh, .ref qdp, .int dr, .int tl, .ref qnw, .ref qps, .int (nI dn), .ref qim, .ref qisd, .ref qkp, .int sd, .ref qfd, .int (nI fn), .ref qbk, .int (nI en), .int (nI a1), .int (nI e1), .int pl, .int yd, .int wy, .int pce_, .ref qal, .ref qco])), (qtx, .inl (cI, 200, .inl tx)), (qdl, .inl (cI, 5, .inl dl)), (qdh, .inl (cI, 4, .inl (upd dh wk v1))), (qdp, .inl (cI, 4, .inl dp))] rfl rfl rfl (by omega) (by decide) rfl dX10_readsWalker_57 ?_
      refine J_aload_n (pc := 58) X 1 dX10_readsWalker_58 rfl ?_
      refine J_get (pc := 59) X clX10 0 10 rfl (by decide) g899 rfl dX10_readsWalker_59 ?_
      refine J_iload_n (pc := 62) X 0 dX10_readsWalker_62 rfl ?_
      refine J_aload_n (pc := 63) X 1 dX10_readsWalker_63 rfl ?_
      refine J_iconst (pc := 64) X 1 dX10_readsWalker_64 (by decide) ?_
      refine J_bipush (pc := 65) X 40 dX10_readsWalker_65 (by decide) ?_
      refine J_callI (pc := 67) (As := [.int 1, .int 40]) (rest := [.int (nI wk), .ref qdp]) X mtX10_number g1019 [0, 1] [2, 3, 4] [3, 4, 0, 1, 2] 0 (fun u => [(q, .inr (10, [.ref qtx, .int (nI ln), .int fa, .ref qlw, .ref qgp, .ref qhm, .ref qpcs, .ref qdl, .ref qdg, .ref qdh, .ref qdp, .int dr, .int tl, .ref qnw, .ref qps, .int (nI dn), .ref qim, .ref qisd, .ref qkp, .int sd, .ref qfd, .int (nI fn), .ref qbk, .int (nI en), .int (nI u.1), .int (nI u.2), .int pl, .int yd, .int wy, .int pce_, .ref qal, .ref qco])), (qtx, .inl (cI, 200, .inl tx)), (qdl, .inl (cI, 5, .inl dl)), (qdh, .inl (cI, 4, .inl (upd dh wk v1))), (qdp, .inl (cI, 4, .inl dp))]) (kX10_number l G cI cC cZ q qtx qlw qgp qhm qpcs qdl qdg qdh qdp qnw qps qim qisd qkp qfd qbk qal qco ln fa dr dn sd fn en a1 e1 pl yd wy pce_ tl tx 1 40 (by first | assumption | omega) (by first | assumption | omega) (by first | assumption | omega)) ⟨Nat.le_of_ble_eq_true rfl, Nat.le_of_ble_eq_true rfl⟩ rfl rfl rfl (by decide) (wr := [(qdl, .inl (cI, 5, .inl dl)), (qdh, .inl (cI, 4, .inl (upd dh wk v1))), (qdp, .inl (cI, 4, .inl dp))]) rfl (by decide) (by decide) (fun _ => rfl) (by decide) rfl rfl rfl rfl rfl (Nat.le_of_ble_eq_true rfl) (Nat.zero_le _) (Nat.zero_le _) dX10_readsWalker_67 (fun v2 u_5 w_6 => ?_)
      obtain ⟨a2, e2⟩ := u_5
      try dsimp only at w_6
      obtain ⟨hn2, hb2, hc2⟩ := w_6
      refine J_iast (pc := 70) X 4 0 wk [(q, .inr (10, [.ref qtx, .int (nI ln), .int fa, .ref qlw, .ref qgp, .ref qhm, .ref qpcs, .ref qdl, .ref qdg, .ref qdh, .ref qdp, .int dr, .int tl, .ref qnw, .ref qps, .int (nI dn), .ref qim, .ref qisd, .ref qkp, .int sd, .ref qfd, .int (nI fn), .ref qbk, .int (nI en), .int (nI a2), .int (nI e2), .int pl, .int yd, .int wy, .int pce_, .ref qal, .ref qco])), (qtx, .inl (cI, 200, .inl tx)), (qdl, .inl (cI, 5, .inl dl)), (qdh, .inl (cI, 4, .inl (upd dh wk v1))), (qdp, .inl (cI, 4, .inl (upd dp wk v2)))] rfl rfl rfl (by omega) (by decide) rfl dX10_readsWalker_70 ?_
      refine J_aload_n (pc := 71) X 1 dX10_readsWalker_71 rfl ?_
      refine J_bipush (pc := 72) X 59 dX10_readsWalker_72 (by decide) ?_
      refine J_callV (pc := 74) (As := [.int 59]) (rest := []) X mtX10_word g1023 [0, 1] [2, 3, 4] [3, 4, 0, 1, 2] 0 (fun u => [(q, .inr (10, [.ref qtx, .int (nI ln), .int fa, .ref qlw, .ref qgp, .ref qhm, .ref qpcs, .ref qdl, .ref qdg, .ref qdh, .ref qdp, .int dr, .int tl, .ref qnw, .ref qps, .int (nI dn), .ref qim, .ref qisd, .ref qkp, .int sd, .ref qfd, .int (nI fn), .ref qbk, .int (nI en), .int (nI u.1), .int (nI u.2), .int pl, .int yd, .int wy, .int pce_, .ref qal, .ref qco])), (qtx, .inl (cI, 200, .inl tx)), (qdl, .inl (cI, 5, .inl dl)), (qdh, .inl (cI, 4, .inl (upd dh wk v1))), (qdp, .inl (cI, 4, .inl (upd dp wk v2)))]) (kX10_word l G cI cC cZ q qtx qlw qgp qhm qpcs qdl qdg qdh qdp qnw qps qim qisd qkp qfd qbk qal qco ln fa dr dn sd fn en a2 e2 pl yd wy pce_ tl tx 59 (by first | assumption | omega) (by first | assumption | omega) (by first | assumption | omega) (by decide)) ⟨Nat.le_of_ble_eq_true rfl, Nat.le_of_ble_eq_true rfl⟩ rfl rfl rfl (by decide) (wr := [(qdl, .inl (cI, 5, .inl dl)), (qdh, .inl (cI, 4, .inl (upd dh wk v1))), (qdp, .inl (cI, 4, .inl (upd dp wk v2)))]) rfl (by decide) (by decide) (fun _ => rfl) (by decide) rfl rfl rfl rfl rfl (Nat.le_of_ble_eq_true rfl) (Nat.zero_le _) (Nat.zero_le _) dX10_readsWalker_74 (fun u_8 w_9 => ?_)
      obtain ⟨a4, e4⟩ := u_8
      try dsimp only at w_9
      obtain ⟨hn4, hb4, hc4⟩ := w_9
      refine J_aload_n (pc := 77) X 1 dX10_readsWalker_77 rfl ?_
      refine J_get (pc := 78) X clX10 0 7 rfl (by decide) g896 rfl dX10_readsWalker_78 ?_
      refine J_iconst (pc := 81) X 4 dX10_readsWalker_81 (by decide) ?_
      refine J_dup2 (pc := 82) X dX10_readsWalker_82 rfl rfl ?_
      refine J_iald (pc := 83) X 2 0 4 rfl rfl rfl (by decide) (by decide) dX10_readsWalker_83 ?_
      refine J_top (y := nI wk) hd4 ?_
      refine J_iconst (pc := 84) X 1 dX10_readsWalker_84 (by decide) ?_
      refine J_iadd (pc := 85) X dX10_readsWalker_85 ?_
      refine J_top (y := nI (wk + 1)) (n_add (x := wk) (y := 1) rfl rfl (by omega)) ?_
      refine J_iast (pc := 86) X 2 0 4 [(q, .inr (10, [.ref qtx, .int (nI ln), .int fa, .ref qlw, .ref qgp, .ref qhm, .ref qpcs, .ref qdl, .ref qdg, .ref qdh, .ref qdp, .int dr, .int tl, .ref qnw, .ref qps, .int (nI dn), .ref qim, .ref qisd, .ref qkp, .int sd, .ref qfd, .int (nI fn), .ref qbk, .int (nI en), .int (nI a4), .int (nI e4), .int pl, .int yd, .int wy, .int pce_, .ref qal, .ref qco])), (qtx, .inl (cI, 200, .inl tx)), (qdl, .inl (cI, 5, .inl (upd dl 4 (nI (wk + 1))))), (qdh, .inl (cI, 4, .inl (upd dh wk v1))), (qdp, .inl (cI, 4, .inl (upd dp wk v2)))] rfl rfl rfl (by decide) (by decide) rfl dX10_readsWalker_86 ?_
      refine J_vret (pc := 87) X hr (a4, e4, (wk + 1), (upd dh wk v1), (upd dp wk v2), (upd dl 4 (nI (wk + 1)))) dX10_readsWalker_87 ?_ rfl
      exact ⟨rdWalk_t (by omega) (by first | exact (if_pos (by omega)).symm | exact (if_neg (by omega)).symm) hn1 hn2 hn4, rfl, by omega, by omega, (show wk + 1 ≤ 4 from by omega)⟩
    · have c_2 : g = 0 := n_eq_of (a := g) (b := 0) (by omega) (by omega) c_2
      refine J_iconst (pc := 44) X (-1) dX10_readsWalker_44 (by decide) ?_
      refine J_goto (pc := 45) X 54 dX10_readsWalker_45 (by decide) ?_
      refine J_callI (pc := 54) (As := [.int 0, .int (-1)]) (rest := [.int (nI wk), .ref qdh]) X mtX10_number g1019 [0, 1] [2, 3, 4] [3, 4, 0, 1, 2] 0 (fun u => [(q, .inr (10, [.ref qtx, .int (nI ln), .int fa, .ref qlw, .ref qgp, .ref qhm, .ref qpcs, .ref qdl, .ref qdg, .ref qdh, .ref qdp, .int dr, .int tl, .ref qnw, .ref qps, .int (nI dn), .ref qim, .ref qisd, .ref qkp, .int sd, .ref qfd, .int (nI fn), .ref qbk, .int (nI en), .int (nI u.1), .int (nI u.2), .int pl, .int yd, .int wy, .int pce_, .ref qal, .ref qco])), (qtx, .inl (cI, 200, .inl tx)), (qdl, .inl (cI, 5, .inl dl)), (qdh, .inl (cI, 4, .inl dh)), (qdp, .inl (cI, 4, .inl dp))]) (kX10_number l G cI cC cZ q qtx qlw qgp qhm qpcs qdl qdg qdh qdp qnw qps qim qisd qkp qfd qbk qal qco ln fa dr dn sd fn en (at_ + 1) 0 pl yd wy pce_ tl tx 0 (-1) (by first | assumption | omega) (by first | assumption | omega) (by first | assumption | omega)) ⟨Nat.le_of_ble_eq_true rfl, Nat.le_of_ble_eq_true rfl⟩ rfl rfl rfl (by decide) (wr := [(qdl, .inl (cI, 5, .inl dl)), (qdh, .inl (cI, 4, .inl dh)), (qdp, .inl (cI, 4, .inl dp))]) rfl (by decide) (by decide) (fun _ => rfl) (by decide) rfl rfl rfl rfl rfl (Nat.le_of_ble_eq_true rfl) (Nat.zero_le _) (Nat.zero_le _) dX10_readsWalker_54 (fun v1 u_10 w_11 => ?_)
      obtain ⟨a1, e1⟩ := u_10
      try dsimp only at w_11
      obtain ⟨hn1, hb1, hc1⟩ := w_11
      refine J_iast (pc := 57) X 3 0 wk [(q, .inr (10, [.ref qtx, .int (nI ln), .int fa, .ref qlw, .ref qgp, .ref qhm, .ref qpcs, .ref qdl, .ref qdg, .ref qdh, .ref qdp, .int dr, .int tl, .ref qnw, .ref qps, .int (nI dn), .ref qim, .ref qisd, .ref qkp, .int sd, .ref qfd, .int (nI fn), .ref qbk, .int (nI en), .int (nI a1), .int (nI e1), .int pl, .int yd, .int wy, .int pce_, .ref qal, .ref qco])), (qtx, .inl (cI, 200, .inl tx)), (qdl, .inl (cI, 5, .inl dl)), (qdh, .inl (cI, 4, .inl (upd dh wk v1))), (qdp, .inl (cI, 4, .inl dp))] rfl rfl rfl (by omega) (by decide) rfl dX10_readsWalker_57 ?_
      refine J_aload_n (pc := 58) X 1 dX10_readsWalker_58 rfl ?_
      refine J_get (pc := 59) X clX10 0 10 rfl (by decide) g899 rfl dX10_readsWalker_59 ?_
      refine J_iload_n (pc := 62) X 0 dX10_readsWalker_62 rfl ?_
      refine J_aload_n (pc := 63) X 1 dX10_readsWalker_63 rfl ?_
      refine J_iconst (pc := 64) X 1 dX10_readsWalker_64 (by decide) ?_
      refine J_bipush (pc := 65) X 40 dX10_readsWalker_65 (by decide) ?_
      refine J_callI (pc := 67) (As := [.int 1, .int 40]) (rest := [.int (nI wk), .ref qdp]) X mtX10_number g1019 [0, 1] [2, 3, 4] [3, 4, 0, 1, 2] 0 (fun u => [(q, .inr (10, [.ref qtx, .int (nI ln), .int fa, .ref qlw, .ref qgp, .ref qhm, .ref qpcs, .ref qdl, .ref qdg, .ref qdh, .ref qdp, .int dr, .int tl, .ref qnw, .ref qps, .int (nI dn), .ref qim, .ref qisd, .ref qkp, .int sd, .ref qfd, .int (nI fn), .ref qbk, .int (nI en), .int (nI u.1), .int (nI u.2), .int pl, .int yd, .int wy, .int pce_, .ref qal, .ref qco])), (qtx, .inl (cI, 200, .inl tx)), (qdl, .inl (cI, 5, .inl dl)), (qdh, .inl (cI, 4, .inl (upd dh wk v1))), (qdp, .inl (cI, 4, .inl dp))]) (kX10_number l G cI cC cZ q qtx qlw qgp qhm qpcs qdl qdg qdh qdp qnw qps qim qisd qkp qfd qbk qal qco ln fa dr dn sd fn en a1 e1 pl yd wy pce_ tl tx 1 40 (by first | assumption | omega) (by first | assumption | omega) (by first | assumption | omega)) ⟨Nat.le_of_ble_eq_true rfl, Nat.le_of_ble_eq_true rfl⟩ rfl rfl rfl (by decide) (wr := [(qdl, .inl (cI, 5, .inl dl)), (qdh, .inl (cI, 4, .inl (upd dh wk v1))), (qdp, .inl (cI, 4, .inl dp))]) rfl (by decide) (by decide) (fun _ => rfl) (by decide) rfl rfl rfl rfl rfl (Nat.le_of_ble_eq_true rfl) (Nat.zero_le _) (Nat.zero_le _) dX10_readsWalker_67 (fun v2 u_12 w_13 => ?_)
      obtain ⟨a2, e2⟩ := u_12
      try dsimp only at w_13
      obtain ⟨hn2, hb2, hc2⟩ := w_13
      refine J_iast (pc := 70) X 4 0 wk [(q, .inr (10, [.ref qtx, .int (nI ln), .int fa, .ref qlw, .ref qgp, .ref qhm, .ref qpcs, .ref qdl, .ref qdg, .ref qdh, .ref qdp, .int dr, .int tl, .ref qnw, .ref qps, .int (nI dn), .ref qim, .ref qisd, .ref qkp, .int sd, .ref qfd, .int (nI fn), .ref qbk, .int (nI en), .int (nI a2), .int (nI e2), .int pl, .int yd, .int wy, .int pce_, .ref qal, .ref qco])), (qtx, .inl (cI, 200, .inl tx)), (qdl, .inl (cI, 5, .inl dl)), (qdh, .inl (cI, 4, .inl (upd dh wk v1))), (qdp, .inl (cI, 4, .inl (upd dp wk v2)))] rfl rfl rfl (by omega) (by decide) rfl dX10_readsWalker_70 ?_
      refine J_aload_n (pc := 71) X 1 dX10_readsWalker_71 rfl ?_
      refine J_bipush (pc := 72) X 59 dX10_readsWalker_72 (by decide) ?_
      refine J_callV (pc := 74) (As := [.int 59]) (rest := []) X mtX10_word g1023 [0, 1] [2, 3, 4] [3, 4, 0, 1, 2] 0 (fun u => [(q, .inr (10, [.ref qtx, .int (nI ln), .int fa, .ref qlw, .ref qgp, .ref qhm, .ref qpcs, .ref qdl, .ref qdg, .ref qdh, .ref qdp, .int dr, .int tl, .ref qnw, .ref qps, .int (nI dn), .ref qim, .ref qisd, .ref qkp, .int sd, .ref qfd, .int (nI fn), .ref qbk, .int (nI en), .int (nI u.1), .int (nI u.2), .int pl, .int yd, .int wy, .int pce_, .ref qal, .ref qco])), (qtx, .inl (cI, 200, .inl tx)), (qdl, .inl (cI, 5, .inl dl)), (qdh, .inl (cI, 4, .inl (upd dh wk v1))), (qdp, .inl (cI, 4, .inl (upd dp wk v2)))]) (kX10_word l G cI cC cZ q qtx qlw qgp qhm qpcs qdl qdg qdh qdp qnw qps qim qisd qkp qfd qbk qal qco ln fa dr dn sd fn en a2 e2 pl yd wy pce_ tl tx 59 (by first | assumption | omega) (by first | assumption | omega) (by first | assumption | omega) (by decide)) ⟨Nat.le_of_ble_eq_true rfl, Nat.le_of_ble_eq_true rfl⟩ rfl rfl rfl (by decide) (wr := [(qdl, .inl (cI, 5, .inl dl)), (qdh, .inl (cI, 4, .inl (upd dh wk v1))), (qdp, .inl (cI, 4, .inl (upd dp wk v2)))]) rfl (by decide) (by decide) (fun _ => rfl) (by decide) rfl rfl rfl rfl rfl (Nat.le_of_ble_eq_true rfl) (Nat.zero_le _) (Nat.zero_le _) dX10_readsWalker_74 (fun u_15 w_16 => ?_)
      obtain ⟨a4, e4⟩ := u_15
      try dsimp only at w_16
      obtain ⟨hn4, hb4, hc4⟩ := w_16
      refine J_aload_n (pc := 77) X 1 dX10_readsWalker_77 rfl ?_
      refine J_get (pc := 78) X clX10 0 7 rfl (by decide) g896 rfl dX10_readsWalker_78 ?_
      refine J_iconst (pc := 81) X 4 dX10_readsWalker_81 (by decide) ?_
      refine J_dup2 (pc := 82) X dX10_readsWalker_82 rfl rfl ?_
      refine J_iald (pc := 83) X 2 0 4 rfl rfl rfl (by decide) (by decide) dX10_readsWalker_83 ?_
      refine J_top (y := nI wk) hd4 ?_
      refine J_iconst (pc := 84) X 1 dX10_readsWalker_84 (by decide) ?_
      refine J_iadd (pc := 85) X dX10_readsWalker_85 ?_
      refine J_top (y := nI (wk + 1)) (n_add (x := wk) (y := 1) rfl rfl (by omega)) ?_
      refine J_iast (pc := 86) X 2 0 4 [(q, .inr (10, [.ref qtx, .int (nI ln), .int fa, .ref qlw, .ref qgp, .ref qhm, .ref qpcs, .ref qdl, .ref qdg, .ref qdh, .ref qdp, .int dr, .int tl, .ref qnw, .ref qps, .int (nI dn), .ref qim, .ref qisd, .ref qkp, .int sd, .ref qfd, .int (nI fn), .ref qbk, .int (nI en), .int (nI a4), .int (nI e4), .int pl, .int yd, .int wy, .int pce_, .ref qal, .ref qco])), (qtx, .inl (cI, 200, .inl tx)), (qdl, .inl (cI, 5, .inl (upd dl 4 (nI (wk + 1))))), (qdh, .inl (cI, 4, .inl (upd dh wk v1))), (qdp, .inl (cI, 4, .inl (upd dp wk v2)))] rfl rfl rfl (by decide) (by decide) rfl dX10_readsWalker_86 ?_
      refine J_vret (pc := 87) X hr (a4, e4, (wk + 1), (upd dh wk v1), (upd dp wk v2), (upd dl 4 (nI (wk + 1)))) dX10_readsWalker_87 ?_ rfl
      exact ⟨rdWalk_t (by omega) (by first | exact (if_pos (by omega)).symm | exact (if_neg (by omega)).symm) hn1 hn2 hn4, rfl, by omega, by omega, (show wk + 1 ≤ 4 from by omega)⟩
  · have c_1 : wk = 4 := n_eq_of (a := wk) (b := 4) (by omega) (by omega) c_1
    refine J_aload_n (pc := 12) X 1 dX10_readsWalker_12 rfl ?_
    refine J_iconst (pc := 13) X 3 dX10_readsWalker_13 (by decide) ?_
    refine J_callV (pc := 14) (As := [.int 3]) (rest := []) X mtX10_fails g1015 [0] [1, 2, 3, 4] [4, 0, 1, 2, 3] 0 (fun u => [(q, .inr (10, [.ref qtx, .int (nI ln), .int fa, .ref qlw, .ref qgp, .ref qhm, .ref qpcs, .ref qdl, .ref qdg, .ref qdh, .ref qdp, .int dr, .int tl, .ref qnw, .ref qps, .int (nI dn), .ref qim, .ref qisd, .ref qkp, .int sd, .ref qfd, .int (nI fn), .ref qbk, .int (nI en), .int (nI at_), .int (nI u), .int pl, .int yd, .int wy, .int pce_, .ref qal, .ref qco])), (qtx, .inl (cI, 200, .inl tx)), (qdl, .inl (cI, 5, .inl dl)), (qdh, .inl (cI, 4, .inl dh)), (qdp, .inl (cI, 4, .inl dp))]) (kX10_fails l G cI cC cZ q qtx qlw qgp qhm qpcs qdl qdg qdh qdp qnw qps qim qisd qkp qfd qbk qal qco ln fa dr dn sd fn en at_ 0 pl yd wy pce_ tl 3 (by first | assumption | omega) (by first | assumption | omega)) ⟨Nat.le_of_ble_eq_true rfl, Nat.le_of_ble_eq_true rfl⟩ rfl rfl rfl (by decide) (wr := [(qtx, .inl (cI, 200, .inl tx)), (qdl, .inl (cI, 5, .inl dl)), (qdh, .inl (cI, 4, .inl dh)), (qdp, .inl (cI, 4, .inl dp))]) rfl (by decide) (by decide) (fun _ => rfl) (by decide) rfl rfl rfl rfl rfl (Nat.le_of_ble_eq_true rfl) (Nat.zero_le _) (Nat.zero_le _) dX10_readsWalker_14 (fun u_18 w_19 => ?_)
    obtain ⟨wr2, rfl⟩ : ∃ z, z = u_18 := ⟨_, rfl⟩
    try dsimp only at w_19
    have hfw := w_19
    refine J_vret (pc := 17) X hr (at_, wr2, wk, dh, dp, dl) dX10_readsWalker_17 ?_ rfl
    have hw3 : wr2 = 3 := by omega
    subst hw3
    exact ⟨(if_pos (by omega)).symm, by rw [← hd4]; exact (upd_id).symm, Nat.le_of_lt hat, Nat.le_of_ble_eq_true rfl, by omega⟩
set_option maxRecDepth 100000 in
set_option maxHeartbeats 600000 in
theorem kX10_readsRope (l : Launch) (G : va_G) (cI cC cZ : ClassId) (q : Nat) (qtx : Nat) (qlw : Nat) (qgp : Nat) (qhm : Nat) (qpcs : Nat) (qdl : Nat) (qdg : Nat) (qdh : Nat) (qdp : Nat) (qnw : Nat) (qps : Nat) (qim : Nat) (qisd : Nat) (qkp : Nat) (qfd : Nat) (qbk : Nat) (qal : Nat) (qco : Nat) (ln : Nat) (fa : Int32) (dr : Int32) (dn : Nat) (sd : Int32) (fn : Nat) (en : Nat) (at_ : Nat) (pl : Int32) (yd : Int32) (wy : Int32) (pce_ : Int32) (tl : Int32) (tx : Nat → Int32) (dl : Nat → Int32) (g : Nat) (hln : ln ≤ 200) (hat : at_ < ln) (hd3 : dl 3 = nI g) (hg : g ≤ 8) : CV l G (tys3 cI cC cZ) yX10_readsRope cX10_readsRope 3 ({ frames := 3, cells := 0, slots := 0, locals := 64 }) [.ref q] [(q, .inr (10, [.ref qtx, .int (nI ln), .int fa, .ref qlw, .ref qgp, .ref qhm, .ref qpcs, .ref qdl, .ref qdg, .ref qdh, .ref qdp, .int dr, .int tl, .ref qnw, .ref qps, .int (nI dn), .ref qim, .ref qisd, .ref qkp, .int sd, .ref qfd, .int (nI fn), .ref qbk, .int (nI en), .int (nI at_), .int 0, .int pl, .int yd, .int wy, .int pce_, .ref qal, .ref qco])), (qtx, .inl (cI, 200, .inl tx)), (qdl, .inl (cI, 5, .inl dl))] (S := Nat × Nat × Int32) (fun (u : Nat × Nat × Int32) => (u.1, u.2.1, u.2.2) = rdRope tx ln at_ g dr ∧ u.1 ≤ ln ∧ u.2.1 ≤ 4) (fun (u : Nat × Nat × Int32) => [(q, .inr (10, [.ref qtx, .int (nI ln), .int fa, .ref qlw, .ref qgp, .ref qhm, .ref qpcs, .ref qdl, .ref qdg, .ref qdh, .ref qdp, .int u.2.2, .int tl, .ref qnw, .ref qps, .int (nI dn), .ref qim, .ref qisd, .ref qkp, .int sd, .ref qfd, .int (nI fn), .ref qbk, .int (nI en), .int (nI u.1), .int (nI u.2.1), .int pl, .int yd, .int wy, .int pce_, .ref qal, .ref qco])), (qtx, .inl (cI, 200, .inl tx)), (qdl, .inl (cI, 5, .inl dl))]) := by
  refine CV.intro (by decide) (Nat.le_of_ble_eq_true rfl) ?_
  intro p0 e0 s0 m0 ar0 be0 me0 c0 A0 X hr
  refine J_aload_n (pc := 0) X 0 dX10_readsRope_0 rfl ?_
  refine J_dup (pc := 1) X dX10_readsRope_1 rfl ?_
  refine J_get (pc := 2) X clX10 0 24 rfl (by decide) g913 rfl dX10_readsRope_2 ?_
  refine J_iconst (pc := 5) X 1 dX10_readsRope_5 (by decide) ?_
  refine J_iadd (pc := 6) X dX10_readsRope_6 ?_
  refine J_top (y := nI (at_ + 1)) (n_add (x := at_) (y := 1) rfl rfl (by omega)) ?_
  refine J_put (pc := 7) X clX10 0 24 [(q, .inr (10, [.ref qtx, .int (nI ln), .int fa, .ref qlw, .ref qgp, .ref qhm, .ref qpcs, .ref qdl, .ref qdg, .ref qdh, .ref qdp, .int dr, .int tl, .ref qnw, .ref qps, .int (nI dn), .ref qim, .ref qisd, .ref qkp, .int sd, .ref qfd, .int (nI fn), .ref qbk, .int (nI en), .int (nI (at_ + 1)), .int 0, .int pl, .int yd, .int wy, .int pce_, .ref qal, .ref qco])), (qtx, .inl (cI, 200, .inl tx)), (qdl, .inl (cI, 5, .inl dl))] rfl (by decide) g913 rfl rfl rfl (Nat.le_of_ble_eq_true rfl) rfl dX10_readsRope_7 ?_
  refine J_aload_n (pc := 10) X 0 dX10_readsRope_10 rfl ?_
  refine J_callV (pc := 11) (As := []) (rest := []) X mtX10_skips g999 [0, 1] [2] [1, 2, 0] 0 (fun u => [(q, .inr (10, [.ref qtx, .int (nI ln), .int fa, .ref qlw, .ref qgp, .ref qhm, .ref qpcs, .ref qdl, .ref qdg, .ref qdh, .ref qdp, .int dr, .int tl, .ref qnw, .ref qps, .int (nI dn), .ref qim, .ref qisd, .ref qkp, .int sd, .ref qfd, .int (nI fn), .ref qbk, .int (nI en), .int (nI u), .int 0, .int pl, .int yd, .int wy, .int pce_, .ref qal, .ref qco])), (qtx, .inl (cI, 200, .inl tx)), (qdl, .inl (cI, 5, .inl dl))]) (kX10_skips l G cI cC cZ q qtx qlw qgp qhm qpcs qdl qdg qdh qdp qnw qps qim qisd qkp qfd qbk qal qco ln fa dr dn sd fn en (at_ + 1) 0 pl yd wy pce_ tl tx (by first | assumption | omega) (by first | assumption | omega) (by first | assumption | omega)) ⟨Nat.le_of_ble_eq_true rfl, Nat.le_of_ble_eq_true rfl⟩ rfl rfl rfl (by decide) (wr := [(qdl, .inl (cI, 5, .inl dl))]) rfl (by decide) (by decide) (fun _ => rfl) (by decide) rfl rfl rfl rfl rfl (Nat.le_of_ble_eq_true rfl) (Nat.zero_le _) (Nat.zero_le _) dX10_readsRope_11 (fun u_2 w_3 => ?_)
  obtain ⟨i1, rfl⟩ : ∃ z, z = u_2 := ⟨_, rfl⟩
  try dsimp only at w_3
  obtain ⟨hk1, hk2⟩ := w_3
  rw [skS_t rfl] at hk1
  refine J_aload_n (pc := 14) X 0 dX10_readsRope_14 rfl ?_
  refine J_get (pc := 15) X clX10 0 24 rfl (by decide) g913 rfl dX10_readsRope_15 ?_
  refine J_istore_n (pc := 18) X [(1, .int (nI i1)), (0, .ref q)] dX10_readsRope_18 (by decide) rfl ?_
  refine J_aload_n (pc := 19) X 1 dX10_readsRope_19 rfl ?_
  refine J_iconst (pc := 20) X 0 dX10_readsRope_20 (by decide) ?_
  refine J_aload_n (pc := 21) X 1 dX10_readsRope_21 rfl ?_
  refine J_get (pc := 22) X clX10 0 7 rfl (by decide) g896 rfl dX10_readsRope_22 ?_
  refine J_iconst (pc := 25) X 3 dX10_readsRope_25 (by decide) ?_
  refine J_iald (pc := 26) X 2 0 3 rfl rfl rfl (by decide) (by decide) dX10_readsRope_26 ?_
  refine J_top (y := nI g) hd3 ?_
  refine J_iconst (pc := 27) X 1 dX10_readsRope_27 (by decide) ?_
  refine J_isub (pc := 28) X dX10_readsRope_28 ?_
  refine J_callI (pc := 29) (As := [.int 0, .int ((nI g) - 1)]) (rest := []) X mtX10_number g1019 [0, 1] [2] [1, 2, 0] 0 (fun u => [(q, .inr (10, [.ref qtx, .int (nI ln), .int fa, .ref qlw, .ref qgp, .ref qhm, .ref qpcs, .ref qdl, .ref qdg, .ref qdh, .ref qdp, .int dr, .int tl, .ref qnw, .ref qps, .int (nI dn), .ref qim, .ref qisd, .ref qkp, .int sd, .ref qfd, .int (nI fn), .ref qbk, .int (nI en), .int (nI u.1), .int (nI u.2), .int pl, .int yd, .int wy, .int pce_, .ref qal, .ref qco])), (qtx, .inl (cI, 200, .inl tx)), (qdl, .inl (cI, 5, .inl dl))]) (kX10_number l G cI cC cZ q qtx qlw qgp qhm qpcs qdl qdg qdh qdp qnw qps qim qisd qkp qfd qbk qal qco ln fa dr dn sd fn en i1 0 pl yd wy pce_ tl tx 0 ((nI g) - 1) (by first | assumption | omega) (by first | assumption | omega) (by first | assumption | omega)) ⟨Nat.le_of_ble_eq_true rfl, Nat.le_of_ble_eq_true rfl⟩ rfl rfl rfl (by decide) (wr := [(qdl, .inl (cI, 5, .inl dl))]) rfl (by decide) (by decide) (fun _ => rfl) (by decide) rfl rfl rfl rfl rfl (Nat.le_of_ble_eq_true rfl) (Nat.zero_le _) (Nat.zero_le _) dX10_readsRope_29 (fun v1 u_4 w_5 => ?_)
  obtain ⟨a1, e1⟩ := u_4
  try dsimp only at w_5
  obtain ⟨hn1, hb1, hc1⟩ := w_5
  refine J_istore_n (pc := 32) X [(2, .int v1), (1, .int (nI i1)), (0, .ref q)] dX10_readsRope_32 (by decide) rfl ?_
  refine J_aload_n (pc := 33) X 2 dX10_readsRope_33 rfl ?_
  refine J_get (pc := 34) X clX10 0 25 rfl (by decide) g914 rfl dX10_readsRope_34 ?_
  refine J_if_ne (pc := 37) X 61 dX10_readsRope_37 (by decide) (fun c_6 => ?_) (fun c_6 => ?_)
  · have c_6 : ¬ e1 = 0 := n_ne_of (a := e1) (b := 0) (by omega) (by omega) c_6
    refine J_aload_n (pc := 61) X 2 dX10_readsRope_61 rfl ?_
    refine J_dup (pc := 62) X dX10_readsRope_62 rfl ?_
    refine J_get (pc := 63) X clX10 0 11 rfl (by decide) g900 rfl dX10_readsRope_63 ?_
    refine J_aload_n (pc := 66) X 2 dX10_readsRope_66 rfl ?_
    refine J_get (pc := 67) X clX10 0 25 rfl (by decide) g914 rfl dX10_readsRope_67 ?_
    refine J_if_ne (pc := 70) X 79 dX10_readsRope_70 (by decide) (fun c_7 => ?_) (fun c_7 => ?_)
    · have c_7 : ¬ e1 = 0 := n_ne_of (a := e1) (b := 0) (by omega) (by omega) c_7
      refine J_iconst (pc := 79) X 0 dX10_readsRope_79 (by decide) ?_
      refine J_ior (pc := 80) X dX10_readsRope_80 ?_
      refine J_put (pc := 81) X clX10 0 11 [(q, .inr (10, [.ref qtx, .int (nI ln), .int fa, .ref qlw, .ref qgp, .ref qhm, .ref qpcs, .ref qdl, .ref qdg, .ref qdh, .ref qdp, .int (dr ||| 0), .int tl, .ref qnw, .ref qps, .int (nI dn), .ref qim, .ref qisd, .ref qkp, .int sd, .ref qfd, .int (nI fn), .ref qbk, .int (nI en), .int (nI a1), .int (nI e1), .int pl, .int yd, .int wy, .int pce_, .ref qal, .ref qco])), (qtx, .inl (cI, 200, .inl tx)), (qdl, .inl (cI, 5, .inl dl))] rfl (by decide) g900 rfl rfl rfl (Nat.le_of_ble_eq_true rfl) rfl dX10_readsRope_81 ?_
      refine J_aload_n (pc := 84) X 2 dX10_readsRope_84 rfl ?_
      refine J_bipush (pc := 85) X 59 dX10_readsRope_85 (by decide) ?_
      refine J_callV (pc := 87) (As := [.int 59]) (rest := []) X mtX10_word g1023 [0, 1] [2] [1, 2, 0] 0 (fun u => [(q, .inr (10, [.ref qtx, .int (nI ln), .int fa, .ref qlw, .ref qgp, .ref qhm, .ref qpcs, .ref qdl, .ref qdg, .ref qdh, .ref qdp, .int (dr ||| 0), .int tl, .ref qnw, .ref qps, .int (nI dn), .ref qim, .ref qisd, .ref qkp, .int sd, .ref qfd, .int (nI fn), .ref qbk, .int (nI en), .int (nI u.1), .int (nI u.2), .int pl, .int yd, .int wy, .int pce_, .ref qal, .ref qco])), (qtx, .inl (cI, 200, .inl tx)), (qdl, .inl (cI, 5, .inl dl))]) (kX10_word l G cI cC cZ q qtx qlw qgp qhm qpcs qdl qdg qdh qdp qnw qps qim qisd qkp qfd qbk qal qco ln fa (dr ||| 0) dn sd fn en a1 e1 pl yd wy pce_ tl tx 59 (by first | assumption | omega) (by first | assumption | omega) (by first | assumption | omega) (by decide)) ⟨Nat.le_of_ble_eq_true rfl, Nat.le_of_ble_eq_true rfl⟩ rfl rfl rfl (by decide) (wr := [(qdl, .inl (cI, 5, .inl dl))]) rfl (by decide) (by decide) (fun _ => rfl) (by decide) rfl rfl rfl rfl rfl (Nat.le_of_ble_eq_true rfl) (Nat.zero_le _) (Nat.zero_le _) dX10_readsRope_87 (fun u_9 w_10 => ?_)
      obtain ⟨a4, e4⟩ := u_9
      try dsimp only at w_10
      obtain ⟨hn4, hb4, hc4⟩ := w_10
      refine J_vret (pc := 90) X hr (a4, e4, (dr ||| 0)) dX10_readsRope_90 ?_ rfl
      first | (rw [wd_w (by omega)] at hn4; exact ⟨by rw [(Prod.mk.inj hn4).1, (Prod.mk.inj hn4).2]; exact rdRope_w hk1 hn1 (by omega), by omega, by omega⟩) | (rw [wd_w (by omega)] at hn4; exact ⟨by rw [(Prod.mk.inj hn4).1, (Prod.mk.inj hn4).2, show wr2 = 4 from by omega]; exact rdRope_4 hk1 hn1 (by omega) (by assumption), by omega, by omega⟩) | exact ⟨rdRope_0 hk1 hn1 (by omega) (by assumption) (by rw [← show e1 = 0 from by omega]; exact hn4), by omega, by omega⟩
    · have c_7 : e1 = 0 := n_eq_of (a := e1) (b := 0) (by omega) (by omega) c_7
      exfalso; omega
  · have c_6 : e1 = 0 := n_eq_of (a := e1) (b := 0) (by omega) (by omega) c_6
    have hv0 := nm_ok (a := a1) (by rw [show (0 : Nat) = e1 from by omega]; exact hn1)
    obtain ⟨kk, hkk, rfl⟩ := inB_ex (by omega) ((wIn_inB (by omega)).mp hv0)
    refine J_aload_n (pc := 40) X 2 dX10_readsRope_40 rfl ?_
    refine J_get (pc := 41) X clX10 0 11 rfl (by decide) g900 rfl dX10_readsRope_41 ?_
    refine J_iload_n (pc := 44) X 0 dX10_readsRope_44 rfl ?_
    refine J_callS (pc := 45) (As := [.int dr, .int (nI kk)]) (rest := []) X mtX10_has g1039 [] (kX10_has l G cI cC cZ dr kk ) ⟨Nat.le_of_ble_eq_true rfl, Nat.le_of_ble_eq_true rfl⟩ rfl rfl rfl (by decide) rfl rfl (Nat.le_of_ble_eq_true rfl) (Nat.zero_le _) (Nat.zero_le _) dX10_readsRope_45 (fun r_11 u_12 w_13 => ?_)
    try dsimp only at w_13
    subst w_13
    refine J_bif_eq (pc := 48) X 61 dX10_readsRope_48 (by decide) (fun c_14 => ?_) (fun c_14 => ?_)
    · skip
      refine J_aload_n (pc := 61) X 2 dX10_readsRope_61 rfl ?_
      refine J_dup (pc := 62) X dX10_readsRope_62 rfl ?_
      refine J_get (pc := 63) X clX10 0 11 rfl (by decide) g900 rfl dX10_readsRope_63 ?_
      refine J_aload_n (pc := 66) X 2 dX10_readsRope_66 rfl ?_
      refine J_get (pc := 67) X clX10 0 25 rfl (by decide) g914 rfl dX10_readsRope_67 ?_
      refine J_if_ne (pc := 70) X 79 dX10_readsRope_70 (by decide) (fun c_15 => ?_) (fun c_15 => ?_)
      · have c_15 : ¬ e1 = 0 := n_ne_of (a := e1) (b := 0) (by omega) (by omega) c_15
        exfalso; omega
      · have c_15 : e1 = 0 := n_eq_of (a := e1) (b := 0) (by omega) (by omega) c_15
        refine J_iconst (pc := 73) X 1 dX10_readsRope_73 (by decide) ?_
        refine J_iload_n (pc := 74) X 0 dX10_readsRope_74 rfl ?_
        refine J_ishl (pc := 75) X dX10_readsRope_75 ?_
        refine J_goto (pc := 76) X 80 dX10_readsRope_76 (by decide) ?_
        refine J_ior (pc := 80) X dX10_readsRope_80 ?_
        refine J_put (pc := 81) X clX10 0 11 [(q, .inr (10, [.ref qtx, .int (nI ln), .int fa, .ref qlw, .ref qgp, .ref qhm, .ref qpcs, .ref qdl, .ref qdg, .ref qdh, .ref qdp, .int (dr ||| (1 <<< ((nI kk) &&& 31))), .int tl, .ref qnw, .ref qps, .int (nI dn), .ref qim, .ref qisd, .ref qkp, .int sd, .ref qfd, .int (nI fn), .ref qbk, .int (nI en), .int (nI a1), .int (nI e1), .int pl, .int yd, .int wy, .int pce_, .ref qal, .ref qco])), (qtx, .inl (cI, 200, .inl tx)), (qdl, .inl (cI, 5, .inl dl))] rfl (by decide) g900 rfl rfl rfl (Nat.le_of_ble_eq_true rfl) rfl dX10_readsRope_81 ?_
        refine J_aload_n (pc := 84) X 2 dX10_readsRope_84 rfl ?_
        refine J_bipush (pc := 85) X 59 dX10_readsRope_85 (by decide) ?_
        refine J_callV (pc := 87) (As := [.int 59]) (rest := []) X mtX10_word g1023 [0, 1] [2] [1, 2, 0] 0 (fun u => [(q, .inr (10, [.ref qtx, .int (nI ln), .int fa, .ref qlw, .ref qgp, .ref qhm, .ref qpcs, .ref qdl, .ref qdg, .ref qdh, .ref qdp, .int (dr ||| (1 <<< ((nI kk) &&& 31))), .int tl, .ref qnw, .ref qps, .int (nI dn), .ref qim, .ref qisd, .ref qkp, .int sd, .ref qfd, .int (nI fn), .ref qbk, .int (nI en), .int (nI u.1), .int (nI u.2), .int pl, .int yd, .int wy, .int pce_, .ref qal, .ref qco])), (qtx, .inl (cI, 200, .inl tx)), (qdl, .inl (cI, 5, .inl dl))]) (kX10_word l G cI cC cZ q qtx qlw qgp qhm qpcs qdl qdg qdh qdp qnw qps qim qisd qkp qfd qbk qal qco ln fa (dr ||| (1 <<< ((nI kk) &&& 31))) dn sd fn en a1 e1 pl yd wy pce_ tl tx 59 (by first | assumption | omega) (by first | assumption | omega) (by first | assumption | omega) (by decide)) ⟨Nat.le_of_ble_eq_true rfl, Nat.le_of_ble_eq_true rfl⟩ rfl rfl rfl (by decide) (wr := [(qdl, .inl (cI, 5, .inl dl))]) rfl (by decide) (by decide) (fun _ => rfl) (by decide) rfl rfl rfl rfl rfl (Nat.le_of_ble_eq_true rfl) (Nat.zero_le _) (Nat.zero_le _) dX10_readsRope_87 (fun u_17 w_18 => ?_)
        obtain ⟨a4, e4⟩ := u_17
        try dsimp only at w_18
        obtain ⟨hn4, hb4, hc4⟩ := w_18
        refine J_vret (pc := 90) X hr (a4, e4, (dr ||| (1 <<< ((nI kk) &&& 31)))) dX10_readsRope_90 ?_ rfl
        first | (rw [wd_w (by omega)] at hn4; exact ⟨by rw [(Prod.mk.inj hn4).1, (Prod.mk.inj hn4).2]; exact rdRope_w hk1 hn1 (by omega), by omega, by omega⟩) | (rw [wd_w (by omega)] at hn4; exact ⟨by rw [(Prod.mk.inj hn4).1, (Prod.mk.inj hn4).2, show wr2 = 4 from by omega]; exact rdRope_4 hk1 hn1 (by omega) (by assumption), by omega, by omega⟩) | exact ⟨rdRope_0 hk1 hn1 (by omega) (by assumption) (by rw [← show e1 = 0 from by omega]; exact hn4), by omega, by omega⟩
    · skip
      refine J_aload_n (pc := 51) X 2 dX10_readsRope_51 rfl ?_
      refine J_iload_n (pc := 52) X 1 dX10_readsRope_52 rfl ?_
      refine J_put (pc := 53) X clX10 0 24 [(q, .inr (10, [.ref qtx, .int (nI ln), .int fa, .ref qlw, .ref qgp, .ref qhm, .ref qpcs, .ref qdl, .ref qdg, .ref qdh, .ref qdp, .int dr, .int tl, .ref qnw, .ref qps, .int (nI dn), .ref qim, .ref qisd, .ref qkp, .int sd, .ref qfd, .int (nI fn), .ref qbk, .int (nI en), .int (nI i1), .int (nI e1), .int pl, .int yd, .int wy, .int pce_, .ref qal, .ref qco])), (qtx, .inl (cI, 200, .inl tx)), (qdl, .inl (cI, 5, .inl dl))] rfl (by decide) g913 rfl rfl rfl (Nat.le_of_ble_eq_true rfl) rfl dX10_readsRope_53 ?_
      refine J_aload_n (pc := 56) X 2 dX10_readsRope_56 rfl ?_
      refine J_iconst (pc := 57) X 4 dX10_readsRope_57 (by decide) ?_
      refine J_callV (pc := 58) (As := [.int 4]) (rest := []) X mtX10_fails g1015 [0] [1, 2] [2, 0, 1] 0 (fun u => [(q, .inr (10, [.ref qtx, .int (nI ln), .int fa, .ref qlw, .ref qgp, .ref qhm, .ref qpcs, .ref qdl, .ref qdg, .ref qdh, .ref qdp, .int dr, .int tl, .ref qnw, .ref qps, .int (nI dn), .ref qim, .ref qisd, .ref qkp, .int sd, .ref qfd, .int (nI fn), .ref qbk, .int (nI en), .int (nI i1), .int (nI u), .int pl, .int yd, .int wy, .int pce_, .ref qal, .ref qco])), (qtx, .inl (cI, 200, .inl tx)), (qdl, .inl (cI, 5, .inl dl))]) (kX10_fails l G cI cC cZ q qtx qlw qgp qhm qpcs qdl qdg qdh qdp qnw qps qim qisd qkp qfd qbk qal qco ln fa dr dn sd fn en i1 e1 pl yd wy pce_ tl 4 (by first | assumption | omega) (by first | assumption | omega)) ⟨Nat.le_of_ble_eq_true rfl, Nat.le_of_ble_eq_true rfl⟩ rfl rfl rfl (by decide) (wr := [(qtx, .inl (cI, 200, .inl tx)), (qdl, .inl (cI, 5, .inl dl))]) rfl (by decide) (by decide) (fun _ => rfl) (by decide) rfl rfl rfl rfl rfl (Nat.le_of_ble_eq_true rfl) (Nat.zero_le _) (Nat.zero_le _) dX10_readsRope_58 (fun u_20 w_21 => ?_)
      obtain ⟨wr2, rfl⟩ : ∃ z, z = u_20 := ⟨_, rfl⟩
      try dsimp only at w_21
      have hfw := w_21
      have hw4 : wr2 = 4 := by omega
      refine J_aload_n (pc := 61) X 2 dX10_readsRope_61 rfl ?_
      refine J_dup (pc := 62) X dX10_readsRope_62 rfl ?_
      refine J_get (pc := 63) X clX10 0 11 rfl (by decide) g900 rfl dX10_readsRope_63 ?_
      refine J_aload_n (pc := 66) X 2 dX10_readsRope_66 rfl ?_
      refine J_get (pc := 67) X clX10 0 25 rfl (by decide) g914 rfl dX10_readsRope_67 ?_
      refine J_if_ne (pc := 70) X 79 dX10_readsRope_70 (by decide) (fun c_22 => ?_) (fun c_22 => ?_)
      · have c_22 : ¬ wr2 = 0 := n_ne_of (a := wr2) (b := 0) (by omega) (by omega) c_22
        refine J_iconst (pc := 79) X 0 dX10_readsRope_79 (by decide) ?_
        refine J_ior (pc := 80) X dX10_readsRope_80 ?_
        refine J_put (pc := 81) X clX10 0 11 [(q, .inr (10, [.ref qtx, .int (nI ln), .int fa, .ref qlw, .ref qgp, .ref qhm, .ref qpcs, .ref qdl, .ref qdg, .ref qdh, .ref qdp, .int (dr ||| 0), .int tl, .ref qnw, .ref qps, .int (nI dn), .ref qim, .ref qisd, .ref qkp, .int sd, .ref qfd, .int (nI fn), .ref qbk, .int (nI en), .int (nI i1), .int (nI wr2), .int pl, .int yd, .int wy, .int pce_, .ref qal, .ref qco])), (qtx, .inl (cI, 200, .inl tx)), (qdl, .inl (cI, 5, .inl dl))] rfl (by decide) g900 rfl rfl rfl (Nat.le_of_ble_eq_true rfl) rfl dX10_readsRope_81 ?_
        refine J_aload_n (pc := 84) X 2 dX10_readsRope_84 rfl ?_
        refine J_bipush (pc := 85) X 59 dX10_readsRope_85 (by decide) ?_
        refine J_callV (pc := 87) (As := [.int 59]) (rest := []) X mtX10_word g1023 [0, 1] [2] [1, 2, 0] 0 (fun u => [(q, .inr (10, [.ref qtx, .int (nI ln), .int fa, .ref qlw, .ref qgp, .ref qhm, .ref qpcs, .ref qdl, .ref qdg, .ref qdh, .ref qdp, .int (dr ||| 0), .int tl, .ref qnw, .ref qps, .int (nI dn), .ref qim, .ref qisd, .ref qkp, .int sd, .ref qfd, .int (nI fn), .ref qbk, .int (nI en), .int (nI u.1), .int (nI u.2), .int pl, .int yd, .int wy, .int pce_, .ref qal, .ref qco])), (qtx, .inl (cI, 200, .inl tx)), (qdl, .inl (cI, 5, .inl dl))]) (kX10_word l G cI cC cZ q qtx qlw qgp qhm qpcs qdl qdg qdh qdp qnw qps qim qisd qkp qfd qbk qal qco ln fa (dr ||| 0) dn sd fn en i1 wr2 pl yd wy pce_ tl tx 59 (by first | assumption | omega) (by first | assumption | omega) (by first | assumption | omega) (by decide)) ⟨Nat.le_of_ble_eq_true rfl, Nat.le_of_ble_eq_true rfl⟩ rfl rfl rfl (by decide) (wr := [(qdl, .inl (cI, 5, .inl dl))]) rfl (by decide) (by decide) (fun _ => rfl) (by decide) rfl rfl rfl rfl rfl (Nat.le_of_ble_eq_true rfl) (Nat.zero_le _) (Nat.zero_le _) dX10_readsRope_87 (fun u_24 w_25 => ?_)
        obtain ⟨a4, e4⟩ := u_24
        try dsimp only at w_25
        obtain ⟨hn4, hb4, hc4⟩ := w_25
        refine J_vret (pc := 90) X hr (a4, e4, (dr ||| 0)) dX10_readsRope_90 ?_ rfl
        first | (rw [wd_w (by omega)] at hn4; exact ⟨by rw [(Prod.mk.inj hn4).1, (Prod.mk.inj hn4).2]; exact rdRope_w hk1 hn1 (by omega), by omega, by omega⟩) | (rw [wd_w (by omega)] at hn4; exact ⟨by rw [(Prod.mk.inj hn4).1, (Prod.mk.inj hn4).2, show wr2 = 4 from by omega]; exact rdRope_4 hk1 hn1 (by omega) (by assumption), by omega, by omega⟩) | exact ⟨rdRope_0 hk1 hn1 (by omega) (by assumption) (by rw [← show e1 = 0 from by omega]; exact hn4), by omega, by omega⟩
      · have c_22 : wr2 = 0 := n_eq_of (a := wr2) (b := 0) (by omega) (by omega) c_22
        exfalso; omega
