set_option maxRecDepth 100000 in
set_option maxHeartbeats 600000 in
theorem kX10_passes (l : Launch) (G : va_G) (cI cC cZ : ClassId) (q : Nat) (qtx : Nat) (qlw : Nat) (qgp : Nat) (qhm : Nat) (qpcs : Nat) (qdl : Nat) (qdg : Nat) (qdh : Nat) (qdp : Nat) (qnw : Nat) (qps : Nat) (qim : Nat) (qisd : Nat) (qkp : Nat) (qfd : Nat) (qbk : Nat) (qal : Nat) (qco : Nat) (ln : Nat) (fa : Int32) (dr : Int32) (dn : Nat) (sd : Int32) (fn : Nat) (en : Nat) (at_ : Nat) (wr : Nat) (pl : Int32) (yd : Int32) (wy : Int32) (pce_ : Int32) (tl : Int32) (lw : Nat → Int32) (gp : Nat → Int32) (pcs : Nat → Int32) (nw : Nat → Int32) (P : Nat) (gr : Int32) (wd : Nat) (g : Nat) (wk : Nat) (hPl : P ≤ 60) (hg : g ≤ 8) (hwk : wk ≤ 4) (hwd : wd ≤ 50) (hl0 : lw 0 = nI P) (hl1 : lw 1 = gr) (hl2 : lw 2 = nI wd) (hl3 : lw 3 = nI g) (hl4 : lw 4 = nI wk) (hP0 : 0 < g → 0 < P) (hok : okS g wk nw) : CV l G (tys3 cI cC cZ) yX10_passes cX10_passes 2 ({ frames := 4, cells := 0, slots := 0, locals := 90 }) [.ref q] [(q, .inr (10, [.ref qtx, .int (nI ln), .int fa, .ref qlw, .ref qgp, .ref qhm, .ref qpcs, .ref qdl, .ref qdg, .ref qdh, .ref qdp, .int dr, .int tl, .ref qnw, .ref qps, .int (nI dn), .ref qim, .ref qisd, .ref qkp, .int sd, .ref qfd, .int (nI fn), .ref qbk, .int (nI en), .int (nI at_), .int (nI wr), .int pl, .int yd, .int wy, .int pce_, .ref qal, .ref qco])), (qlw, .inl (cI, 5, .inl lw)), (qgp, .inl (cI, 8, .inl gp)), (qpcs, .inl (cI, 4, .inl pcs)), (qnw, .inl (cI, 14, .inl nw))] (S := (Nat → Int32) × Int32 × Int32 × Int32 × Int32) (fun (u : (Nat → Int32) × Int32 × Int32 × Int32 × Int32) => u.1 = pm g (fun k9 t9 => yG P (gp k9) gr t9) pcs wk nw ∧ okS g wk u.1) (fun (u : (Nat → Int32) × Int32 × Int32 × Int32 × Int32) => [(q, .inr (10, [.ref qtx, .int (nI ln), .int fa, .ref qlw, .ref qgp, .ref qhm, .ref qpcs, .ref qdl, .ref qdg, .ref qdh, .ref qdp, .int dr, .int tl, .ref qnw, .ref qps, .int (nI dn), .ref qim, .ref qisd, .ref qkp, .int sd, .ref qfd, .int (nI fn), .ref qbk, .int (nI en), .int (nI at_), .int (nI wr), .int u.2.1, .int u.2.2.1, .int u.2.2.2.1, .int u.2.2.2.2, .ref qal, .ref qco])), (qlw, .inl (cI, 5, .inl lw)), (qgp, .inl (cI, 8, .inl gp)), (qpcs, .inl (cI, 4, .inl pcs)), (qnw, .inl (cI, 14, .inl u.1))]) := by
  refine CV.intro (by decide) (Nat.le_of_ble_eq_true rfl) ?_
  intro p0 e0 s0 m0 ar0 be0 me0 c0 A0 X hr
  refine J_iconst (pc := 0) X 0 dX10_passes_0 (by decide) ?_
  refine J_istore_n (pc := 1) X [(1, .int 0), (0, .ref q)] dX10_passes_1 (by decide) rfl ?_
  have L_2 : ∀ (n_2 : Nat) (i : Nat) (cur : Nat → Int32) (plx : Int32) (ydx : Int32) (wyx : Int32) (pcx : Int32) (hi : i ≤ wk) (hcur : cur = pmTo g (fun k9 t9 => yG P (gp k9) gr t9) pcs nw i) (hoc : okS g wk cur), (wk - i) < n_2 → JJ p0 l e0 ({ frames := 4, cells := 0, slots := 0, locals := 90 }) s0 m0 ar0 be0 me0 c0 A0 G 2 0 0 (QV be0 ar0 s0 A0 G (tys3 cI cC cZ) (S := (Nat → Int32) × Int32 × Int32 × Int32 × Int32) (fun (u : (Nat → Int32) × Int32 × Int32 × Int32 × Int32) => u.1 = pm g (fun k9 t9 => yG P (gp k9) gr t9) pcs wk nw ∧ okS g wk u.1) (fun (u : (Nat → Int32) × Int32 × Int32 × Int32 × Int32) => [(q, .inr (10, [.ref qtx, .int (nI ln), .int fa, .ref qlw, .ref qgp, .ref qhm, .ref qpcs, .ref qdl, .ref qdg, .ref qdh, .ref qdp, .int dr, .int tl, .ref qnw, .ref qps, .int (nI dn), .ref qim, .ref qisd, .ref qkp, .int sd, .ref qfd, .int (nI fn), .ref qbk, .int (nI en), .int (nI at_), .int (nI wr), .int u.2.1, .int u.2.2.1, .int u.2.2.2.1, .int u.2.2.2.2, .ref qal, .ref qco])), (qlw, .inl (cI, 5, .inl lw)), (qgp, .inl (cI, 8, .inl gp)), (qpcs, .inl (cI, 4, .inl pcs)), (qnw, .inl (cI, 14, .inl u.1))])) [(q, .inr (10, [.ref qtx, .int (nI ln), .int fa, .ref qlw, .ref qgp, .ref qhm, .ref qpcs, .ref qdl, .ref qdg, .ref qdh, .ref qdp, .int dr, .int tl, .ref qnw, .ref qps, .int (nI dn), .ref qim, .ref qisd, .ref qkp, .int sd, .ref qfd, .int (nI fn), .ref qbk, .int (nI en), .int (nI at_), .int (nI wr), .int plx, .int ydx, .int wyx, .int pcx, .ref qal, .ref qco])), (qlw, .inl (cI, 5, .inl lw)), (qgp, .inl (cI, 8, .inl gp)), (qpcs, .inl (cI, 4, .inl pcs)), (qnw, .inl (cI, 14, .inl cur))] 2 [(0, .ref q), (1, .int (nI i))] [] := by
    intro n_2
    induction n_2 with
    | zero => intro i cur plx ydx wyx pcx hi hcur hoc hm_2; exact absurd hm_2 (Nat.not_lt_zero _)
    | succ n_2 ih_2 =>
      intro i cur plx ydx wyx pcx hi hcur hoc hm_2
      refine J_iload_n (pc := 2) X 1 dX10_passes_2 rfl ?_
      refine J_aload_n (pc := 3) X 0 dX10_passes_3 rfl ?_
      refine J_get (pc := 4) X clX10 0 3 rfl (by decide) g892 rfl dX10_passes_4 ?_
      refine J_iconst (pc := 7) X 4 dX10_passes_7 (by decide) ?_
      refine J_iald (pc := 8) X 1 0 4 rfl rfl rfl (by decide) (by decide) dX10_passes_8 ?_
      refine J_top (y := nI wk) hl4 ?_
      refine J_icmp_ge (pc := 9) X 85 dX10_passes_9 (by decide) (fun c_1 => ?_) (fun c_1 => ?_)
      · have c_1 : wk ≤ i := n_le_of (a := wk) (b := i) (by omega) (by omega) c_1
        refine J_aload_n (pc := 85) X 0 dX10_passes_85 rfl ?_
        refine J_get (pc := 86) X clX10 0 13 rfl (by decide) g902 rfl dX10_passes_86 ?_
        refine J_iconst (pc := 89) X 0 dX10_passes_89 (by decide) ?_
        refine J_dup2 (pc := 90) X dX10_passes_90 rfl rfl ?_
        refine J_iald (pc := 91) X 4 0 0 rfl rfl rfl (by decide) (by decide) dX10_passes_91 ?_
        refine J_iconst (pc := 92) X 1 dX10_passes_92 (by decide) ?_
        refine J_iadd (pc := 93) X dX10_passes_93 ?_
        refine J_iast (pc := 94) X 4 0 0 [(q, .inr (10, [.ref qtx, .int (nI ln), .int fa, .ref qlw, .ref qgp, .ref qhm, .ref qpcs, .ref qdl, .ref qdg, .ref qdh, .ref qdp, .int dr, .int tl, .ref qnw, .ref qps, .int (nI dn), .ref qim, .ref qisd, .ref qkp, .int sd, .ref qfd, .int (nI fn), .ref qbk, .int (nI en), .int (nI at_), .int (nI wr), .int plx, .int ydx, .int wyx, .int pcx, .ref qal, .ref qco])), (qlw, .inl (cI, 5, .inl lw)), (qgp, .inl (cI, 8, .inl gp)), (qpcs, .inl (cI, 4, .inl pcs)), (qnw, .inl (cI, 14, .inl (upd cur 0 ((cur 0) + 1))))] rfl rfl rfl (by decide) (by decide) rfl dX10_passes_94 ?_
        refine J_vret (pc := 95) X hr ((upd cur 0 ((cur 0) + 1)), plx, ydx, wyx, pcx) dX10_passes_95 ?_ rfl
        have q3 : i = wk := by omega
        subst q3
        exact ⟨by rw [hcur]; rfl, okS_0 hoc⟩
      · have c_1 : i < wk := n_nle_of (a := wk) (b := i) (by omega) (by omega) c_1
        obtain ⟨pos, hpos, hpk⟩ := hoc i (by omega)
        have hpl := posOk_lt hg hpk
        refine J_aload_n (pc := 12) X 0 dX10_passes_12 rfl ?_
        refine J_iload_n (pc := 13) X 1 dX10_passes_13 rfl ?_
        refine J_callV (pc := 14) (As := [.int (nI i)]) (rest := []) X mtX10_tries g1094 [0, 4, 3] [1, 2] [2, 0, 1, 4, 3] 0 (fun u => [(q, .inr (10, [.ref qtx, .int (nI ln), .int fa, .ref qlw, .ref qgp, .ref qhm, .ref qpcs, .ref qdl, .ref qdg, .ref qdh, .ref qdp, .int dr, .int tl, .ref qnw, .ref qps, .int (nI dn), .ref qim, .ref qisd, .ref qkp, .int sd, .ref qfd, .int (nI fn), .ref qbk, .int (nI en), .int (nI at_), .int (nI wr), .int (nI pos), .int (cur (3 * i + 3)), .int (cur (3 * i + 4)), .int (pcs i), .ref qal, .ref qco])), (qlw, .inl (cI, 5, .inl lw)), (qgp, .inl (cI, 8, .inl gp)), (qpcs, .inl (cI, 4, .inl pcs)), (qnw, .inl (cI, 14, .inl cur))]) (kX10_tries l G cI cC cZ q qtx qlw qgp qhm qpcs qdl qdg qdh qdp qnw qps qim qisd qkp qfd qbk qal qco ln fa dr dn sd fn en at_ wr plx ydx wyx pcx tl cur pcs i pos (by first | assumption | omega) hpos) ⟨Nat.le_of_ble_eq_true rfl, Nat.le_of_ble_eq_true rfl⟩ rfl rfl rfl (by decide) (wr := [(qlw, .inl (cI, 5, .inl lw)), (qgp, .inl (cI, 8, .inl gp))]) rfl (by decide) (by decide) (fun _ => rfl) (by decide) rfl rfl rfl rfl rfl (Nat.le_of_ble_eq_true rfl) (Nat.zero_le _) (Nat.zero_le _) dX10_passes_14 (fun u_3 w_4 => ?_)
        try dsimp only at w_4
        refine J_aload_n (pc := 17) X 0 dX10_passes_17 rfl ?_
        refine J_aload_n (pc := 18) X 0 dX10_passes_18 rfl ?_
        refine J_get (pc := 19) X clX10 0 13 rfl (by decide) g902 rfl dX10_passes_19 ?_
        refine J_iconst (pc := 22) X 0 dX10_passes_22 (by decide) ?_
        refine J_iald (pc := 23) X 4 0 0 rfl rfl rfl (by decide) (by decide) dX10_passes_23 ?_
        refine J_aload_n (pc := 24) X 0 dX10_passes_24 rfl ?_
        refine J_get (pc := 25) X clX10 0 13 rfl (by decide) g902 rfl dX10_passes_25 ?_
        refine J_iconst (pc := 28) X 1 dX10_passes_28 (by decide) ?_
        refine J_iald (pc := 29) X 4 0 1 rfl rfl rfl (by decide) (by decide) dX10_passes_29 ?_
        refine J_callV (pc := 30) (As := [.int (cur 0), .int (cur 1)]) (rest := []) X mtX10_walks g1135 [0, 1, 2] [3, 4] [2, 3, 4, 0, 1] 0 (fun u => [(q, .inr (10, [.ref qtx, .int (nI ln), .int fa, .ref qlw, .ref qgp, .ref qhm, .ref qpcs, .ref qdl, .ref qdg, .ref qdh, .ref qdp, .int dr, .int tl, .ref qnw, .ref qps, .int (nI dn), .ref qim, .ref qisd, .ref qkp, .int sd, .ref qfd, .int (nI fn), .ref qbk, .int (nI en), .int (nI at_), .int (nI wr), .int (nI u.1), .int u.2.1, .int u.2.2, .int (pcs i), .ref qal, .ref qco])), (qlw, .inl (cI, 5, .inl lw)), (qgp, .inl (cI, 8, .inl gp)), (qpcs, .inl (cI, 4, .inl pcs)), (qnw, .inl (cI, 14, .inl cur))]) (kX10_walks l G cI cC cZ q qtx qlw qgp qhm qpcs qdl qdg qdh qdp qnw qps qim qisd qkp qfd qbk qal qco ln fa dr dn sd fn en at_ wr tl lw gp P gr wd g wk pos (cur (3 * i + 3)) (cur (3 * i + 4)) (pcs i) (cur 0) (cur 1) (by first | assumption | omega) (by first | assumption | omega) (by first | assumption | omega) (by first | assumption | omega) (by first | assumption | omega) (by first | assumption | omega) (by first | assumption | omega) (by first | assumption | omega) (by first | assumption | omega) (by first | assumption | omega) hpk) ⟨Nat.le_of_ble_eq_true rfl, Nat.le_of_ble_eq_true rfl⟩ rfl rfl rfl (by decide) (wr := [(qpcs, .inl (cI, 4, .inl pcs)), (qnw, .inl (cI, 14, .inl cur))]) rfl (by decide) (by decide) (fun _ => rfl) (by decide) rfl rfl rfl rfl rfl (Nat.le_of_ble_eq_true rfl) (Nat.zero_le _) (Nat.zero_le _) dX10_passes_30 (fun u_6 w_7 => ?_)
        obtain ⟨pos2_u_6, y2_u_6, w2_u_6⟩ := u_6
        try dsimp only at w_7
        have hstp := w_7
        refine J_aload_n (pc := 33) X 0 dX10_passes_33 rfl ?_
        refine J_get (pc := 34) X clX10 0 13 rfl (by decide) g902 rfl dX10_passes_34 ?_
        refine J_iconst (pc := 37) X 2 dX10_passes_37 (by decide) ?_
        refine J_iconst (pc := 38) X 3 dX10_passes_38 (by decide) ?_
        refine J_iload_n (pc := 39) X 1 dX10_passes_39 rfl ?_
        refine J_imul (pc := 40) X dX10_passes_40 ?_
        refine J_top (y := nI (3 * i)) (n_mul (x := 3) (y := i) rfl rfl (by omega)) ?_
        refine J_iadd (pc := 41) X dX10_passes_41 ?_
        refine J_top (y := nI (3 * i + 2)) (n_add (x := 2) (y := 3 * i) rfl rfl (by omega)) ?_
        refine J_aload_n (pc := 42) X 0 dX10_passes_42 rfl ?_
        refine J_get (pc := 43) X clX10 0 26 rfl (by decide) g915 rfl dX10_passes_43 ?_
        refine J_iast (pc := 46) X 4 0 (3 * i + 2) [(q, .inr (10, [.ref qtx, .int (nI ln), .int fa, .ref qlw, .ref qgp, .ref qhm, .ref qpcs, .ref qdl, .ref qdg, .ref qdh, .ref qdp, .int dr, .int tl, .ref qnw, .ref qps, .int (nI dn), .ref qim, .ref qisd, .ref qkp, .int sd, .ref qfd, .int (nI fn), .ref qbk, .int (nI en), .int (nI at_), .int (nI wr), .int (nI pos2_u_6), .int y2_u_6, .int w2_u_6, .int (pcs i), .ref qal, .ref qco])), (qlw, .inl (cI, 5, .inl lw)), (qgp, .inl (cI, 8, .inl gp)), (qpcs, .inl (cI, 4, .inl pcs)), (qnw, .inl (cI, 14, .inl (upd cur (3 * i + 2) (nI pos2_u_6))))] rfl rfl rfl (by omega) (by decide) rfl dX10_passes_46 ?_
        refine J_aload_n (pc := 47) X 0 dX10_passes_47 rfl ?_
        refine J_get (pc := 48) X clX10 0 13 rfl (by decide) g902 rfl dX10_passes_48 ?_
        refine J_iconst (pc := 51) X 2 dX10_passes_51 (by decide) ?_
        refine J_iconst (pc := 52) X 3 dX10_passes_52 (by decide) ?_
        refine J_iload_n (pc := 53) X 1 dX10_passes_53 rfl ?_
        refine J_imul (pc := 54) X dX10_passes_54 ?_
        refine J_top (y := nI (3 * i)) (n_mul (x := 3) (y := i) rfl rfl (by omega)) ?_
        refine J_iadd (pc := 55) X dX10_passes_55 ?_
        refine J_top (y := nI (3 * i + 2)) (n_add (x := 2) (y := 3 * i) rfl rfl (by omega)) ?_
        refine J_iconst (pc := 56) X 1 dX10_passes_56 (by decide) ?_
        refine J_iadd (pc := 57) X dX10_passes_57 ?_
        refine J_top (y := nI (3 * i + 3)) (n_add (x := 3 * i + 2) (y := 1) rfl rfl (by omega)) ?_
        refine J_aload_n (pc := 58) X 0 dX10_passes_58 rfl ?_
        refine J_get (pc := 59) X clX10 0 27 rfl (by decide) g916 rfl dX10_passes_59 ?_
        refine J_iast (pc := 62) X 4 0 (3 * i + 3) [(q, .inr (10, [.ref qtx, .int (nI ln), .int fa, .ref qlw, .ref qgp, .ref qhm, .ref qpcs, .ref qdl, .ref qdg, .ref qdh, .ref qdp, .int dr, .int tl, .ref qnw, .ref qps, .int (nI dn), .ref qim, .ref qisd, .ref qkp, .int sd, .ref qfd, .int (nI fn), .ref qbk, .int (nI en), .int (nI at_), .int (nI wr), .int (nI pos2_u_6), .int y2_u_6, .int w2_u_6, .int (pcs i), .ref qal, .ref qco])), (qlw, .inl (cI, 5, .inl lw)), (qgp, .inl (cI, 8, .inl gp)), (qpcs, .inl (cI, 4, .inl pcs)), (qnw, .inl (cI, 14, .inl (upd (upd cur (3 * i + 2) (nI pos2_u_6)) (3 * i + 3) y2_u_6)))] rfl rfl rfl (by omega) (by decide) rfl dX10_passes_62 ?_
        refine J_aload_n (pc := 63) X 0 dX10_passes_63 rfl ?_
        refine J_get (pc := 64) X clX10 0 13 rfl (by decide) g902 rfl dX10_passes_64 ?_
        refine J_iconst (pc := 67) X 2 dX10_passes_67 (by decide) ?_
        refine J_iconst (pc := 68) X 3 dX10_passes_68 (by decide) ?_
        refine J_iload_n (pc := 69) X 1 dX10_passes_69 rfl ?_
        refine J_imul (pc := 70) X dX10_passes_70 ?_
        refine J_top (y := nI (3 * i)) (n_mul (x := 3) (y := i) rfl rfl (by omega)) ?_
        refine J_iadd (pc := 71) X dX10_passes_71 ?_
        refine J_top (y := nI (3 * i + 2)) (n_add (x := 2) (y := 3 * i) rfl rfl (by omega)) ?_
        refine J_iconst (pc := 72) X 2 dX10_passes_72 (by decide) ?_
        refine J_iadd (pc := 73) X dX10_passes_73 ?_
        refine J_top (y := nI (3 * i + 4)) (n_add (x := 3 * i + 2) (y := 2) rfl rfl (by omega)) ?_
        refine J_aload_n (pc := 74) X 0 dX10_passes_74 rfl ?_
        refine J_get (pc := 75) X clX10 0 28 rfl (by decide) g917 rfl dX10_passes_75 ?_
        refine J_iast (pc := 78) X 4 0 (3 * i + 4) [(q, .inr (10, [.ref qtx, .int (nI ln), .int fa, .ref qlw, .ref qgp, .ref qhm, .ref qpcs, .ref qdl, .ref qdg, .ref qdh, .ref qdp, .int dr, .int tl, .ref qnw, .ref qps, .int (nI dn), .ref qim, .ref qisd, .ref qkp, .int sd, .ref qfd, .int (nI fn), .ref qbk, .int (nI en), .int (nI at_), .int (nI wr), .int (nI pos2_u_6), .int y2_u_6, .int w2_u_6, .int (pcs i), .ref qal, .ref qco])), (qlw, .inl (cI, 5, .inl lw)), (qgp, .inl (cI, 8, .inl gp)), (qpcs, .inl (cI, 4, .inl pcs)), (qnw, .inl (cI, 14, .inl (upd (upd (upd cur (3 * i + 2) (nI pos2_u_6)) (3 * i + 3) y2_u_6) (3 * i + 4) w2_u_6)))] rfl rfl rfl (by omega) (by decide) rfl dX10_passes_78 ?_
        refine J_iinc (pc := 79) X (nI (i + 1)) 1 [(1, .int (nI (i + 1))), (0, .ref q)] dX10_passes_79 rfl (n_add (x := i) (y := 1) rfl rfl (by omega)) (by decide) rfl ?_
        refine J_goto (pc := 82) X 2 dX10_passes_82 (by decide) ?_
        refine J_loc [1, 0] (lv2 := [(0, .ref q), (1, .int (nI (i + 1)))]) rfl ?_
        exact ih_2  (i + 1) (upd (upd (upd cur (3 * i + 2) (nI pos2_u_6)) (3 * i + 3) y2_u_6) (3 * i + 4) w2_u_6) (nI pos2_u_6) y2_u_6 w2_u_6 (pcs i) (by first | assumption | omega | simp_all) (pm_step hcur hpos hpl hstp) (ok_step hg hoc hpk hstp) (by omega)
  refine J_loc [1, 0] (lv2 := [(0, .ref q), (1, .int 0)]) rfl ?_
  exact L_2 _  0 nw pl yd wy pce_ (by first | assumption | omega | simp_all) rfl hok (Nat.lt_succ_self _)
set_option maxRecDepth 100000 in
set_option maxHeartbeats 600000 in
theorem kX10_barred (l : Launch) (G : va_G) (cI cC cZ : ClassId) (q : Nat) (qtx : Nat) (qlw : Nat) (qgp : Nat) (qhm : Nat) (qpcs : Nat) (qdl : Nat) (qdg : Nat) (qdh : Nat) (qdp : Nat) (qnw : Nat) (qps : Nat) (qim : Nat) (qisd : Nat) (qkp : Nat) (qfd : Nat) (qbk : Nat) (qal : Nat) (qco : Nat) (ln : Nat) (fa : Int32) (dr : Int32) (dn : Nat) (sd : Int32) (fn : Nat) (en : Nat) (at_ : Nat) (wr : Nat) (pl : Int32) (yd : Int32) (wy : Int32) (pce_ : Int32) (tl : Int32) (lw : Nat → Int32) (nw : Nat → Int32) (P : Nat) (gr : Int32) (wd : Nat) (g : Nat) (wk : Nat) (n : Int32) (hPl : P ≤ 60) (hg : g ≤ 8) (hwk : wk ≤ 4) (hwd : wd ≤ 50) (hl0 : lw 0 = nI P) (hl1 : lw 1 = gr) (hl2 : lw 2 = nI wd) (hl3 : lw 3 = nI g) (hl4 : lw 4 = nI wk) : CI l G (tys3 cI cC cZ) yX10_barred cX10_barred 2 (some .int) ({ frames := 1, cells := 0, slots := 0, locals := 22 }) [.ref q, .int n] [(q, .inr (10, [.ref qtx, .int (nI ln), .int fa, .ref qlw, .ref qgp, .ref qhm, .ref qpcs, .ref qdl, .ref qdg, .ref qdh, .ref qdp, .int dr, .int tl, .ref qnw, .ref qps, .int (nI dn), .ref qim, .ref qisd, .ref qkp, .int sd, .ref qfd, .int (nI fn), .ref qbk, .int (nI en), .int (nI at_), .int (nI wr), .int pl, .int yd, .int wy, .int pce_, .ref qal, .ref qco])), (qlw, .inl (cI, 5, .inl lw)), (qnw, .inl (cI, 14, .inl nw))] (S := Unit) (fun (r : Int32) (u : Unit) => r = barP n P (nw 0)) (fun _ => [(q, .inr (10, [.ref qtx, .int (nI ln), .int fa, .ref qlw, .ref qgp, .ref qhm, .ref qpcs, .ref qdl, .ref qdg, .ref qdh, .ref qdp, .int dr, .int tl, .ref qnw, .ref qps, .int (nI dn), .ref qim, .ref qisd, .ref qkp, .int sd, .ref qfd, .int (nI fn), .ref qbk, .int (nI en), .int (nI at_), .int (nI wr), .int pl, .int yd, .int wy, .int pce_, .ref qal, .ref qco])), (qlw, .inl (cI, 5, .inl lw)), (qnw, .inl (cI, 14, .inl nw))]) := by
  refine CI.intro (by decide) (Nat.le_of_ble_eq_true rfl) ?_
  intro p0 e0 s0 m0 ar0 be0 me0 c0 A0 X hr
  refine J_iload_n (pc := 0) X 1 dX10_barred_0 rfl ?_
  refine J_iconst (pc := 1) X 1 dX10_barred_1 (by decide) ?_
  refine J_bipush (pc := 2) X 60 dX10_barred_2 (by decide) ?_
  refine J_callS (pc := 4) (As := [.int n, .int 1, .int 60]) (rest := []) X mtX10_in g990 [] (kX10_in l G cI cC cZ n 1 60 ) ⟨Nat.le_of_ble_eq_true rfl, Nat.le_of_ble_eq_true rfl⟩ rfl rfl rfl (by decide) rfl rfl (Nat.le_of_ble_eq_true rfl) (Nat.zero_le _) (Nat.zero_le _) dX10_barred_4 (fun r_1 u_2 w_3 => ?_)
  try dsimp only at w_3
  subst w_3
  refine J_bif_ne (pc := 7) X 15 dX10_barred_7 (by decide) (fun c_4 => ?_) (fun c_4 => ?_)
  · skip
    refine J_aload_n (pc := 15) X 0 dX10_barred_15 rfl ?_
    refine J_callR (pc := 16) (As := []) (rest := []) X mtX10_isStreet g1126 [0, 1] 0 (kX10_isStreet l G cI cC cZ q qtx qlw qgp qhm qpcs qdl qdg qdh qdp qnw qps qim qisd qkp qfd qbk qal qco ln fa dr dn sd fn en at_ wr pl yd wy pce_ tl lw P gr wd g wk (by first | assumption | omega) (by first | assumption | omega) (by first | assumption | omega) (by first | assumption | omega) (by first | assumption | omega) (by first | assumption | omega) (by first | assumption | omega) (by first | assumption | omega) (by first | assumption | omega)) ⟨Nat.le_of_ble_eq_true rfl, Nat.le_of_ble_eq_true rfl⟩ rfl rfl rfl (by decide) rfl rfl rfl rfl rfl (Nat.le_of_ble_eq_true rfl) (Nat.zero_le _) (Nat.zero_le _) dX10_barred_16 (fun r_5 u_6 w_7 => ?_)
    try dsimp only at w_7
    subst w_7
    refine J_bif_ne (pc := 19) X 27 dX10_barred_19 (by decide) (fun c_8 => ?_) (fun c_8 => ?_)
    · skip
      refine J_aload_n (pc := 27) X 0 dX10_barred_27 rfl ?_
      refine J_get (pc := 28) X clX10 0 13 rfl (by decide) g902 rfl dX10_barred_28 ?_
      refine J_iconst (pc := 31) X 0 dX10_barred_31 (by decide) ?_
      refine J_iald (pc := 32) X 2 0 0 rfl rfl rfl (by decide) (by decide) dX10_barred_32 ?_
      refine J_ldc (pc := 33) X g1130 dX10_barred_33 ?_
      refine J_icmp_le (pc := 35) X 43 dX10_barred_35 (by decide) (fun c_9 => ?_) (fun c_9 => ?_)
      · have c_9 := Int32.not_lt.mpr c_9
        refine J_iconst (pc := 43) X 0 dX10_barred_43 (by decide) ?_
        refine J_iret (pc := 44) X hr () dX10_barred_44 ?_ rfl
        simp [barP, c_4, c_8, c_9]
      · have c_9 := Int32.not_le.mp c_9
        refine J_ldc (pc := 38) X g994 dX10_barred_38 ?_
        refine J_goto (pc := 40) X 44 dX10_barred_40 (by decide) ?_
        refine J_iret (pc := 44) X hr () dX10_barred_44 ?_ rfl
        simp [barP, c_4, c_8, c_9]
    · skip
      refine J_ldc (pc := 22) X g1106 dX10_barred_22 ?_
      refine J_goto (pc := 24) X 44 dX10_barred_24 (by decide) ?_
      refine J_iret (pc := 44) X hr () dX10_barred_44 ?_ rfl
      simp [barP, c_4, c_8]
  · skip
    refine J_ldc (pc := 10) X g993 dX10_barred_10 ?_
    refine J_goto (pc := 12) X 44 dX10_barred_12 (by decide) ?_
    refine J_iret (pc := 44) X hr () dX10_barred_44 ?_ rfl
    simp [barP, c_4]
set_option maxRecDepth 100000 in
set_option maxHeartbeats 600000 in
theorem kX10_minute (l : Launch) (G : va_G) (cI cC cZ : ClassId) (q : Nat) (qtx : Nat) (qlw : Nat) (qgp : Nat) (qhm : Nat) (qpcs : Nat) (qdl : Nat) (qdg : Nat) (qdh : Nat) (qdp : Nat) (qnw : Nat) (qps : Nat) (qim : Nat) (qisd : Nat) (qkp : Nat) (qfd : Nat) (qbk : Nat) (qal : Nat) (qco : Nat) (ln : Nat) (fa : Int32) (dr : Int32) (dn : Nat) (sd : Int32) (fn : Nat) (en : Nat) (at_ : Nat) (wr : Nat) (pl : Int32) (yd : Int32) (wy : Int32) (pce_ : Int32) (tl : Int32) (lw : Nat → Int32) (gp : Nat → Int32) (pcs : Nat → Int32) (nw : Nat → Int32) (ps : Nat → Int32) (P : Nat) (gr : Int32) (wd : Nat) (g : Nat) (wk : Nat) (n : Int32) (hPl : P ≤ 60) (hg : g ≤ 8) (hwk : wk ≤ 4) (hwd : wd ≤ 50) (hl0 : lw 0 = nI P) (hl1 : lw 1 = gr) (hl2 : lw 2 = nI wd) (hl3 : lw 3 = nI g) (hl4 : lw 4 = nI wk) (hP0 : 0 < g → 0 < P) (hok : okS g wk nw) (hdn : dn ≤ 30) : CI l G (tys3 cI cC cZ) yX10_minute cX10_minute 4 (some .int) ({ frames := 5, cells := 0, slots := 0, locals := 111 }) [.ref q, .int n] [(q, .inr (10, [.ref qtx, .int (nI ln), .int fa, .ref qlw, .ref qgp, .ref qhm, .ref qpcs, .ref qdl, .ref qdg, .ref qdh, .ref qdp, .int dr, .int tl, .ref qnw, .ref qps, .int (nI dn), .ref qim, .ref qisd, .ref qkp, .int sd, .ref qfd, .int (nI fn), .ref qbk, .int (nI en), .int (nI at_), .int (nI wr), .int pl, .int yd, .int wy, .int pce_, .ref qal, .ref qco])), (qlw, .inl (cI, 5, .inl lw)), (qgp, .inl (cI, 8, .inl gp)), (qpcs, .inl (cI, 4, .inl pcs)), (qnw, .inl (cI, 14, .inl nw)), (qps, .inl (cI, 420, .inl ps))] (S := (Nat → Int32) × Nat × (Nat → Int32) × Int32 × Int32 × Int32 × Int32) (fun (r : Int32) (u : (Nat → Int32) × Nat × (Nat → Int32) × Int32 × Int32 × Int32 × Int32) => r = (if barP n P (nw 0) = 0 then u.1 0 else barP n P (nw 0)) ∧ (u.1, u.2.1, u.2.2.1) = minS g (fun k9 t9 => yG P (gp k9) gr t9) pcs wk P n (nw, dn, ps) ∧ okS g wk u.1 ∧ u.2.1 ≤ 30) (fun (u : (Nat → Int32) × Nat × (Nat → Int32) × Int32 × Int32 × Int32 × Int32) => [(q, .inr (10, [.ref qtx, .int (nI ln), .int fa, .ref qlw, .ref qgp, .ref qhm, .ref qpcs, .ref qdl, .ref qdg, .ref qdh, .ref qdp, .int dr, .int tl, .ref qnw, .ref qps, .int (nI u.2.1), .ref qim, .ref qisd, .ref qkp, .int sd, .ref qfd, .int (nI fn), .ref qbk, .int (nI en), .int (nI at_), .int (nI wr), .int u.2.2.2.1, .int u.2.2.2.2.1, .int u.2.2.2.2.2.1, .int u.2.2.2.2.2.2, .ref qal, .ref qco])), (qlw, .inl (cI, 5, .inl lw)), (qgp, .inl (cI, 8, .inl gp)), (qpcs, .inl (cI, 4, .inl pcs)), (qnw, .inl (cI, 14, .inl u.1)), (qps, .inl (cI, 420, .inl u.2.2.1))]) := by
  refine CI.intro (by decide) (Nat.le_of_ble_eq_true rfl) ?_
  intro p0 e0 s0 m0 ar0 be0 me0 c0 A0 X hr
  refine J_aload_n (pc := 0) X 0 dX10_minute_0 rfl ?_
  refine J_iload_n (pc := 1) X 1 dX10_minute_1 rfl ?_
  refine J_callR (pc := 2) (As := [.int n]) (rest := []) X mtX10_barred g1122 [0, 1, 4] 0 (kX10_barred l G cI cC cZ q qtx qlw qgp qhm qpcs qdl qdg qdh qdp qnw qps qim qisd qkp qfd qbk qal qco ln fa dr dn sd fn en at_ wr pl yd wy pce_ tl lw nw P gr wd g wk n (by first | assumption | omega) (by first | assumption | omega) (by first | assumption | omega) (by first | assumption | omega) (by first | assumption | omega) (by first | assumption | omega) (by first | assumption | omega) (by first | assumption | omega) (by first | assumption | omega)) ⟨Nat.le_of_ble_eq_true rfl, Nat.le_of_ble_eq_true rfl⟩ rfl rfl rfl (by decide) rfl rfl rfl rfl rfl (Nat.le_of_ble_eq_true rfl) (Nat.zero_le _) (Nat.zero_le _) dX10_minute_2 (fun r_1 u_2 w_3 => ?_)
  try dsimp only at w_3
  subst w_3
  refine J_istore_n (pc := 5) X [(2, .int (barP n P (nw 0))), (0, .ref q), (1, .int n)] dX10_minute_5 (by decide) rfl ?_
  by_cases hb : barP n P (nw 0) = 0
  · skip
    obtain ⟨⟨nn, hn1, hn2, rfl⟩, hP1⟩ := barP_ok hb
    refine J_eq (lv2 := [(2, .int 0), (0, .ref q), (1, .int (nI nn))]) rfl (by rw [hb]) rfl ?_
    refine J_iconst (pc := 6) X 0 dX10_minute_6 (by decide) ?_
    refine J_istore_n (pc := 7) X [(3, .int 0), (2, .int 0), (0, .ref q), (1, .int (nI nn))] dX10_minute_7 (by decide) rfl ?_
    have L_8 : ∀ (n_8 : Nat) (i : Nat) (nwc : Nat → Int32) (dnc : Nat) (psc : Nat → Int32) (plx : Int32) (ydx : Int32) (wyx : Int32) (pcx : Int32) (hi : i ≤ nn) (hdc : dnc ≤ 30) (hoc : okS g wk nwc) (hst : (nwc, dnc, psc) = itr (miS g (fun k9 t9 => yG P (gp k9) gr t9) pcs wk) i (nw, dn, ps)), (nn - i) < n_8 → JJ p0 l e0 ({ frames := 5, cells := 0, slots := 0, locals := 111 }) s0 m0 ar0 be0 me0 c0 A0 G 4 0 0 (QI be0 ar0 s0 A0 G (tys3 cI cC cZ) (S := (Nat → Int32) × Nat × (Nat → Int32) × Int32 × Int32 × Int32 × Int32) (fun (r : Int32) (u : (Nat → Int32) × Nat × (Nat → Int32) × Int32 × Int32 × Int32 × Int32) => r = (if barP (nI nn) P (nw 0) = 0 then u.1 0 else barP (nI nn) P (nw 0)) ∧ (u.1, u.2.1, u.2.2.1) = minS g (fun k9 t9 => yG P (gp k9) gr t9) pcs wk P (nI nn) (nw, dn, ps) ∧ okS g wk u.1 ∧ u.2.1 ≤ 30) (fun (u : (Nat → Int32) × Nat × (Nat → Int32) × Int32 × Int32 × Int32 × Int32) => [(q, .inr (10, [.ref qtx, .int (nI ln), .int fa, .ref qlw, .ref qgp, .ref qhm, .ref qpcs, .ref qdl, .ref qdg, .ref qdh, .ref qdp, .int dr, .int tl, .ref qnw, .ref qps, .int (nI u.2.1), .ref qim, .ref qisd, .ref qkp, .int sd, .ref qfd, .int (nI fn), .ref qbk, .int (nI en), .int (nI at_), .int (nI wr), .int u.2.2.2.1, .int u.2.2.2.2.1, .int u.2.2.2.2.2.1, .int u.2.2.2.2.2.2, .ref qal, .ref qco])), (qlw, .inl (cI, 5, .inl lw)), (qgp, .inl (cI, 8, .inl gp)), (qpcs, .inl (cI, 4, .inl pcs)), (qnw, .inl (cI, 14, .inl u.1)), (qps, .inl (cI, 420, .inl u.2.2.1))])) [(q, .inr (10, [.ref qtx, .int (nI ln), .int fa, .ref qlw, .ref qgp, .ref qhm, .ref qpcs, .ref qdl, .ref qdg, .ref qdh, .ref qdp, .int dr, .int tl, .ref qnw, .ref qps, .int (nI dnc), .ref qim, .ref qisd, .ref qkp, .int sd, .ref qfd, .int (nI fn), .ref qbk, .int (nI en), .int (nI at_), .int (nI wr), .int plx, .int ydx, .int wyx, .int pcx, .ref qal, .ref qco])), (qlw, .inl (cI, 5, .inl lw)), (qgp, .inl (cI, 8, .inl gp)), (qpcs, .inl (cI, 4, .inl pcs)), (qnw, .inl (cI, 14, .inl nwc)), (qps, .inl (cI, 420, .inl psc))] 8 [(0, .ref q), (1, .int (nI nn)), (2, .int 0), (3, .int (nI i))] [] := by
      intro n_8
      induction n_8 with
      | zero => intro i nwc dnc psc plx ydx wyx pcx hi hdc hoc hst hm_8; exact absurd hm_8 (Nat.not_lt_zero _)
      | succ n_8 ih_8 =>
        intro i nwc dnc psc plx ydx wyx pcx hi hdc hoc hst hm_8
        refine J_iload_n (pc := 8) X 3 dX10_minute_8 rfl ?_
        refine J_iload_n (pc := 9) X 1 dX10_minute_9 rfl ?_
        refine J_icmp_ge (pc := 10) X 31 dX10_minute_10 (by decide) (fun c_4 => ?_) (fun c_4 => ?_)
        · have c_4 : nn ≤ i := n_le_of (a := nn) (b := i) (by omega) (by omega) c_4
          refine J_iload_n (pc := 31) X 2 dX10_minute_31 rfl ?_
          refine J_if_ne (pc := 32) X 44 dX10_minute_32 (by decide) (fun c_5 => ?_) (fun c_5 => ?_)
          · have c_5 : ¬ 0 = 0 := n_ne_of (a := 0) (b := 0) (by omega) (by omega) c_5
            exfalso; omega
          · have c_5 : 0 = 0 := n_eq_of (a := 0) (b := 0) (by omega) (by omega) c_5
            refine J_aload_n (pc := 35) X 0 dX10_minute_35 rfl ?_
            refine J_get (pc := 36) X clX10 0 13 rfl (by decide) g902 rfl dX10_minute_36 ?_
            refine J_iconst (pc := 39) X 0 dX10_minute_39 (by decide) ?_
            refine J_iald (pc := 40) X 4 0 0 rfl rfl rfl (by decide) (by decide) dX10_minute_40 ?_
            refine J_goto (pc := 41) X 45 dX10_minute_41 (by decide) ?_
            refine J_iret (pc := 45) X hr (nwc, dnc, psc, plx, ydx, wyx, pcx) dX10_minute_45 ?_ rfl
            have q3 : i = nn := by omega
            subst q3
            refine ⟨?_, ?_, hoc, hdc⟩
            · rw [if_pos hb]
            · rw [minS, if_pos hb, nI_clamp (by omega)]; exact hst
        · have c_4 : i < nn := n_nle_of (a := nn) (b := i) (by omega) (by omega) c_4
          refine J_iload_n (pc := 13) X 2 dX10_minute_13 rfl ?_
          refine J_if_ne (pc := 14) X 31 dX10_minute_14 (by decide) (fun c_6 => ?_) (fun c_6 => ?_)
          · have c_6 : ¬ 0 = 0 := n_ne_of (a := 0) (b := 0) (by omega) (by omega) c_6
            exfalso; omega
          · have c_6 : 0 = 0 := n_eq_of (a := 0) (b := 0) (by omega) (by omega) c_6
            refine J_aload_n (pc := 17) X 0 dX10_minute_17 rfl ?_
            refine J_callV (pc := 18) (As := []) (rest := []) X mtX10_notes g1107 [0, 4, 5] [1, 2, 3] [3, 0, 1, 2, 4, 5] 0 (fun u => [(q, .inr (10, [.ref qtx, .int (nI ln), .int fa, .ref qlw, .ref qgp, .ref qhm, .ref qpcs, .ref qdl, .ref qdg, .ref qdh, .ref qdp, .int dr, .int tl, .ref qnw, .ref qps, .int (nI u.1), .ref qim, .ref qisd, .ref qkp, .int sd, .ref qfd, .int (nI fn), .ref qbk, .int (nI en), .int (nI at_), .int (nI wr), .int plx, .int ydx, .int wyx, .int pcx, .ref qal, .ref qco])), (qlw, .inl (cI, 5, .inl lw)), (qgp, .inl (cI, 8, .inl gp)), (qpcs, .inl (cI, 4, .inl pcs)), (qnw, .inl (cI, 14, .inl nwc)), (qps, .inl (cI, 420, .inl u.2))]) (kX10_notes l G cI cC cZ q qtx qlw qgp qhm qpcs qdl qdg qdh qdp qnw qps qim qisd qkp qfd qbk qal qco ln fa dr dnc sd fn en at_ wr plx ydx wyx pcx tl nwc psc (by first | assumption | omega)) ⟨Nat.le_of_ble_eq_true rfl, Nat.le_of_ble_eq_true rfl⟩ rfl rfl rfl (by decide) (wr := [(qlw, .inl (cI, 5, .inl lw)), (qgp, .inl (cI, 8, .inl gp)), (qpcs, .inl (cI, 4, .inl pcs))]) rfl (by decide) (by decide) (fun _ => rfl) (by decide) rfl rfl rfl rfl rfl (Nat.le_of_ble_eq_true rfl) (Nat.zero_le _) (Nat.zero_le _) dX10_minute_18 (fun u_8 w_9 => ?_)
            obtain ⟨dn2_u_8, ps2_u_8⟩ := u_8
            try dsimp only at w_9
            obtain ⟨hp1, hp2⟩ := w_9; subst hp1
            refine J_aload_n (pc := 21) X 0 dX10_minute_21 rfl ?_
            refine J_callV (pc := 22) (As := []) (rest := []) X mtX10_passes g1131 [0, 1, 2, 3, 4] [5] [1, 2, 3, 4, 5, 0] 0 (fun u => [(q, .inr (10, [.ref qtx, .int (nI ln), .int fa, .ref qlw, .ref qgp, .ref qhm, .ref qpcs, .ref qdl, .ref qdg, .ref qdh, .ref qdp, .int dr, .int tl, .ref qnw, .ref qps, .int (nI dn2_u_8), .ref qim, .ref qisd, .ref qkp, .int sd, .ref qfd, .int (nI fn), .ref qbk, .int (nI en), .int (nI at_), .int (nI wr), .int u.2.1, .int u.2.2.1, .int u.2.2.2.1, .int u.2.2.2.2, .ref qal, .ref qco])), (qlw, .inl (cI, 5, .inl lw)), (qgp, .inl (cI, 8, .inl gp)), (qpcs, .inl (cI, 4, .inl pcs)), (qnw, .inl (cI, 14, .inl u.1)), (qps, .inl (cI, 420, .inl (pushF dnc nwc psc)))]) (kX10_passes l G cI cC cZ q qtx qlw qgp qhm qpcs qdl qdg qdh qdp qnw qps qim qisd qkp qfd qbk qal qco ln fa dr dn2_u_8 sd fn en at_ wr plx ydx wyx pcx tl lw gp pcs nwc P gr wd g wk (by first | assumption | omega) (by first | assumption | omega) (by first | assumption | omega) (by first | assumption | omega) (by first | assumption | omega) (by first | assumption | omega) (by first | assumption | omega) (by first | assumption | omega) (by first | assumption | omega) (by first | assumption | omega) hoc) ⟨Nat.le_of_ble_eq_true rfl, Nat.le_of_ble_eq_true rfl⟩ rfl rfl rfl (by decide) (wr := [(qps, .inl (cI, 420, .inl (pushF dnc nwc psc)))]) rfl (by decide) (by decide) (fun _ => rfl) (by decide) rfl rfl rfl rfl rfl (Nat.le_of_ble_eq_true rfl) (Nat.zero_le _) (Nat.zero_le _) dX10_minute_22 (fun u_11 w_12 => ?_)
            obtain ⟨nw2_u_11, plx_u_11, ydx_u_11, wyx_u_11, pcx_u_11⟩ := u_11
            try dsimp only at w_12
            obtain ⟨hq1, hq2⟩ := w_12
            refine J_iinc (pc := 25) X (nI (i + 1)) 3 [(3, .int (nI (i + 1))), (0, .ref q), (1, .int (nI nn)), (2, .int 0)] dX10_minute_25 rfl (n_add (x := i) (y := 1) rfl rfl (by omega)) (by decide) rfl ?_
            refine J_goto (pc := 28) X 8 dX10_minute_28 (by decide) ?_
            refine J_loc [1, 2, 3, 0] (lv2 := [(0, .ref q), (1, .int (nI nn)), (2, .int 0), (3, .int (nI (i + 1)))]) rfl ?_
            exact ih_8  (i + 1) nw2_u_11 dn2_u_8 (pushF dnc nwc psc) plx_u_11 ydx_u_11 wyx_u_11 pcx_u_11 (by first | assumption | omega | simp_all) (by first | assumption | omega | simp_all) hq2 (mi_step hst hq1 hp2) (by omega)
    refine J_loc [2, 3, 1, 0] (lv2 := [(0, .ref q), (1, .int (nI nn)), (2, .int 0), (3, .int 0)]) rfl ?_
    exact L_8 _  0 nw dn ps pl yd wy pce_ (by first | assumption | omega | simp_all) hdn hok rfl (Nat.lt_succ_self _)
  · skip
    refine J_iconst (pc := 6) X 0 dX10_minute_6 (by decide) ?_
    refine J_istore_n (pc := 7) X [(3, .int 0), (2, .int (barP n P (nw 0))), (0, .ref q), (1, .int n)] dX10_minute_7 (by decide) rfl ?_
    refine J_iload_n (pc := 8) X 0 dX10_minute_8 rfl ?_
    refine J_iload_n (pc := 9) X 3 dX10_minute_9 rfl ?_
    refine J_icmp_ge (pc := 10) X 31 dX10_minute_10 (by decide) (fun c_13 => ?_) (fun c_13 => ?_)
    · have c_13 := Int32.not_lt.mpr c_13
      refine J_iload_n (pc := 31) X 1 dX10_minute_31 rfl ?_
      refine J_if_ne (pc := 32) X 44 dX10_minute_32 (by decide) (fun c_14 => ?_) (fun c_14 => ?_)
      · skip
        refine J_iload_n (pc := 44) X 1 dX10_minute_44 rfl ?_
        refine J_iret (pc := 45) X hr (nw, dn, ps, pl, yd, wy, pce_) dX10_minute_45 ?_ rfl
        refine ⟨?_, ?_, hok, hdn⟩
        · rw [if_neg hb]
        · rw [minS, if_neg hb]
      · skip
        exact absurd c_14 hb
    · have c_13 := Int32.not_le.mp c_13
      refine J_iload_n (pc := 13) X 1 dX10_minute_13 rfl ?_
      refine J_if_ne (pc := 14) X 31 dX10_minute_14 (by decide) (fun c_15 => ?_) (fun c_15 => ?_)
      · skip
        refine J_iload_n (pc := 31) X 1 dX10_minute_31 rfl ?_
        refine J_if_ne (pc := 32) X 44 dX10_minute_32 (by decide) (fun c_16 => ?_) (fun c_16 => ?_)
        · skip
          refine J_iload_n (pc := 44) X 1 dX10_minute_44 rfl ?_
          refine J_iret (pc := 45) X hr (nw, dn, ps, pl, yd, wy, pce_) dX10_minute_45 ?_ rfl
          refine ⟨?_, ?_, hok, hdn⟩
          · rw [if_neg hb]
          · rw [minS, if_neg hb]
        · skip
          exact absurd c_16 c_15
      · skip
        exact absurd c_15 hb
