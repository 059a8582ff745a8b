set_option maxRecDepth 100000 in
set_option maxHeartbeats 600000 in
theorem kX10_allNightHouses (l : Launch) (G : va_G) (cI cC cZ : ClassId) (q : Nat) (qtx : Nat) (qlw : Nat) (qgp : Nat) (qhm : Nat) (qpcs : Nat) (qdl : Nat) (qdg : Nat) (qdh : Nat) (qdp : Nat) (qnw : Nat) (qps : Nat) (qim : Nat) (qisd : Nat) (qkp : Nat) (qfd : Nat) (qbk : Nat) (qal : Nat) (qco : Nat) (ln : Nat) (fa : Int32) (dr : Int32) (dn : Nat) (sd : Int32) (fn : Nat) (en : Nat) (at_ : Nat) (wr : Nat) (pl : Int32) (yd : Int32) (wy : Int32) (pce_ : Int32) (tl : Int32) (lw : Nat → Int32) (gp : Nat → Int32) (P : Nat) (gr : Int32) (wd : Nat) (g : Nat) (wk : Nat) (t : Int32) (hPl : P ≤ 60) (hg : g ≤ 8) (hwk : wk ≤ 4) (hwd : wd ≤ 50) (hl0 : lw 0 = nI P) (hl1 : lw 1 = gr) (hl2 : lw 2 = nI wd) (hl3 : lw 3 = nI g) (hl4 : lw 4 = nI wk) (hP0 : 0 < g → 0 < P) (hwd0 : 0 < g → 0 < wd) : CI l G (tys3 cI cC cZ) yX10_allNightHouses cX10_allNightHouses 4 (some .int) ({ frames := 3, cells := 0, slots := 0, locals := 67 }) [.ref q, .int t] [(q, .inr (10, [.ref qtx, .int (nI ln), .int fa, .ref qlw, .ref qgp, .ref qhm, .ref qpcs, .ref qdl, .ref qdg, .ref qdh, .ref qdp, .int dr, .int tl, .ref qnw, .ref qps, .int (nI dn), .ref qim, .ref qisd, .ref qkp, .int sd, .ref qfd, .int (nI fn), .ref qbk, .int (nI en), .int (nI at_), .int (nI wr), .int pl, .int yd, .int wy, .int pce_, .ref qal, .ref qco])), (qlw, .inl (cI, 5, .inl lw)), (qgp, .inl (cI, 8, .inl gp))] (S := Unit) (fun (r : Int32) (u : Unit) => r = sumI (fun k9 => nH wd (yG P (gp k9) gr t)) g) (fun _ => [(q, .inr (10, [.ref qtx, .int (nI ln), .int fa, .ref qlw, .ref qgp, .ref qhm, .ref qpcs, .ref qdl, .ref qdg, .ref qdh, .ref qdp, .int dr, .int tl, .ref qnw, .ref qps, .int (nI dn), .ref qim, .ref qisd, .ref qkp, .int sd, .ref qfd, .int (nI fn), .ref qbk, .int (nI en), .int (nI at_), .int (nI wr), .int pl, .int yd, .int wy, .int pce_, .ref qal, .ref qco])), (qlw, .inl (cI, 5, .inl lw)), (qgp, .inl (cI, 8, .inl gp))]) := by
  refine CI.intro (by decide) (Nat.le_of_ble_eq_true rfl) ?_
  intro p0 e0 s0 m0 ar0 be0 me0 c0 A0 X hr
  refine J_iconst (pc := 0) X 0 dX10_allNightHouses_0 (by decide) ?_
  refine J_istore_n (pc := 1) X [(2, .int 0), (0, .ref q), (1, .int t)] dX10_allNightHouses_1 (by decide) rfl ?_
  refine J_iconst (pc := 2) X 0 dX10_allNightHouses_2 (by decide) ?_
  refine J_istore_n (pc := 3) X [(3, .int 0), (2, .int 0), (0, .ref q), (1, .int t)] dX10_allNightHouses_3 (by decide) rfl ?_
  have L_4 : ∀ (n_4 : Nat) (i : Nat) (hi : i ≤ g), (g - i) < n_4 → JJ p0 l e0 ({ frames := 3, cells := 0, slots := 0, locals := 67 }) s0 m0 ar0 be0 me0 c0 A0 G 4 0 0 (QI be0 ar0 s0 A0 G (tys3 cI cC cZ) (S := Unit) (fun (r : Int32) (u : Unit) => r = sumI (fun k9 => nH wd (yG P (gp k9) gr t)) g) (fun _ => [(q, .inr (10, [.ref qtx, .int (nI ln), .int fa, .ref qlw, .ref qgp, .ref qhm, .ref qpcs, .ref qdl, .ref qdg, .ref qdh, .ref qdp, .int dr, .int tl, .ref qnw, .ref qps, .int (nI dn), .ref qim, .ref qisd, .ref qkp, .int sd, .ref qfd, .int (nI fn), .ref qbk, .int (nI en), .int (nI at_), .int (nI wr), .int pl, .int yd, .int wy, .int pce_, .ref qal, .ref qco])), (qlw, .inl (cI, 5, .inl lw)), (qgp, .inl (cI, 8, .inl gp))])) [(q, .inr (10, [.ref qtx, .int (nI ln), .int fa, .ref qlw, .ref qgp, .ref qhm, .ref qpcs, .ref qdl, .ref qdg, .ref qdh, .ref qdp, .int dr, .int tl, .ref qnw, .ref qps, .int (nI dn), .ref qim, .ref qisd, .ref qkp, .int sd, .ref qfd, .int (nI fn), .ref qbk, .int (nI en), .int (nI at_), .int (nI wr), .int pl, .int yd, .int wy, .int pce_, .ref qal, .ref qco])), (qlw, .inl (cI, 5, .inl lw)), (qgp, .inl (cI, 8, .inl gp))] 4 [(0, .ref q), (1, .int t), (2, .int (sumI (fun k9 => nH wd (yG P (gp k9) gr t)) i)), (3, .int (nI i))] [] := by
    intro n_4
    induction n_4 with
    | zero => intro i hi hm_4; exact absurd hm_4 (Nat.not_lt_zero _)
    | succ n_4 ih_4 =>
      intro i hi hm_4
      refine J_iload_n (pc := 4) X 3 dX10_allNightHouses_4 rfl ?_
      refine J_aload_n (pc := 5) X 0 dX10_allNightHouses_5 rfl ?_
      refine J_get (pc := 6) X clX10 0 3 rfl (by decide) g892 rfl dX10_allNightHouses_6 ?_
      refine J_iconst (pc := 9) X 3 dX10_allNightHouses_9 (by decide) ?_
      refine J_iald (pc := 10) X 1 0 3 rfl rfl rfl (by decide) (by decide) dX10_allNightHouses_10 ?_
      refine J_top (y := nI g) hl3 ?_
      refine J_icmp_ge (pc := 11) X 33 dX10_allNightHouses_11 (by decide) (fun c_1 => ?_) (fun c_1 => ?_)
      · have c_1 : g ≤ i := n_le_of (a := g) (b := i) (by omega) (by omega) c_1
        refine J_iload_n (pc := 33) X 2 dX10_allNightHouses_33 rfl ?_
        refine J_iret (pc := 34) X hr () dX10_allNightHouses_34 ?_ rfl
        exact congrArg (sumI _) (by omega)
      · have c_1 : i < g := n_nle_of (a := g) (b := i) (by omega) (by omega) c_1
        refine J_iload_n (pc := 14) X 2 dX10_allNightHouses_14 rfl ?_
        refine J_aload_n (pc := 15) X 0 dX10_allNightHouses_15 rfl ?_
        refine J_aload_n (pc := 16) X 0 dX10_allNightHouses_16 rfl ?_
        refine J_iload_n (pc := 17) X 3 dX10_allNightHouses_17 rfl ?_
        refine J_iload_n (pc := 18) X 1 dX10_allNightHouses_18 rfl ?_
        refine J_callR (pc := 19) (As := [.int (nI i), .int t]) (rest := [.ref q, .int (sumI (fun k9 => nH wd (yG P (gp k9) gr t)) i)]) X mtX10_yardsOf g1067 [0, 1, 2] 0 (kX10_yardsOf l G cI cC cZ q qtx qlw qgp qhm qpcs qdl qdg qdh qdp qnw qps qim qisd qkp qfd qbk qal qco ln fa dr dn sd fn en at_ wr pl yd wy pce_ tl lw gp P gr wd g wk i t (by first | assumption | omega) (by first | assumption | omega) (by first | assumption | omega) (by first | assumption | omega) (by first | assumption | omega) (by first | assumption | omega) (by first | assumption | omega) (by first | assumption | omega) (by first | assumption | omega) (by first | assumption | omega) (by first | assumption | omega)) ⟨Nat.le_of_ble_eq_true rfl, Nat.le_of_ble_eq_true rfl⟩ rfl rfl rfl (by decide) rfl rfl rfl rfl rfl (Nat.le_of_ble_eq_true rfl) (Nat.zero_le _) (Nat.zero_le _) dX10_allNightHouses_19 (fun r_2 u_3 w_4 => ?_)
        try dsimp only at w_4
        subst w_4
        refine J_callR (pc := 22) (As := [.int (yG P (gp i) gr t)]) (rest := [.int (sumI (fun k9 => nH wd (yG P (gp k9) gr t)) i)]) X mtX10_nightHouses g1078 [0, 1] 0 (kX10_nightHouses l G cI cC cZ q qtx qlw qgp qhm qpcs qdl qdg qdh qdp qnw qps qim qisd qkp qfd qbk qal qco ln fa dr dn sd fn en at_ wr pl yd wy pce_ tl lw P gr wd g wk (yG P (gp i) gr t) (by first | assumption | omega) (by first | assumption | omega) (by first | assumption | omega) (by first | assumption | omega) (by first | assumption | omega) (by first | assumption | omega) (by first | assumption | omega) (by first | assumption | omega) (by first | assumption | omega) (by first | assumption | omega)) ⟨Nat.le_of_ble_eq_true rfl, Nat.le_of_ble_eq_true rfl⟩ rfl rfl rfl (by decide) rfl rfl rfl rfl rfl (Nat.le_of_ble_eq_true rfl) (Nat.zero_le _) (Nat.zero_le _) dX10_allNightHouses_22 (fun r_5 u_6 w_7 => ?_)
        try dsimp only at w_7
        subst w_7
        refine J_iadd (pc := 25) X dX10_allNightHouses_25 ?_
        refine J_istore_n (pc := 26) X [(2, .int ((sumI (fun k9 => nH wd (yG P (gp k9) gr t)) i) + (nH wd (yG P (gp i) gr t)))), (0, .ref q), (1, .int t), (3, .int (nI i))] dX10_allNightHouses_26 (by decide) rfl ?_
        refine J_iinc (pc := 27) X (nI (i + 1)) 3 [(3, .int (nI (i + 1))), (2, .int ((sumI (fun k9 => nH wd (yG P (gp k9) gr t)) i) + (nH wd (yG P (gp i) gr t)))), (0, .ref q), (1, .int t)] dX10_allNightHouses_27 rfl (n_add (x := i) (y := 1) rfl rfl (by omega)) (by decide) rfl ?_
        refine J_goto (pc := 30) X 4 dX10_allNightHouses_30 (by decide) ?_
        refine J_loc [2, 3, 1, 0] (lv2 := [(0, .ref q), (1, .int t), (2, .int (sumI (fun k9 => nH wd (yG P (gp k9) gr t)) (i + 1))), (3, .int (nI (i + 1)))]) rfl ?_
        exact ih_4  (i + 1) (by first | assumption | omega | simp_all) (by omega)
  refine J_loc [2, 3, 1, 0] (lv2 := [(0, .ref q), (1, .int t), (2, .int (sumI (fun k9 => nH wd (yG P (gp k9) gr t)) 0)), (3, .int 0)]) rfl ?_
  exact L_4 _  0 (by first | assumption | omega | simp_all) (Nat.lt_succ_self _)
set_option maxRecDepth 100000 in
set_option maxHeartbeats 600000 in
theorem kX10_tries (l : Launch) (G : va_G) (cI cC cZ : ClassId) (q : Nat) (qtx : Nat) (qlw : Nat) (qgp : Nat) (qhm : Nat) (qpcs : Nat) (qdl : Nat) (qdg : Nat) (qdh : Nat) (qdp : Nat) (qnw : Nat) (qps : Nat) (qim : Nat) (qisd : Nat) (qkp : Nat) (qfd : Nat) (qbk : Nat) (qal : Nat) (qco : Nat) (ln : Nat) (fa : Int32) (dr : Int32) (dn : Nat) (sd : Int32) (fn : Nat) (en : Nat) (at_ : Nat) (wr : Nat) (pl : Int32) (yd : Int32) (wy : Int32) (pce_ : Int32) (tl : Int32) (nw : Nat → Int32) (pcs : Nat → Int32) (w : Nat) (pos : Nat) (hw : w < 4) (hpos : nw (3 * w + 2) = nI pos) : CV l G (tys3 cI cC cZ) yX10_tries cX10_tries 2 ({ frames := 0, cells := 0, slots := 0, locals := 0 }) [.ref q, .int (nI w)] [(q, .inr (10, [.ref qtx, .int (nI ln), .int fa, .ref qlw, .ref qgp, .ref qhm, .ref qpcs, .ref qdl, .ref qdg, .ref qdh, .ref qdp, .int dr, .int tl, .ref qnw, .ref qps, .int (nI dn), .ref qim, .ref qisd, .ref qkp, .int sd, .ref qfd, .int (nI fn), .ref qbk, .int (nI en), .int (nI at_), .int (nI wr), .int pl, .int yd, .int wy, .int pce_, .ref qal, .ref qco])), (qnw, .inl (cI, 14, .inl nw)), (qpcs, .inl (cI, 4, .inl pcs))] (S := Unit) (fun (u : Unit) => True) (fun (u : Unit) => [(q, .inr (10, [.ref qtx, .int (nI ln), .int fa, .ref qlw, .ref qgp, .ref qhm, .ref qpcs, .ref qdl, .ref qdg, .ref qdh, .ref qdp, .int dr, .int tl, .ref qnw, .ref qps, .int (nI dn), .ref qim, .ref qisd, .ref qkp, .int sd, .ref qfd, .int (nI fn), .ref qbk, .int (nI en), .int (nI at_), .int (nI wr), .int (nI pos), .int (nw (3 * w + 3)), .int (nw (3 * w + 4)), .int (pcs w), .ref qal, .ref qco])), (qnw, .inl (cI, 14, .inl nw)), (qpcs, .inl (cI, 4, .inl pcs))]) := by
  refine CV.intro (by decide) (Nat.le_of_ble_eq_true rfl) ?_
  intro p0 e0 s0 m0 ar0 be0 me0 c0 A0 X hr
  refine J_aload_n (pc := 0) X 0 dX10_tries_0 rfl ?_
  refine J_aload_n (pc := 1) X 0 dX10_tries_1 rfl ?_
  refine J_get (pc := 2) X clX10 0 13 rfl (by decide) g902 rfl dX10_tries_2 ?_
  refine J_iconst (pc := 5) X 2 dX10_tries_5 (by decide) ?_
  refine J_iconst (pc := 6) X 3 dX10_tries_6 (by decide) ?_
  refine J_iload_n (pc := 7) X 1 dX10_tries_7 rfl ?_
  refine J_imul (pc := 8) X dX10_tries_8 ?_
  refine J_top (y := nI (3 * w)) (n_mul (x := 3) (y := w) rfl rfl (by omega)) ?_
  refine J_iadd (pc := 9) X dX10_tries_9 ?_
  refine J_top (y := nI (3 * w + 2)) (n_add (x := 2) (y := 3 * w) rfl rfl (by omega)) ?_
  refine J_iald (pc := 10) X 1 0 (3 * w + 2) rfl rfl rfl (by omega) (by decide) dX10_tries_10 ?_
  refine J_top (y := nI pos) hpos ?_
  refine J_put (pc := 11) X clX10 0 26 [(q, .inr (10, [.ref qtx, .int (nI ln), .int fa, .ref qlw, .ref qgp, .ref qhm, .ref qpcs, .ref qdl, .ref qdg, .ref qdh, .ref qdp, .int dr, .int tl, .ref qnw, .ref qps, .int (nI dn), .ref qim, .ref qisd, .ref qkp, .int sd, .ref qfd, .int (nI fn), .ref qbk, .int (nI en), .int (nI at_), .int (nI wr), .int (nI pos), .int yd, .int wy, .int pce_, .ref qal, .ref qco])), (qnw, .inl (cI, 14, .inl nw)), (qpcs, .inl (cI, 4, .inl pcs))] rfl (by decide) g915 rfl rfl rfl (Nat.le_of_ble_eq_true rfl) rfl dX10_tries_11 ?_
  refine J_aload_n (pc := 14) X 0 dX10_tries_14 rfl ?_
  refine J_aload_n (pc := 15) X 0 dX10_tries_15 rfl ?_
  refine J_get (pc := 16) X clX10 0 13 rfl (by decide) g902 rfl dX10_tries_16 ?_
  refine J_iconst (pc := 19) X 2 dX10_tries_19 (by decide) ?_
  refine J_iconst (pc := 20) X 3 dX10_tries_20 (by decide) ?_
  refine J_iload_n (pc := 21) X 1 dX10_tries_21 rfl ?_
  refine J_imul (pc := 22) X dX10_tries_22 ?_
  refine J_top (y := nI (3 * w)) (n_mul (x := 3) (y := w) rfl rfl (by omega)) ?_
  refine J_iadd (pc := 23) X dX10_tries_23 ?_
  refine J_top (y := nI (3 * w + 2)) (n_add (x := 2) (y := 3 * w) rfl rfl (by omega)) ?_
  refine J_iconst (pc := 24) X 1 dX10_tries_24 (by decide) ?_
  refine J_iadd (pc := 25) X dX10_tries_25 ?_
  refine J_top (y := nI (3 * w + 3)) (n_add (x := 3 * w + 2) (y := 1) rfl rfl (by omega)) ?_
  refine J_iald (pc := 26) X 1 0 (3 * w + 3) rfl rfl rfl (by omega) (by decide) dX10_tries_26 ?_
  refine J_put (pc := 27) X clX10 0 27 [(q, .inr (10, [.ref qtx, .int (nI ln), .int fa, .ref qlw, .ref qgp, .ref qhm, .ref qpcs, .ref qdl, .ref qdg, .ref qdh, .ref qdp, .int dr, .int tl, .ref qnw, .ref qps, .int (nI dn), .ref qim, .ref qisd, .ref qkp, .int sd, .ref qfd, .int (nI fn), .ref qbk, .int (nI en), .int (nI at_), .int (nI wr), .int (nI pos), .int (nw (3 * w + 3)), .int wy, .int pce_, .ref qal, .ref qco])), (qnw, .inl (cI, 14, .inl nw)), (qpcs, .inl (cI, 4, .inl pcs))] rfl (by decide) g916 rfl rfl rfl (Nat.le_of_ble_eq_true rfl) rfl dX10_tries_27 ?_
  refine J_aload_n (pc := 30) X 0 dX10_tries_30 rfl ?_
  refine J_aload_n (pc := 31) X 0 dX10_tries_31 rfl ?_
  refine J_get (pc := 32) X clX10 0 13 rfl (by decide) g902 rfl dX10_tries_32 ?_
  refine J_iconst (pc := 35) X 2 dX10_tries_35 (by decide) ?_
  refine J_iconst (pc := 36) X 3 dX10_tries_36 (by decide) ?_
  refine J_iload_n (pc := 37) X 1 dX10_tries_37 rfl ?_
  refine J_imul (pc := 38) X dX10_tries_38 ?_
  refine J_top (y := nI (3 * w)) (n_mul (x := 3) (y := w) rfl rfl (by omega)) ?_
  refine J_iadd (pc := 39) X dX10_tries_39 ?_
  refine J_top (y := nI (3 * w + 2)) (n_add (x := 2) (y := 3 * w) rfl rfl (by omega)) ?_
  refine J_iconst (pc := 40) X 2 dX10_tries_40 (by decide) ?_
  refine J_iadd (pc := 41) X dX10_tries_41 ?_
  refine J_top (y := nI (3 * w + 4)) (n_add (x := 3 * w + 2) (y := 2) rfl rfl (by omega)) ?_
  refine J_iald (pc := 42) X 1 0 (3 * w + 4) rfl rfl rfl (by omega) (by decide) dX10_tries_42 ?_
  refine J_put (pc := 43) X clX10 0 28 [(q, .inr (10, [.ref qtx, .int (nI ln), .int fa, .ref qlw, .ref qgp, .ref qhm, .ref qpcs, .ref qdl, .ref qdg, .ref qdh, .ref qdp, .int dr, .int tl, .ref qnw, .ref qps, .int (nI dn), .ref qim, .ref qisd, .ref qkp, .int sd, .ref qfd, .int (nI fn), .ref qbk, .int (nI en), .int (nI at_), .int (nI wr), .int (nI pos), .int (nw (3 * w + 3)), .int (nw (3 * w + 4)), .int pce_, .ref qal, .ref qco])), (qnw, .inl (cI, 14, .inl nw)), (qpcs, .inl (cI, 4, .inl pcs))] rfl (by decide) g917 rfl rfl rfl (Nat.le_of_ble_eq_true rfl) rfl dX10_tries_43 ?_
  refine J_aload_n (pc := 46) X 0 dX10_tries_46 rfl ?_
  refine J_aload_n (pc := 47) X 0 dX10_tries_47 rfl ?_
  refine J_get (pc := 48) X clX10 0 6 rfl (by decide) g895 rfl dX10_tries_48 ?_
  refine J_iload_n (pc := 51) X 1 dX10_tries_51 rfl ?_
  refine J_iald (pc := 52) X 2 0 w rfl rfl rfl (by omega) (by decide) dX10_tries_52 ?_
  refine J_put (pc := 53) X clX10 0 29 [(q, .inr (10, [.ref qtx, .int (nI ln), .int fa, .ref qlw, .ref qgp, .ref qhm, .ref qpcs, .ref qdl, .ref qdg, .ref qdh, .ref qdp, .int dr, .int tl, .ref qnw, .ref qps, .int (nI dn), .ref qim, .ref qisd, .ref qkp, .int sd, .ref qfd, .int (nI fn), .ref qbk, .int (nI en), .int (nI at_), .int (nI wr), .int (nI pos), .int (nw (3 * w + 3)), .int (nw (3 * w + 4)), .int (pcs w), .ref qal, .ref qco])), (qnw, .inl (cI, 14, .inl nw)), (qpcs, .inl (cI, 4, .inl pcs))] rfl (by decide) g918 rfl rfl rfl (Nat.le_of_ble_eq_true rfl) rfl dX10_tries_53 ?_
  refine J_vret (pc := 56) X hr () dX10_tries_56 ?_ rfl
  trivial
set_option maxRecDepth 100000 in
set_option maxHeartbeats 600000 in
theorem kX10_setsOut (l : Launch) (G : va_G) (cI cC cZ : ClassId) (q : Nat) (qtx : Nat) (qlw : Nat) (qgp : Nat) (qhm : Nat) (qpcs : Nat) (qdl : Nat) (qdg : Nat) (qdh : Nat) (qdp : Nat) (qnw : Nat) (qps : Nat) (qim : Nat) (qisd : Nat) (qkp : Nat) (qfd : Nat) (qbk : Nat) (qal : Nat) (qco : Nat) (ln : Nat) (fa : Int32) (dr : Int32) (dn : Nat) (sd : Int32) (fn : Nat) (en : Nat) (at_ : Nat) (wr : Nat) (pl : Int32) (yd : Int32) (wy : Int32) (pce_ : Int32) (tl : Int32) (h : Nat) (w : Int32) (v : Int32) : CV l G (tys3 cI cC cZ) yX10_setsOut cX10_setsOut 4 ({ frames := 0, cells := 0, slots := 0, locals := 0 }) [.ref q, .int (nI h), .int w, .int v] [(q, .inr (10, [.ref qtx, .int (nI ln), .int fa, .ref qlw, .ref qgp, .ref qhm, .ref qpcs, .ref qdl, .ref qdg, .ref qdh, .ref qdp, .int dr, .int tl, .ref qnw, .ref qps, .int (nI dn), .ref qim, .ref qisd, .ref qkp, .int sd, .ref qfd, .int (nI fn), .ref qbk, .int (nI en), .int (nI at_), .int (nI wr), .int pl, .int yd, .int wy, .int pce_, .ref qal, .ref qco]))] (S := Unit) (fun (u : Unit) => True) (fun (u : Unit) => [(q, .inr (10, [.ref qtx, .int (nI ln), .int fa, .ref qlw, .ref qgp, .ref qhm, .ref qpcs, .ref qdl, .ref qdg, .ref qdh, .ref qdp, .int dr, .int tl, .ref qnw, .ref qps, .int (nI dn), .ref qim, .ref qisd, .ref qkp, .int sd, .ref qfd, .int (nI fn), .ref qbk, .int (nI en), .int (nI at_), .int (nI wr), .int (nI h), .int 0, .int w, .int v, .ref qal, .ref qco]))]) := by
  refine CV.intro (by decide) (Nat.le_of_ble_eq_true rfl) ?_
  intro p0 e0 s0 m0 ar0 be0 me0 c0 A0 X hr
  refine J_aload_n (pc := 0) X 0 dX10_setsOut_0 rfl ?_
  refine J_iload_n (pc := 1) X 1 dX10_setsOut_1 rfl ?_
  refine J_put (pc := 2) X clX10 0 26 [(q, .inr (10, [.ref qtx, .int (nI ln), .int fa, .ref qlw, .ref qgp, .ref qhm, .ref qpcs, .ref qdl, .ref qdg, .ref qdh, .ref qdp, .int dr, .int tl, .ref qnw, .ref qps, .int (nI dn), .ref qim, .ref qisd, .ref qkp, .int sd, .ref qfd, .int (nI fn), .ref qbk, .int (nI en), .int (nI at_), .int (nI wr), .int (nI h), .int yd, .int wy, .int pce_, .ref qal, .ref qco]))] rfl (by decide) g915 rfl rfl rfl (Nat.le_of_ble_eq_true rfl) rfl dX10_setsOut_2 ?_
  refine J_aload_n (pc := 5) X 0 dX10_setsOut_5 rfl ?_
  refine J_iconst (pc := 6) X 0 dX10_setsOut_6 (by decide) ?_
  refine J_put (pc := 7) X clX10 0 27 [(q, .inr (10, [.ref qtx, .int (nI ln), .int fa, .ref qlw, .ref qgp, .ref qhm, .ref qpcs, .ref qdl, .ref qdg, .ref qdh, .ref qdp, .int dr, .int tl, .ref qnw, .ref qps, .int (nI dn), .ref qim, .ref qisd, .ref qkp, .int sd, .ref qfd, .int (nI fn), .ref qbk, .int (nI en), .int (nI at_), .int (nI wr), .int (nI h), .int 0, .int wy, .int pce_, .ref qal, .ref qco]))] rfl (by decide) g916 rfl rfl rfl (Nat.le_of_ble_eq_true rfl) rfl dX10_setsOut_7 ?_
  refine J_aload_n (pc := 10) X 0 dX10_setsOut_10 rfl ?_
  refine J_iload_n (pc := 11) X 2 dX10_setsOut_11 rfl ?_
  refine J_put (pc := 12) X clX10 0 28 [(q, .inr (10, [.ref qtx, .int (nI ln), .int fa, .ref qlw, .ref qgp, .ref qhm, .ref qpcs, .ref qdl, .ref qdg, .ref qdh, .ref qdp, .int dr, .int tl, .ref qnw, .ref qps, .int (nI dn), .ref qim, .ref qisd, .ref qkp, .int sd, .ref qfd, .int (nI fn), .ref qbk, .int (nI en), .int (nI at_), .int (nI wr), .int (nI h), .int 0, .int w, .int pce_, .ref qal, .ref qco]))] rfl (by decide) g917 rfl rfl rfl (Nat.le_of_ble_eq_true rfl) rfl dX10_setsOut_12 ?_
  refine J_aload_n (pc := 15) X 0 dX10_setsOut_15 rfl ?_
  refine J_iload_n (pc := 16) X 3 dX10_setsOut_16 rfl ?_
  refine J_put (pc := 17) X clX10 0 29 [(q, .inr (10, [.ref qtx, .int (nI ln), .int fa, .ref qlw, .ref qgp, .ref qhm, .ref qpcs, .ref qdl, .ref qdg, .ref qdh, .ref qdp, .int dr, .int tl, .ref qnw, .ref qps, .int (nI dn), .ref qim, .ref qisd, .ref qkp, .int sd, .ref qfd, .int (nI fn), .ref qbk, .int (nI en), .int (nI at_), .int (nI wr), .int (nI h), .int 0, .int w, .int v, .ref qal, .ref qco]))] rfl (by decide) g918 rfl rfl rfl (Nat.le_of_ble_eq_true rfl) rfl dX10_setsOut_17 ?_
  refine J_vret (pc := 20) X hr () dX10_setsOut_20 ?_ rfl
  trivial
set_option maxRecDepth 100000 in
set_option maxHeartbeats 600000 in
theorem kX10_walks (l : Launch) (G : va_G) (cI cC cZ : ClassId) (q : Nat) (qtx : Nat) (qlw : Nat) (qgp : Nat) (qhm : Nat) (qpcs : Nat) (qdl : Nat) (qdg : Nat) (qdh : Nat) (qdp : Nat) (qnw : Nat) (qps : Nat) (qim : Nat) (qisd : Nat) (qkp : Nat) (qfd : Nat) (qbk : Nat) (qal : Nat) (qco : Nat) (ln : Nat) (fa : Int32) (dr : Int32) (dn : Nat) (sd : Int32) (fn : Nat) (en : Nat) (at_ : Nat) (wr : Nat) (tl : Int32) (lw : Nat → Int32) (gp : Nat → Int32) (P : Nat) (gr : Int32) (wd : Nat) (g : Nat) (wk : Nat) (pos : Nat) (y : Int32) (w : Int32) (v : Int32) (t : Int32) (rp : Int32) (hPl : P ≤ 60) (hg : g ≤ 8) (hwk : wk ≤ 4) (hwd : wd ≤ 50) (hl0 : lw 0 = nI P) (hl1 : lw 1 = gr) (hl2 : lw 2 = nI wd) (hl3 : lw 3 = nI g) (hl4 : lw 4 = nI wk) (hP0 : 0 < g → 0 < P) (hpos : pos ≤ g ∨ (100 ≤ pos ∧ pos < 100 + g)) : CV l G (tys3 cI cC cZ) yX10_walks cX10_walks 4 ({ frames := 3, cells := 0, slots := 0, locals := 67 }) [.ref q, .int t, .int rp] [(q, .inr (10, [.ref qtx, .int (nI ln), .int fa, .ref qlw, .ref qgp, .ref qhm, .ref qpcs, .ref qdl, .ref qdg, .ref qdh, .ref qdp, .int dr, .int tl, .ref qnw, .ref qps, .int (nI dn), .ref qim, .ref qisd, .ref qkp, .int sd, .ref qfd, .int (nI fn), .ref qbk, .int (nI en), .int (nI at_), .int (nI wr), .int (nI pos), .int y, .int w, .int v, .ref qal, .ref qco])), (qlw, .inl (cI, 5, .inl lw)), (qgp, .inl (cI, 8, .inl gp))] (S := Nat × Int32 × Int32) (fun (u : Nat × Int32 × Int32) => (u.1, u.2.1, u.2.2) = stP g (fun k9 t9 => yG P (gp k9) gr t9) rp v t pos y w) (fun (u : Nat × Int32 × Int32) => [(q, .inr (10, [.ref qtx, .int (nI ln), .int fa, .ref qlw, .ref qgp, .ref qhm, .ref qpcs, .ref qdl, .ref qdg, .ref qdh, .ref qdp, .int dr, .int tl, .ref qnw, .ref qps, .int (nI dn), .ref qim, .ref qisd, .ref qkp, .int sd, .ref qfd, .int (nI fn), .ref qbk, .int (nI en), .int (nI at_), .int (nI wr), .int (nI u.1), .int u.2.1, .int u.2.2, .int v, .ref qal, .ref qco])), (qlw, .inl (cI, 5, .inl lw)), (qgp, .inl (cI, 8, .inl gp))]) := by
  refine CV.intro (by decide) (Nat.le_of_ble_eq_true rfl) ?_
  intro p0 e0 s0 m0 ar0 be0 me0 c0 A0 X hr
  refine J_aload_n (pc := 0) X 0 dX10_walks_0 rfl ?_
  refine J_get (pc := 1) X clX10 0 26 rfl (by decide) g915 rfl dX10_walks_1 ?_
  refine J_bipush (pc := 4) X 100 dX10_walks_4 (by decide) ?_
  refine J_icmp_ge (pc := 6) X 73 dX10_walks_6 (by decide) (fun c_1 => ?_) (fun c_1 => ?_)
  · have c_1 : 100 ≤ pos := n_le_of (a := 100) (b := pos) (by omega) (by omega) c_1
    refine J_aload_n (pc := 73) X 0 dX10_walks_73 rfl ?_
    refine J_get (pc := 74) X clX10 0 26 rfl (by decide) g915 rfl dX10_walks_74 ?_
    refine J_bipush (pc := 77) X 100 dX10_walks_77 (by decide) ?_
    refine J_icmp_lt (pc := 79) X 157 dX10_walks_79 (by decide) (fun c_2 => ?_) (fun c_2 => ?_)
    · have c_2 : pos < 100 := n_lt_of (a := pos) (b := 100) (by omega) (by omega) c_2
      exfalso; omega
    · have c_2 : 100 ≤ pos := n_nlt_of (a := pos) (b := 100) (by omega) (by omega) c_2
      refine J_aload_n (pc := 82) X 0 dX10_walks_82 rfl ?_
      refine J_get (pc := 83) X clX10 0 26 rfl (by decide) g915 rfl dX10_walks_83 ?_
      refine J_bipush (pc := 86) X 100 dX10_walks_86 (by decide) ?_
      refine J_isub (pc := 88) X dX10_walks_88 ?_
      refine J_top (y := nI (pos - 100)) (n_sub (x := pos) (y := 100) rfl rfl (by omega) (by omega)) ?_
      refine J_istore_n (pc := 89) X [(3, .int (nI (pos - 100))), (0, .ref q), (1, .int t), (2, .int rp)] dX10_walks_89 (by decide) rfl ?_
      refine J_aload_n (pc := 90) X 1 dX10_walks_90 rfl ?_
      refine J_dup (pc := 91) X dX10_walks_91 rfl ?_
      refine J_get (pc := 92) X clX10 0 27 rfl (by decide) g916 rfl dX10_walks_92 ?_
      refine J_iload_n (pc := 95) X 3 dX10_walks_95 rfl ?_
      refine J_iload_n (pc := 96) X 0 dX10_walks_96 rfl ?_
      refine J_callS (pc := 97) (As := [.int rp, .int (nI (pos - 100))]) (rest := [.int y, .ref q]) X mtX10_has g1039 [] (kX10_has l G cI cC cZ rp (pos - 100) ) ⟨Nat.le_of_ble_eq_true rfl, Nat.le_of_ble_eq_true rfl⟩ rfl rfl rfl (by decide) rfl rfl (Nat.le_of_ble_eq_true rfl) (Nat.zero_le _) (Nat.zero_le _) dX10_walks_97 (fun r_3 u_4 w_5 => ?_)
      try dsimp only at w_5
      subst w_5
      refine J_bif_eq (pc := 100) X 112 dX10_walks_100 (by decide) (fun c_6 => ?_) (fun c_6 => ?_)
      · skip
        refine J_aload_n (pc := 112) X 1 dX10_walks_112 rfl ?_
        refine J_get (pc := 113) X clX10 0 29 rfl (by decide) g918 rfl dX10_walks_113 ?_
        refine J_iadd (pc := 116) X dX10_walks_116 ?_
        refine J_put (pc := 117) X clX10 0 27 [(q, .inr (10, [.ref qtx, .int (nI ln), .int fa, .ref qlw, .ref qgp, .ref qhm, .ref qpcs, .ref qdl, .ref qdg, .ref qdh, .ref qdp, .int dr, .int tl, .ref qnw, .ref qps, .int (nI dn), .ref qim, .ref qisd, .ref qkp, .int sd, .ref qfd, .int (nI fn), .ref qbk, .int (nI en), .int (nI at_), .int (nI wr), .int (nI pos), .int (y + v), .int w, .int v, .ref qal, .ref qco])), (qlw, .inl (cI, 5, .inl lw)), (qgp, .inl (cI, 8, .inl gp))] rfl (by decide) g916 rfl rfl rfl (Nat.le_of_ble_eq_true rfl) rfl dX10_walks_117 ?_
        refine J_aload_n (pc := 120) X 1 dX10_walks_120 rfl ?_
        refine J_get (pc := 121) X clX10 0 27 rfl (by decide) g916 rfl dX10_walks_121 ?_
        refine J_aload_n (pc := 124) X 1 dX10_walks_124 rfl ?_
        refine J_iload_n (pc := 125) X 0 dX10_walks_125 rfl ?_
        refine J_iload_n (pc := 126) X 2 dX10_walks_126 rfl ?_
        refine J_callR (pc := 127) (As := [.int (nI (pos - 100)), .int t]) (rest := [.int (y + v)]) X mtX10_yardsOf g1067 [0, 1, 2] 0 (kX10_yardsOf l G cI cC cZ q qtx qlw qgp qhm qpcs qdl qdg qdh qdp qnw qps qim qisd qkp qfd qbk qal qco ln fa dr dn sd fn en at_ wr (nI pos) (y + v) w v tl lw gp P gr wd g wk (pos - 100) t (by first | assumption | omega) (by first | assumption | omega) (by first | assumption | omega) (by first | assumption | omega) (by first | assumption | omega) (by first | assumption | omega) (by first | assumption | omega) (by first | assumption | omega) (by first | assumption | omega) (by first | assumption | omega) (by first | assumption | omega)) ⟨Nat.le_of_ble_eq_true rfl, Nat.le_of_ble_eq_true rfl⟩ rfl rfl rfl (by decide) rfl rfl rfl rfl rfl (Nat.le_of_ble_eq_true rfl) (Nat.zero_le _) (Nat.zero_le _) dX10_walks_127 (fun r_7 u_8 w_9 => ?_)
        try dsimp only at w_9
        subst w_9
        refine J_icmp_lt (pc := 130) X 157 dX10_walks_130 (by decide) (fun c_10 => ?_) (fun c_10 => ?_)
        · skip
          refine J_vret (pc := 157) X hr (pos, (y + v), w) dX10_walks_157 ?_ rfl
          try have q1 : ¬ pos < 100 := by omega
          try have q2 : pos < 100 := by omega
          try have q3 : 100 + (pos - 100) = pos := by omega
          try simp only [Int32.zero_add] at *
          simp [stP, goK, pce, *]
          try omega
        · skip
          refine J_aload_n (pc := 133) X 1 dX10_walks_133 rfl ?_
          refine J_aload_n (pc := 134) X 1 dX10_walks_134 rfl ?_
          refine J_get (pc := 135) X clX10 0 28 rfl (by decide) g917 rfl dX10_walks_135 ?_
          refine J_iconst (pc := 138) X 2 dX10_walks_138 (by decide) ?_
          refine J_icmp_ne (pc := 139) X 148 dX10_walks_139 (by decide) (fun c_11 => ?_) (fun c_11 => ?_)
          · skip
            refine J_iload_n (pc := 148) X 0 dX10_walks_148 rfl ?_
            refine J_put (pc := 149) X clX10 0 26 [(q, .inr (10, [.ref qtx, .int (nI ln), .int fa, .ref qlw, .ref qgp, .ref qhm, .ref qpcs, .ref qdl, .ref qdg, .ref qdh, .ref qdp, .int dr, .int tl, .ref qnw, .ref qps, .int (nI dn), .ref qim, .ref qisd, .ref qkp, .int sd, .ref qfd, .int (nI fn), .ref qbk, .int (nI en), .int (nI at_), .int (nI wr), .int (nI (pos - 100)), .int (y + v), .int w, .int v, .ref qal, .ref qco])), (qlw, .inl (cI, 5, .inl lw)), (qgp, .inl (cI, 8, .inl gp))] rfl (by decide) g915 rfl rfl rfl (Nat.le_of_ble_eq_true rfl) rfl dX10_walks_149 ?_
            refine J_aload_n (pc := 152) X 1 dX10_walks_152 rfl ?_
            refine J_iconst (pc := 153) X 0 dX10_walks_153 (by decide) ?_
            refine J_put (pc := 154) X clX10 0 27 [(q, .inr (10, [.ref qtx, .int (nI ln), .int fa, .ref qlw, .ref qgp, .ref qhm, .ref qpcs, .ref qdl, .ref qdg, .ref qdh, .ref qdp, .int dr, .int tl, .ref qnw, .ref qps, .int (nI dn), .ref qim, .ref qisd, .ref qkp, .int sd, .ref qfd, .int (nI fn), .ref qbk, .int (nI en), .int (nI at_), .int (nI wr), .int (nI (pos - 100)), .int 0, .int w, .int v, .ref qal, .ref qco])), (qlw, .inl (cI, 5, .inl lw)), (qgp, .inl (cI, 8, .inl gp))] rfl (by decide) g916 rfl rfl rfl (Nat.le_of_ble_eq_true rfl) rfl dX10_walks_154 ?_
            refine J_vret (pc := 157) X hr ((pos - 100), 0, w) dX10_walks_157 ?_ rfl
            try have q1 : ¬ pos < 100 := by omega
            try have q2 : pos < 100 := by omega
            try have q3 : 100 + (pos - 100) = pos := by omega
            try simp only [Int32.zero_add] at *
            simp [stP, goK, pce, *]
            try omega
          · skip
            refine J_iload_n (pc := 142) X 0 dX10_walks_142 rfl ?_
            refine J_iconst (pc := 143) X 1 dX10_walks_143 (by decide) ?_
            refine J_iadd (pc := 144) X dX10_walks_144 ?_
            refine J_top (y := nI (pos - 99)) (n_add (x := pos - 100) (y := 1) rfl rfl (by omega)) ?_
            refine J_goto (pc := 145) X 149 dX10_walks_145 (by decide) ?_
            refine J_put (pc := 149) X clX10 0 26 [(q, .inr (10, [.ref qtx, .int (nI ln), .int fa, .ref qlw, .ref qgp, .ref qhm, .ref qpcs, .ref qdl, .ref qdg, .ref qdh, .ref qdp, .int dr, .int tl, .ref qnw, .ref qps, .int (nI dn), .ref qim, .ref qisd, .ref qkp, .int sd, .ref qfd, .int (nI fn), .ref qbk, .int (nI en), .int (nI at_), .int (nI wr), .int (nI (pos - 99)), .int (y + v), .int w, .int v, .ref qal, .ref qco])), (qlw, .inl (cI, 5, .inl lw)), (qgp, .inl (cI, 8, .inl gp))] rfl (by decide) g915 rfl rfl rfl (Nat.le_of_ble_eq_true rfl) rfl dX10_walks_149 ?_
            refine J_aload_n (pc := 152) X 1 dX10_walks_152 rfl ?_
            refine J_iconst (pc := 153) X 0 dX10_walks_153 (by decide) ?_
            refine J_put (pc := 154) X clX10 0 27 [(q, .inr (10, [.ref qtx, .int (nI ln), .int fa, .ref qlw, .ref qgp, .ref qhm, .ref qpcs, .ref qdl, .ref qdg, .ref qdh, .ref qdp, .int dr, .int tl, .ref qnw, .ref qps, .int (nI dn), .ref qim, .ref qisd, .ref qkp, .int sd, .ref qfd, .int (nI fn), .ref qbk, .int (nI en), .int (nI at_), .int (nI wr), .int (nI (pos - 99)), .int 0, .int w, .int v, .ref qal, .ref qco])), (qlw, .inl (cI, 5, .inl lw)), (qgp, .inl (cI, 8, .inl gp))] rfl (by decide) g916 rfl rfl rfl (Nat.le_of_ble_eq_true rfl) rfl dX10_walks_154 ?_
            refine J_vret (pc := 157) X hr ((pos - 99), 0, w) dX10_walks_157 ?_ rfl
            try have q1 : ¬ pos < 100 := by omega
            try have q2 : pos < 100 := by omega
            try have q3 : 100 + (pos - 100) = pos := by omega
            try simp only [Int32.zero_add] at *
            simp [stP, goK, pce, *]
            try omega
      · skip
        refine J_iconst (pc := 103) X 2 dX10_walks_103 (by decide) ?_
        refine J_aload_n (pc := 104) X 1 dX10_walks_104 rfl ?_
        refine J_get (pc := 105) X clX10 0 29 rfl (by decide) g918 rfl dX10_walks_105 ?_
        refine J_imul (pc := 108) X dX10_walks_108 ?_
        refine J_goto (pc := 109) X 116 dX10_walks_109 (by decide) ?_
        refine J_iadd (pc := 116) X dX10_walks_116 ?_
        refine J_put (pc := 117) X clX10 0 27 [(q, .inr (10, [.ref qtx, .int (nI ln), .int fa, .ref qlw, .ref qgp, .ref qhm, .ref qpcs, .ref qdl, .ref qdg, .ref qdh, .ref qdp, .int dr, .int tl, .ref qnw, .ref qps, .int (nI dn), .ref qim, .ref qisd, .ref qkp, .int sd, .ref qfd, .int (nI fn), .ref qbk, .int (nI en), .int (nI at_), .int (nI wr), .int (nI pos), .int (y + (2 * v)), .int w, .int v, .ref qal, .ref qco])), (qlw, .inl (cI, 5, .inl lw)), (qgp, .inl (cI, 8, .inl gp))] rfl (by decide) g916 rfl rfl rfl (Nat.le_of_ble_eq_true rfl) rfl dX10_walks_117 ?_
        refine J_aload_n (pc := 120) X 1 dX10_walks_120 rfl ?_
        refine J_get (pc := 121) X clX10 0 27 rfl (by decide) g916 rfl dX10_walks_121 ?_
        refine J_aload_n (pc := 124) X 1 dX10_walks_124 rfl ?_
        refine J_iload_n (pc := 125) X 0 dX10_walks_125 rfl ?_
        refine J_iload_n (pc := 126) X 2 dX10_walks_126 rfl ?_
        refine J_callR (pc := 127) (As := [.int (nI (pos - 100)), .int t]) (rest := [.int (y + (2 * v))]) X mtX10_yardsOf g1067 [0, 1, 2] 0 (kX10_yardsOf l G cI cC cZ q qtx qlw qgp qhm qpcs qdl qdg qdh qdp qnw qps qim qisd qkp qfd qbk qal qco ln fa dr dn sd fn en at_ wr (nI pos) (y + (2 * v)) w v tl lw gp P gr wd g wk (pos - 100) t (by first | assumption | omega) (by first | assumption | omega) (by first | assumption | omega) (by first | assumption | omega) (by first | assumption | omega) (by first | assumption | omega) (by first | assumption | omega) (by first | assumption | omega) (by first | assumption | omega) (by first | assumption | omega) (by first | assumption | omega)) ⟨Nat.le_of_ble_eq_true rfl, Nat.le_of_ble_eq_true rfl⟩ rfl rfl rfl (by decide) rfl rfl rfl rfl rfl (Nat.le_of_ble_eq_true rfl) (Nat.zero_le _) (Nat.zero_le _) dX10_walks_127 (fun r_12 u_13 w_14 => ?_)
        try dsimp only at w_14
        subst w_14
        refine J_icmp_lt (pc := 130) X 157 dX10_walks_130 (by decide) (fun c_15 => ?_) (fun c_15 => ?_)
        · skip
          refine J_vret (pc := 157) X hr (pos, (y + (2 * v)), w) dX10_walks_157 ?_ rfl
          try have q1 : ¬ pos < 100 := by omega
          try have q2 : pos < 100 := by omega
          try have q3 : 100 + (pos - 100) = pos := by omega
          try simp only [Int32.zero_add] at *
          simp [stP, goK, pce, *]
          try omega
        · skip
          refine J_aload_n (pc := 133) X 1 dX10_walks_133 rfl ?_
          refine J_aload_n (pc := 134) X 1 dX10_walks_134 rfl ?_
          refine J_get (pc := 135) X clX10 0 28 rfl (by decide) g917 rfl dX10_walks_135 ?_
          refine J_iconst (pc := 138) X 2 dX10_walks_138 (by decide) ?_
          refine J_icmp_ne (pc := 139) X 148 dX10_walks_139 (by decide) (fun c_16 => ?_) (fun c_16 => ?_)
          · skip
            refine J_iload_n (pc := 148) X 0 dX10_walks_148 rfl ?_
            refine J_put (pc := 149) X clX10 0 26 [(q, .inr (10, [.ref qtx, .int (nI ln), .int fa, .ref qlw, .ref qgp, .ref qhm, .ref qpcs, .ref qdl, .ref qdg, .ref qdh, .ref qdp, .int dr, .int tl, .ref qnw, .ref qps, .int (nI dn), .ref qim, .ref qisd, .ref qkp, .int sd, .ref qfd, .int (nI fn), .ref qbk, .int (nI en), .int (nI at_), .int (nI wr), .int (nI (pos - 100)), .int (y + (2 * v)), .int w, .int v, .ref qal, .ref qco])), (qlw, .inl (cI, 5, .inl lw)), (qgp, .inl (cI, 8, .inl gp))] rfl (by decide) g915 rfl rfl rfl (Nat.le_of_ble_eq_true rfl) rfl dX10_walks_149 ?_
            refine J_aload_n (pc := 152) X 1 dX10_walks_152 rfl ?_
            refine J_iconst (pc := 153) X 0 dX10_walks_153 (by decide) ?_
            refine J_put (pc := 154) X clX10 0 27 [(q, .inr (10, [.ref qtx, .int (nI ln), .int fa, .ref qlw, .ref qgp, .ref qhm, .ref qpcs, .ref qdl, .ref qdg, .ref qdh, .ref qdp, .int dr, .int tl, .ref qnw, .ref qps, .int (nI dn), .ref qim, .ref qisd, .ref qkp, .int sd, .ref qfd, .int (nI fn), .ref qbk, .int (nI en), .int (nI at_), .int (nI wr), .int (nI (pos - 100)), .int 0, .int w, .int v, .ref qal, .ref qco])), (qlw, .inl (cI, 5, .inl lw)), (qgp, .inl (cI, 8, .inl gp))] rfl (by decide) g916 rfl rfl rfl (Nat.le_of_ble_eq_true rfl) rfl dX10_walks_154 ?_
            refine J_vret (pc := 157) X hr ((pos - 100), 0, w) dX10_walks_157 ?_ rfl
            try have q1 : ¬ pos < 100 := by omega
            try have q2 : pos < 100 := by omega
            try have q3 : 100 + (pos - 100) = pos := by omega
            try simp only [Int32.zero_add] at *
            simp [stP, goK, pce, *]
            try omega
          · skip
            refine J_iload_n (pc := 142) X 0 dX10_walks_142 rfl ?_
            refine J_iconst (pc := 143) X 1 dX10_walks_143 (by decide) ?_
            refine J_iadd (pc := 144) X dX10_walks_144 ?_
            refine J_top (y := nI (pos - 99)) (n_add (x := pos - 100) (y := 1) rfl rfl (by omega)) ?_
            refine J_goto (pc := 145) X 149 dX10_walks_145 (by decide) ?_
            refine J_put (pc := 149) X clX10 0 26 [(q, .inr (10, [.ref qtx, .int (nI ln), .int fa, .ref qlw, .ref qgp, .ref qhm, .ref qpcs, .ref qdl, .ref qdg, .ref qdh, .ref qdp, .int dr, .int tl, .ref qnw, .ref qps, .int (nI dn), .ref qim, .ref qisd, .ref qkp, .int sd, .ref qfd, .int (nI fn), .ref qbk, .int (nI en), .int (nI at_), .int (nI wr), .int (nI (pos - 99)), .int (y + (2 * v)), .int w, .int v, .ref qal, .ref qco])), (qlw, .inl (cI, 5, .inl lw)), (qgp, .inl (cI, 8, .inl gp))] rfl (by decide) g915 rfl rfl rfl (Nat.le_of_ble_eq_true rfl) rfl dX10_walks_149 ?_
            refine J_aload_n (pc := 152) X 1 dX10_walks_152 rfl ?_
            refine J_iconst (pc := 153) X 0 dX10_walks_153 (by decide) ?_
            refine J_put (pc := 154) X clX10 0 27 [(q, .inr (10, [.ref qtx, .int (nI ln), .int fa, .ref qlw, .ref qgp, .ref qhm, .ref qpcs, .ref qdl, .ref qdg, .ref qdh, .ref qdp, .int dr, .int tl, .ref qnw, .ref qps, .int (nI dn), .ref qim, .ref qisd, .ref qkp, .int sd, .ref qfd, .int (nI fn), .ref qbk, .int (nI en), .int (nI at_), .int (nI wr), .int (nI (pos - 99)), .int 0, .int w, .int v, .ref qal, .ref qco])), (qlw, .inl (cI, 5, .inl lw)), (qgp, .inl (cI, 8, .inl gp))] rfl (by decide) g916 rfl rfl rfl (Nat.le_of_ble_eq_true rfl) rfl dX10_walks_154 ?_
            refine J_vret (pc := 157) X hr ((pos - 99), 0, w) dX10_walks_157 ?_ rfl
            try have q1 : ¬ pos < 100 := by omega
            try have q2 : pos < 100 := by omega
            try have q3 : 100 + (pos - 100) = pos := by omega
            try simp only [Int32.zero_add] at *
            simp [stP, goK, pce, *]
            try omega
  · have c_1 : pos < 100 := n_nle_of (a := 100) (b := pos) (by omega) (by omega) c_1
    refine J_aload_n (pc := 9) X 0 dX10_walks_9 rfl ?_
    refine J_get (pc := 10) X clX10 0 28 rfl (by decide) g917 rfl dX10_walks_10 ?_
    refine J_iconst (pc := 13) X 2 dX10_walks_13 (by decide) ?_
    refine J_icmp_ne (pc := 14) X 24 dX10_walks_14 (by decide) (fun c_17 => ?_) (fun c_17 => ?_)
    · skip
      refine J_aload_n (pc := 24) X 0 dX10_walks_24 rfl ?_
      refine J_get (pc := 25) X clX10 0 26 rfl (by decide) g915 rfl dX10_walks_25 ?_
      refine J_iconst (pc := 28) X 1 dX10_walks_28 (by decide) ?_
      refine J_isub (pc := 29) X dX10_walks_29 ?_
      refine J_istore_n (pc := 30) X [(3, .int ((nI pos) - 1)), (0, .ref q), (1, .int t), (2, .int rp)] dX10_walks_30 (by decide) rfl ?_
      refine J_aload_n (pc := 31) X 1 dX10_walks_31 rfl ?_
      refine J_get (pc := 32) X clX10 0 28 rfl (by decide) g917 rfl dX10_walks_32 ?_
      refine J_iconst (pc := 35) X 1 dX10_walks_35 (by decide) ?_
      refine J_icmp_eq (pc := 36) X 52 dX10_walks_36 (by decide) (fun c_18 => ?_) (fun c_18 => ?_)
      · skip
        refine J_aload_n (pc := 52) X 1 dX10_walks_52 rfl ?_
        refine J_get (pc := 53) X clX10 0 28 rfl (by decide) g917 rfl dX10_walks_53 ?_
        refine J_iconst (pc := 56) X 1 dX10_walks_56 (by decide) ?_
        refine J_icmp_eq (pc := 57) X 73 dX10_walks_57 (by decide) (fun c_19 => ?_) (fun c_19 => ?_)
        · skip
          refine J_aload_n (pc := 73) X 1 dX10_walks_73 rfl ?_
          refine J_get (pc := 74) X clX10 0 26 rfl (by decide) g915 rfl dX10_walks_74 ?_
          refine J_bipush (pc := 77) X 100 dX10_walks_77 (by decide) ?_
          refine J_icmp_lt (pc := 79) X 157 dX10_walks_79 (by decide) (fun c_20 => ?_) (fun c_20 => ?_)
          · have c_20 : pos < 100 := n_lt_of (a := pos) (b := 100) (by omega) (by omega) c_20
            refine J_vret (pc := 157) X hr (pos, y, w) dX10_walks_157 ?_ rfl
            try have q1 : ¬ pos < 100 := by omega
            try have q2 : pos < 100 := by omega
            try have q3 : 100 + (pos - 100) = pos := by omega
            try simp only [Int32.zero_add] at *
            simp [stP, goK, pce, *]
            try omega
          · have c_20 : 100 ≤ pos := n_nlt_of (a := pos) (b := 100) (by omega) (by omega) c_20
            exfalso; omega
        · skip
          exact absurd c_18 c_19
      · skip
        refine J_aload_n (pc := 39) X 1 dX10_walks_39 rfl ?_
        refine J_iload_n (pc := 40) X 0 dX10_walks_40 rfl ?_
        refine J_callR (pc := 41) (As := [.int ((nI pos) - 1)]) (rest := []) X mtX10_isGap g1062 [0, 1] 0 (kX10_isGap l G cI cC cZ q qtx qlw qgp qhm qpcs qdl qdg qdh qdp qnw qps qim qisd qkp qfd qbk qal qco ln fa dr dn sd fn en at_ wr (nI pos) y w v tl lw P gr wd g wk ((nI pos) - 1) (by first | assumption | omega) (by first | assumption | omega) (by first | assumption | omega) (by first | assumption | omega) (by first | assumption | omega) (by first | assumption | omega) (by first | assumption | omega) (by first | assumption | omega) (by first | assumption | omega)) ⟨Nat.le_of_ble_eq_true rfl, Nat.le_of_ble_eq_true rfl⟩ rfl rfl rfl (by decide) rfl rfl rfl rfl rfl (Nat.le_of_ble_eq_true rfl) (Nat.zero_le _) (Nat.zero_le _) dX10_walks_41 (fun r_21 u_22 w_23 => ?_)
        try dsimp only at w_23
        subst w_23
        refine J_top (y := bI (0 < pos ∧ pos - 1 < g)) (bI_congr (inB_pred (by omega))) ?_
        refine J_bif_ne (pc := 44) X 52 dX10_walks_44 (by decide) (fun c_24 => ?_) (fun c_24 => ?_)
        · skip
          refine J_aload_n (pc := 52) X 1 dX10_walks_52 rfl ?_
          refine J_get (pc := 53) X clX10 0 28 rfl (by decide) g917 rfl dX10_walks_53 ?_
          refine J_iconst (pc := 56) X 1 dX10_walks_56 (by decide) ?_
          refine J_icmp_eq (pc := 57) X 73 dX10_walks_57 (by decide) (fun c_25 => ?_) (fun c_25 => ?_)
          · skip
            exact absurd c_25 c_18
          · skip
            refine J_aload_n (pc := 60) X 1 dX10_walks_60 rfl ?_
            refine J_bipush (pc := 61) X 100 dX10_walks_61 (by decide) ?_
            refine J_iload_n (pc := 63) X 0 dX10_walks_63 rfl ?_
            refine J_iadd (pc := 64) X dX10_walks_64 ?_
            have hp1 : 0 < pos := by omega
            refine J_top (y := nI (pos + 99)) (dn_top hp1) ?_
            refine J_put (pc := 65) X clX10 0 26 [(q, .inr (10, [.ref qtx, .int (nI ln), .int fa, .ref qlw, .ref qgp, .ref qhm, .ref qpcs, .ref qdl, .ref qdg, .ref qdh, .ref qdp, .int dr, .int tl, .ref qnw, .ref qps, .int (nI dn), .ref qim, .ref qisd, .ref qkp, .int sd, .ref qfd, .int (nI fn), .ref qbk, .int (nI en), .int (nI at_), .int (nI wr), .int (nI (pos + 99)), .int y, .int w, .int v, .ref qal, .ref qco])), (qlw, .inl (cI, 5, .inl lw)), (qgp, .inl (cI, 8, .inl gp))] rfl (by decide) g915 rfl rfl rfl (Nat.le_of_ble_eq_true rfl) rfl dX10_walks_65 ?_
            refine J_aload_n (pc := 68) X 1 dX10_walks_68 rfl ?_
            refine J_iconst (pc := 69) X 0 dX10_walks_69 (by decide) ?_
            refine J_put (pc := 70) X clX10 0 27 [(q, .inr (10, [.ref qtx, .int (nI ln), .int fa, .ref qlw, .ref qgp, .ref qhm, .ref qpcs, .ref qdl, .ref qdg, .ref qdh, .ref qdp, .int dr, .int tl, .ref qnw, .ref qps, .int (nI dn), .ref qim, .ref qisd, .ref qkp, .int sd, .ref qfd, .int (nI fn), .ref qbk, .int (nI en), .int (nI at_), .int (nI wr), .int (nI (pos + 99)), .int 0, .int w, .int v, .ref qal, .ref qco])), (qlw, .inl (cI, 5, .inl lw)), (qgp, .inl (cI, 8, .inl gp))] rfl (by decide) g916 rfl rfl rfl (Nat.le_of_ble_eq_true rfl) rfl dX10_walks_70 ?_
            refine J_aload_n (pc := 73) X 1 dX10_walks_73 rfl ?_
            refine J_get (pc := 74) X clX10 0 26 rfl (by decide) g915 rfl dX10_walks_74 ?_
            refine J_bipush (pc := 77) X 100 dX10_walks_77 (by decide) ?_
            refine J_icmp_lt (pc := 79) X 157 dX10_walks_79 (by decide) (fun c_26 => ?_) (fun c_26 => ?_)
            · have c_26 : pos + 99 < 100 := n_lt_of (a := pos + 99) (b := 100) (by omega) (by omega) c_26
              exfalso; omega
            · have c_26 : 100 ≤ pos + 99 := n_nlt_of (a := pos + 99) (b := 100) (by omega) (by omega) c_26
              refine J_aload_n (pc := 82) X 1 dX10_walks_82 rfl ?_
              refine J_get (pc := 83) X clX10 0 26 rfl (by decide) g915 rfl dX10_walks_83 ?_
              refine J_bipush (pc := 86) X 100 dX10_walks_86 (by decide) ?_
              refine J_isub (pc := 88) X dX10_walks_88 ?_
              refine J_top (y := nI (pos - 1)) (n_sub (x := pos + 99) (y := 100) rfl rfl (by omega) (by omega)) ?_
              refine J_istore_n (pc := 89) X [(3, .int (nI (pos - 1))), (0, .ref q), (1, .int t), (2, .int rp)] dX10_walks_89 (by decide) rfl ?_
              refine J_aload_n (pc := 90) X 1 dX10_walks_90 rfl ?_
              refine J_dup (pc := 91) X dX10_walks_91 rfl ?_
              refine J_get (pc := 92) X clX10 0 27 rfl (by decide) g916 rfl dX10_walks_92 ?_
              refine J_iload_n (pc := 95) X 3 dX10_walks_95 rfl ?_
              refine J_iload_n (pc := 96) X 0 dX10_walks_96 rfl ?_
              refine J_callS (pc := 97) (As := [.int rp, .int (nI (pos - 1))]) (rest := [.int 0, .ref q]) X mtX10_has g1039 [] (kX10_has l G cI cC cZ rp (pos - 1) ) ⟨Nat.le_of_ble_eq_true rfl, Nat.le_of_ble_eq_true rfl⟩ rfl rfl rfl (by decide) rfl rfl (Nat.le_of_ble_eq_true rfl) (Nat.zero_le _) (Nat.zero_le _) dX10_walks_97 (fun r_27 u_28 w_29 => ?_)
              try dsimp only at w_29
              subst w_29
              refine J_bif_eq (pc := 100) X 112 dX10_walks_100 (by decide) (fun c_30 => ?_) (fun c_30 => ?_)
              · skip
                refine J_aload_n (pc := 112) X 1 dX10_walks_112 rfl ?_
                refine J_get (pc := 113) X clX10 0 29 rfl (by decide) g918 rfl dX10_walks_113 ?_
                refine J_iadd (pc := 116) X dX10_walks_116 ?_
                refine J_put (pc := 117) X clX10 0 27 [(q, .inr (10, [.ref qtx, .int (nI ln), .int fa, .ref qlw, .ref qgp, .ref qhm, .ref qpcs, .ref qdl, .ref qdg, .ref qdh, .ref qdp, .int dr, .int tl, .ref qnw, .ref qps, .int (nI dn), .ref qim, .ref qisd, .ref qkp, .int sd, .ref qfd, .int (nI fn), .ref qbk, .int (nI en), .int (nI at_), .int (nI wr), .int (nI (pos + 99)), .int (0 + v), .int w, .int v, .ref qal, .ref qco])), (qlw, .inl (cI, 5, .inl lw)), (qgp, .inl (cI, 8, .inl gp))] rfl (by decide) g916 rfl rfl rfl (Nat.le_of_ble_eq_true rfl) rfl dX10_walks_117 ?_
                refine J_aload_n (pc := 120) X 1 dX10_walks_120 rfl ?_
                refine J_get (pc := 121) X clX10 0 27 rfl (by decide) g916 rfl dX10_walks_121 ?_
                refine J_aload_n (pc := 124) X 1 dX10_walks_124 rfl ?_
                refine J_iload_n (pc := 125) X 0 dX10_walks_125 rfl ?_
                refine J_iload_n (pc := 126) X 2 dX10_walks_126 rfl ?_
                refine J_callR (pc := 127) (As := [.int (nI (pos - 1)), .int t]) (rest := [.int (0 + v)]) X mtX10_yardsOf g1067 [0, 1, 2] 0 (kX10_yardsOf l G cI cC cZ q qtx qlw qgp qhm qpcs qdl qdg qdh qdp qnw qps qim qisd qkp qfd qbk qal qco ln fa dr dn sd fn en at_ wr (nI (pos + 99)) (0 + v) w v tl lw gp P gr wd g wk (pos - 1) t (by first | assumption | omega) (by first | assumption | omega) (by first | assumption | omega) (by first | assumption | omega) (by first | assumption | omega) (by first | assumption | omega) (by first | assumption | omega) (by first | assumption | omega) (by first | assumption | omega) (by first | assumption | omega) (by first | assumption | omega)) ⟨Nat.le_of_ble_eq_true rfl, Nat.le_of_ble_eq_true rfl⟩ rfl rfl rfl (by decide) rfl rfl rfl rfl rfl (Nat.le_of_ble_eq_true rfl) (Nat.zero_le _) (Nat.zero_le _) dX10_walks_127 (fun r_31 u_32 w_33 => ?_)
                try dsimp only at w_33
                subst w_33
                refine J_icmp_lt (pc := 130) X 157 dX10_walks_130 (by decide) (fun c_34 => ?_) (fun c_34 => ?_)
                · skip
                  refine J_vret (pc := 157) X hr ((pos + 99), (0 + v), w) dX10_walks_157 ?_ rfl
                  try have q1 : ¬ pos < 100 := by omega
                  try have q2 : pos < 100 := by omega
                  try have q3 : 100 + (pos - 100) = pos := by omega
                  try simp only [Int32.zero_add] at *
                  simp [stP, goK, pce, *]
                  try omega
                · skip
                  refine J_aload_n (pc := 133) X 1 dX10_walks_133 rfl ?_
                  refine J_aload_n (pc := 134) X 1 dX10_walks_134 rfl ?_
                  refine J_get (pc := 135) X clX10 0 28 rfl (by decide) g917 rfl dX10_walks_135 ?_
                  refine J_iconst (pc := 138) X 2 dX10_walks_138 (by decide) ?_
                  refine J_icmp_ne (pc := 139) X 148 dX10_walks_139 (by decide) (fun c_35 => ?_) (fun c_35 => ?_)
                  · skip
                    refine J_iload_n (pc := 148) X 0 dX10_walks_148 rfl ?_
                    refine J_put (pc := 149) X clX10 0 26 [(q, .inr (10, [.ref qtx, .int (nI ln), .int fa, .ref qlw, .ref qgp, .ref qhm, .ref qpcs, .ref qdl, .ref qdg, .ref qdh, .ref qdp, .int dr, .int tl, .ref qnw, .ref qps, .int (nI dn), .ref qim, .ref qisd, .ref qkp, .int sd, .ref qfd, .int (nI fn), .ref qbk, .int (nI en), .int (nI at_), .int (nI wr), .int (nI (pos - 1)), .int (0 + v), .int w, .int v, .ref qal, .ref qco])), (qlw, .inl (cI, 5, .inl lw)), (qgp, .inl (cI, 8, .inl gp))] rfl (by decide) g915 rfl rfl rfl (Nat.le_of_ble_eq_true rfl) rfl dX10_walks_149 ?_
                    refine J_aload_n (pc := 152) X 1 dX10_walks_152 rfl ?_
                    refine J_iconst (pc := 153) X 0 dX10_walks_153 (by decide) ?_
                    refine J_put (pc := 154) X clX10 0 27 [(q, .inr (10, [.ref qtx, .int (nI ln), .int fa, .ref qlw, .ref qgp, .ref qhm, .ref qpcs, .ref qdl, .ref qdg, .ref qdh, .ref qdp, .int dr, .int tl, .ref qnw, .ref qps, .int (nI dn), .ref qim, .ref qisd, .ref qkp, .int sd, .ref qfd, .int (nI fn), .ref qbk, .int (nI en), .int (nI at_), .int (nI wr), .int (nI (pos - 1)), .int 0, .int w, .int v, .ref qal, .ref qco])), (qlw, .inl (cI, 5, .inl lw)), (qgp, .inl (cI, 8, .inl gp))] rfl (by decide) g916 rfl rfl rfl (Nat.le_of_ble_eq_true rfl) rfl dX10_walks_154 ?_
                    refine J_vret (pc := 157) X hr ((pos - 1), 0, w) dX10_walks_157 ?_ rfl
                    try have q1 : ¬ pos < 100 := by omega
                    try have q2 : pos < 100 := by omega
                    try have q3 : 100 + (pos - 100) = pos := by omega
                    try simp only [Int32.zero_add] at *
                    simp [stP, goK, pce, *]
                    try omega
                  · skip
                    exact absurd c_35 c_17
              · skip
                refine J_iconst (pc := 103) X 2 dX10_walks_103 (by decide) ?_
                refine J_aload_n (pc := 104) X 1 dX10_walks_104 rfl ?_
                refine J_get (pc := 105) X clX10 0 29 rfl (by decide) g918 rfl dX10_walks_105 ?_
                refine J_imul (pc := 108) X dX10_walks_108 ?_
                refine J_goto (pc := 109) X 116 dX10_walks_109 (by decide) ?_
                refine J_iadd (pc := 116) X dX10_walks_116 ?_
                refine J_put (pc := 117) X clX10 0 27 [(q, .inr (10, [.ref qtx, .int (nI ln), .int fa, .ref qlw, .ref qgp, .ref qhm, .ref qpcs, .ref qdl, .ref qdg, .ref qdh, .ref qdp, .int dr, .int tl, .ref qnw, .ref qps, .int (nI dn), .ref qim, .ref qisd, .ref qkp, .int sd, .ref qfd, .int (nI fn), .ref qbk, .int (nI en), .int (nI at_), .int (nI wr), .int (nI (pos + 99)), .int (0 + (2 * v)), .int w, .int v, .ref qal, .ref qco])), (qlw, .inl (cI, 5, .inl lw)), (qgp, .inl (cI, 8, .inl gp))] rfl (by decide) g916 rfl rfl rfl (Nat.le_of_ble_eq_true rfl) rfl dX10_walks_117 ?_
                refine J_aload_n (pc := 120) X 1 dX10_walks_120 rfl ?_
                refine J_get (pc := 121) X clX10 0 27 rfl (by decide) g916 rfl dX10_walks_121 ?_
                refine J_aload_n (pc := 124) X 1 dX10_walks_124 rfl ?_
                refine J_iload_n (pc := 125) X 0 dX10_walks_125 rfl ?_
                refine J_iload_n (pc := 126) X 2 dX10_walks_126 rfl ?_
                refine J_callR (pc := 127) (As := [.int (nI (pos - 1)), .int t]) (rest := [.int (0 + (2 * v))]) X mtX10_yardsOf g1067 [0, 1, 2] 0 (kX10_yardsOf l G cI cC cZ q qtx qlw qgp qhm qpcs qdl qdg qdh qdp qnw qps qim qisd qkp qfd qbk qal qco ln fa dr dn sd fn en at_ wr (nI (pos + 99)) (0 + (2 * v)) w v tl lw gp P gr wd g wk (pos - 1) t (by first | assumption | omega) (by first | assumption | omega) (by first | assumption | omega) (by first | assumption | omega) (by first | assumption | omega) (by first | assumption | omega) (by first | assumption | omega) (by first | assumption | omega) (by first | assumption | omega) (by first | assumption | omega) (by first | assumption | omega)) ⟨Nat.le_of_ble_eq_true rfl, Nat.le_of_ble_eq_true rfl⟩ rfl rfl rfl (by decide) rfl rfl rfl rfl rfl (Nat.le_of_ble_eq_true rfl) (Nat.zero_le _) (Nat.zero_le _) dX10_walks_127 (fun r_36 u_37 w_38 => ?_)
                try dsimp only at w_38
                subst w_38
                refine J_icmp_lt (pc := 130) X 157 dX10_walks_130 (by decide) (fun c_39 => ?_) (fun c_39 => ?_)
                · skip
                  refine J_vret (pc := 157) X hr ((pos + 99), (0 + (2 * v)), w) dX10_walks_157 ?_ rfl
                  try have q1 : ¬ pos < 100 := by omega
                  try have q2 : pos < 100 := by omega
                  try have q3 : 100 + (pos - 100) = pos := by omega
                  try simp only [Int32.zero_add] at *
                  simp [stP, goK, pce, *]
                  try omega
                · skip
                  refine J_aload_n (pc := 133) X 1 dX10_walks_133 rfl ?_
                  refine J_aload_n (pc := 134) X 1 dX10_walks_134 rfl ?_
                  refine J_get (pc := 135) X clX10 0 28 rfl (by decide) g917 rfl dX10_walks_135 ?_
                  refine J_iconst (pc := 138) X 2 dX10_walks_138 (by decide) ?_
                  refine J_icmp_ne (pc := 139) X 148 dX10_walks_139 (by decide) (fun c_40 => ?_) (fun c_40 => ?_)
                  · skip
                    refine J_iload_n (pc := 148) X 0 dX10_walks_148 rfl ?_
                    refine J_put (pc := 149) X clX10 0 26 [(q, .inr (10, [.ref qtx, .int (nI ln), .int fa, .ref qlw, .ref qgp, .ref qhm, .ref qpcs, .ref qdl, .ref qdg, .ref qdh, .ref qdp, .int dr, .int tl, .ref qnw, .ref qps, .int (nI dn), .ref qim, .ref qisd, .ref qkp, .int sd, .ref qfd, .int (nI fn), .ref qbk, .int (nI en), .int (nI at_), .int (nI wr), .int (nI (pos - 1)), .int (0 + (2 * v)), .int w, .int v, .ref qal, .ref qco])), (qlw, .inl (cI, 5, .inl lw)), (qgp, .inl (cI, 8, .inl gp))] rfl (by decide) g915 rfl rfl rfl (Nat.le_of_ble_eq_true rfl) rfl dX10_walks_149 ?_
                    refine J_aload_n (pc := 152) X 1 dX10_walks_152 rfl ?_
                    refine J_iconst (pc := 153) X 0 dX10_walks_153 (by decide) ?_
                    refine J_put (pc := 154) X clX10 0 27 [(q, .inr (10, [.ref qtx, .int (nI ln), .int fa, .ref qlw, .ref qgp, .ref qhm, .ref qpcs, .ref qdl, .ref qdg, .ref qdh, .ref qdp, .int dr, .int tl, .ref qnw, .ref qps, .int (nI dn), .ref qim, .ref qisd, .ref qkp, .int sd, .ref qfd, .int (nI fn), .ref qbk, .int (nI en), .int (nI at_), .int (nI wr), .int (nI (pos - 1)), .int 0, .int w, .int v, .ref qal, .ref qco])), (qlw, .inl (cI, 5, .inl lw)), (qgp, .inl (cI, 8, .inl gp))] rfl (by decide) g916 rfl rfl rfl (Nat.le_of_ble_eq_true rfl) rfl dX10_walks_154 ?_
                    refine J_vret (pc := 157) X hr ((pos - 1), 0, w) dX10_walks_157 ?_ rfl
                    try have q1 : ¬ pos < 100 := by omega
                    try have q2 : pos < 100 := by omega
                    try have q3 : 100 + (pos - 100) = pos := by omega
                    try simp only [Int32.zero_add] at *
                    simp [stP, goK, pce, *]
                    try omega
                  · skip
                    exact absurd c_40 c_17
        · skip
          refine J_aload_n (pc := 47) X 1 dX10_walks_47 rfl ?_
          refine J_iconst (pc := 48) X 1 dX10_walks_48 (by decide) ?_
          refine J_put (pc := 49) X clX10 0 28 [(q, .inr (10, [.ref qtx, .int (nI ln), .int fa, .ref qlw, .ref qgp, .ref qhm, .ref qpcs, .ref qdl, .ref qdg, .ref qdh, .ref qdp, .int dr, .int tl, .ref qnw, .ref qps, .int (nI dn), .ref qim, .ref qisd, .ref qkp, .int sd, .ref qfd, .int (nI fn), .ref qbk, .int (nI en), .int (nI at_), .int (nI wr), .int (nI pos), .int y, .int 1, .int v, .ref qal, .ref qco])), (qlw, .inl (cI, 5, .inl lw)), (qgp, .inl (cI, 8, .inl gp))] rfl (by decide) g917 rfl rfl rfl (Nat.le_of_ble_eq_true rfl) rfl dX10_walks_49 ?_
          refine J_aload_n (pc := 52) X 1 dX10_walks_52 rfl ?_
          refine J_get (pc := 53) X clX10 0 28 rfl (by decide) g917 rfl dX10_walks_53 ?_
          refine J_iconst (pc := 56) X 1 dX10_walks_56 (by decide) ?_
          refine J_icmp_eq (pc := 57) X 73 dX10_walks_57 (by decide) (fun c_41 => ?_) (fun c_41 => ?_)
          · have c_41 : 1 = 1 := n_eq_of (a := 1) (b := 1) (by omega) (by omega) c_41
            refine J_aload_n (pc := 73) X 1 dX10_walks_73 rfl ?_
            refine J_get (pc := 74) X clX10 0 26 rfl (by decide) g915 rfl dX10_walks_74 ?_
            refine J_bipush (pc := 77) X 100 dX10_walks_77 (by decide) ?_
            refine J_icmp_lt (pc := 79) X 157 dX10_walks_79 (by decide) (fun c_42 => ?_) (fun c_42 => ?_)
            · have c_42 : pos < 100 := n_lt_of (a := pos) (b := 100) (by omega) (by omega) c_42
              refine J_vret (pc := 157) X hr (pos, y, 1) dX10_walks_157 ?_ rfl
              try have q1 : ¬ pos < 100 := by omega
              try have q2 : pos < 100 := by omega
              try have q3 : 100 + (pos - 100) = pos := by omega
              try simp only [Int32.zero_add] at *
              simp [stP, goK, pce, *]
              try omega
            · have c_42 : 100 ≤ pos := n_nlt_of (a := pos) (b := 100) (by omega) (by omega) c_42
              exfalso; omega
          · have c_41 : ¬ 1 = 1 := n_ne_of (a := 1) (b := 1) (by omega) (by omega) c_41
            exfalso; omega
    · skip
      refine J_aload_n (pc := 17) X 0 dX10_walks_17 rfl ?_
      refine J_get (pc := 18) X clX10 0 26 rfl (by decide) g915 rfl dX10_walks_18 ?_
      refine J_goto (pc := 21) X 30 dX10_walks_21 (by decide) ?_
      refine J_istore_n (pc := 30) X [(3, .int (nI pos)), (0, .ref q), (1, .int t), (2, .int rp)] dX10_walks_30 (by decide) rfl ?_
      refine J_aload_n (pc := 31) X 1 dX10_walks_31 rfl ?_
      refine J_get (pc := 32) X clX10 0 28 rfl (by decide) g917 rfl dX10_walks_32 ?_
      refine J_iconst (pc := 35) X 1 dX10_walks_35 (by decide) ?_
      refine J_icmp_eq (pc := 36) X 52 dX10_walks_36 (by decide) (fun c_43 => ?_) (fun c_43 => ?_)
      · skip
        exact absurd (c_17.symm.trans c_43) (by decide)
      · skip
        refine J_aload_n (pc := 39) X 1 dX10_walks_39 rfl ?_
        refine J_iload_n (pc := 40) X 0 dX10_walks_40 rfl ?_
        refine J_callR (pc := 41) (As := [.int (nI pos)]) (rest := []) X mtX10_isGap g1062 [0, 1] 0 (kX10_isGap l G cI cC cZ q qtx qlw qgp qhm qpcs qdl qdg qdh qdp qnw qps qim qisd qkp qfd qbk qal qco ln fa dr dn sd fn en at_ wr (nI pos) y w v tl lw P gr wd g wk (nI pos) (by first | assumption | omega) (by first | assumption | omega) (by first | assumption | omega) (by first | assumption | omega) (by first | assumption | omega) (by first | assumption | omega) (by first | assumption | omega) (by first | assumption | omega) (by first | assumption | omega)) ⟨Nat.le_of_ble_eq_true rfl, Nat.le_of_ble_eq_true rfl⟩ rfl rfl rfl (by decide) rfl rfl rfl rfl rfl (Nat.le_of_ble_eq_true rfl) (Nat.zero_le _) (Nat.zero_le _) dX10_walks_41 (fun r_44 u_45 w_46 => ?_)
        try dsimp only at w_46
        subst w_46
        refine J_top (y := bI (pos < g)) (bI_congr (inB_nI (by omega))) ?_
        refine J_bif_ne (pc := 44) X 52 dX10_walks_44 (by decide) (fun c_47 => ?_) (fun c_47 => ?_)
        · skip
          refine J_aload_n (pc := 52) X 1 dX10_walks_52 rfl ?_
          refine J_get (pc := 53) X clX10 0 28 rfl (by decide) g917 rfl dX10_walks_53 ?_
          refine J_iconst (pc := 56) X 1 dX10_walks_56 (by decide) ?_
          refine J_icmp_eq (pc := 57) X 73 dX10_walks_57 (by decide) (fun c_48 => ?_) (fun c_48 => ?_)
          · skip
            exact absurd (c_17.symm.trans c_48) (by decide)
          · skip
            refine J_aload_n (pc := 60) X 1 dX10_walks_60 rfl ?_
            refine J_bipush (pc := 61) X 100 dX10_walks_61 (by decide) ?_
            refine J_iload_n (pc := 63) X 0 dX10_walks_63 rfl ?_
            refine J_iadd (pc := 64) X dX10_walks_64 ?_
            refine J_top (y := nI (pos + 100)) (n_add (x := 100) (y := pos) rfl rfl (by omega)) ?_
            refine J_put (pc := 65) X clX10 0 26 [(q, .inr (10, [.ref qtx, .int (nI ln), .int fa, .ref qlw, .ref qgp, .ref qhm, .ref qpcs, .ref qdl, .ref qdg, .ref qdh, .ref qdp, .int dr, .int tl, .ref qnw, .ref qps, .int (nI dn), .ref qim, .ref qisd, .ref qkp, .int sd, .ref qfd, .int (nI fn), .ref qbk, .int (nI en), .int (nI at_), .int (nI wr), .int (nI (pos + 100)), .int y, .int w, .int v, .ref qal, .ref qco])), (qlw, .inl (cI, 5, .inl lw)), (qgp, .inl (cI, 8, .inl gp))] rfl (by decide) g915 rfl rfl rfl (Nat.le_of_ble_eq_true rfl) rfl dX10_walks_65 ?_
            refine J_aload_n (pc := 68) X 1 dX10_walks_68 rfl ?_
            refine J_iconst (pc := 69) X 0 dX10_walks_69 (by decide) ?_
            refine J_put (pc := 70) X clX10 0 27 [(q, .inr (10, [.ref qtx, .int (nI ln), .int fa, .ref qlw, .ref qgp, .ref qhm, .ref qpcs, .ref qdl, .ref qdg, .ref qdh, .ref qdp, .int dr, .int tl, .ref qnw, .ref qps, .int (nI dn), .ref qim, .ref qisd, .ref qkp, .int sd, .ref qfd, .int (nI fn), .ref qbk, .int (nI en), .int (nI at_), .int (nI wr), .int (nI (pos + 100)), .int 0, .int w, .int v, .ref qal, .ref qco])), (qlw, .inl (cI, 5, .inl lw)), (qgp, .inl (cI, 8, .inl gp))] rfl (by decide) g916 rfl rfl rfl (Nat.le_of_ble_eq_true rfl) rfl dX10_walks_70 ?_
            refine J_aload_n (pc := 73) X 1 dX10_walks_73 rfl ?_
            refine J_get (pc := 74) X clX10 0 26 rfl (by decide) g915 rfl dX10_walks_74 ?_
            refine J_bipush (pc := 77) X 100 dX10_walks_77 (by decide) ?_
            refine J_icmp_lt (pc := 79) X 157 dX10_walks_79 (by decide) (fun c_49 => ?_) (fun c_49 => ?_)
            · have c_49 : pos + 100 < 100 := n_lt_of (a := pos + 100) (b := 100) (by omega) (by omega) c_49
              exfalso; omega
            · have c_49 : 100 ≤ pos + 100 := n_nlt_of (a := pos + 100) (b := 100) (by omega) (by omega) c_49
              refine J_aload_n (pc := 82) X 1 dX10_walks_82 rfl ?_
              refine J_get (pc := 83) X clX10 0 26 rfl (by decide) g915 rfl dX10_walks_83 ?_
              refine J_bipush (pc := 86) X 100 dX10_walks_86 (by decide) ?_
              refine J_isub (pc := 88) X dX10_walks_88 ?_
              refine J_top (y := nI pos) (n_sub (x := pos + 100) (y := 100) rfl rfl (by omega) (by omega)) ?_
              refine J_istore_n (pc := 89) X [(3, .int (nI pos)), (0, .ref q), (1, .int t), (2, .int rp)] dX10_walks_89 (by decide) rfl ?_
              refine J_aload_n (pc := 90) X 1 dX10_walks_90 rfl ?_
              refine J_dup (pc := 91) X dX10_walks_91 rfl ?_
              refine J_get (pc := 92) X clX10 0 27 rfl (by decide) g916 rfl dX10_walks_92 ?_
              refine J_iload_n (pc := 95) X 3 dX10_walks_95 rfl ?_
              refine J_iload_n (pc := 96) X 0 dX10_walks_96 rfl ?_
              refine J_callS (pc := 97) (As := [.int rp, .int (nI pos)]) (rest := [.int 0, .ref q]) X mtX10_has g1039 [] (kX10_has l G cI cC cZ rp pos ) ⟨Nat.le_of_ble_eq_true rfl, Nat.le_of_ble_eq_true rfl⟩ rfl rfl rfl (by decide) rfl rfl (Nat.le_of_ble_eq_true rfl) (Nat.zero_le _) (Nat.zero_le _) dX10_walks_97 (fun r_50 u_51 w_52 => ?_)
              try dsimp only at w_52
              subst w_52
              refine J_bif_eq (pc := 100) X 112 dX10_walks_100 (by decide) (fun c_53 => ?_) (fun c_53 => ?_)
              · skip
                refine J_aload_n (pc := 112) X 1 dX10_walks_112 rfl ?_
                refine J_get (pc := 113) X clX10 0 29 rfl (by decide) g918 rfl dX10_walks_113 ?_
                refine J_iadd (pc := 116) X dX10_walks_116 ?_
                refine J_put (pc := 117) X clX10 0 27 [(q, .inr (10, [.ref qtx, .int (nI ln), .int fa, .ref qlw, .ref qgp, .ref qhm, .ref qpcs, .ref qdl, .ref qdg, .ref qdh, .ref qdp, .int dr, .int tl, .ref qnw, .ref qps, .int (nI dn), .ref qim, .ref qisd, .ref qkp, .int sd, .ref qfd, .int (nI fn), .ref qbk, .int (nI en), .int (nI at_), .int (nI wr), .int (nI (pos + 100)), .int (0 + v), .int w, .int v, .ref qal, .ref qco])), (qlw, .inl (cI, 5, .inl lw)), (qgp, .inl (cI, 8, .inl gp))] rfl (by decide) g916 rfl rfl rfl (Nat.le_of_ble_eq_true rfl) rfl dX10_walks_117 ?_
                refine J_aload_n (pc := 120) X 1 dX10_walks_120 rfl ?_
                refine J_get (pc := 121) X clX10 0 27 rfl (by decide) g916 rfl dX10_walks_121 ?_
                refine J_aload_n (pc := 124) X 1 dX10_walks_124 rfl ?_
                refine J_iload_n (pc := 125) X 0 dX10_walks_125 rfl ?_
                refine J_iload_n (pc := 126) X 2 dX10_walks_126 rfl ?_
                refine J_callR (pc := 127) (As := [.int (nI pos), .int t]) (rest := [.int (0 + v)]) X mtX10_yardsOf g1067 [0, 1, 2] 0 (kX10_yardsOf l G cI cC cZ q qtx qlw qgp qhm qpcs qdl qdg qdh qdp qnw qps qim qisd qkp qfd qbk qal qco ln fa dr dn sd fn en at_ wr (nI (pos + 100)) (0 + v) w v tl lw gp P gr wd g wk pos t (by first | assumption | omega) (by first | assumption | omega) (by first | assumption | omega) (by first | assumption | omega) (by first | assumption | omega) (by first | assumption | omega) (by first | assumption | omega) (by first | assumption | omega) (by first | assumption | omega) (by first | assumption | omega) (by first | assumption | omega)) ⟨Nat.le_of_ble_eq_true rfl, Nat.le_of_ble_eq_true rfl⟩ rfl rfl rfl (by decide) rfl rfl rfl rfl rfl (Nat.le_of_ble_eq_true rfl) (Nat.zero_le _) (Nat.zero_le _) dX10_walks_127 (fun r_54 u_55 w_56 => ?_)
                try dsimp only at w_56
                subst w_56
                refine J_icmp_lt (pc := 130) X 157 dX10_walks_130 (by decide) (fun c_57 => ?_) (fun c_57 => ?_)
                · skip
                  refine J_vret (pc := 157) X hr ((pos + 100), (0 + v), w) dX10_walks_157 ?_ rfl
                  try have q1 : ¬ pos < 100 := by omega
                  try have q2 : pos < 100 := by omega
                  try have q3 : 100 + (pos - 100) = pos := by omega
                  try simp only [Int32.zero_add] at *
                  simp [stP, goK, pce, *]
                  try omega
                · skip
                  refine J_aload_n (pc := 133) X 1 dX10_walks_133 rfl ?_
                  refine J_aload_n (pc := 134) X 1 dX10_walks_134 rfl ?_
                  refine J_get (pc := 135) X clX10 0 28 rfl (by decide) g917 rfl dX10_walks_135 ?_
                  refine J_iconst (pc := 138) X 2 dX10_walks_138 (by decide) ?_
                  refine J_icmp_ne (pc := 139) X 148 dX10_walks_139 (by decide) (fun c_58 => ?_) (fun c_58 => ?_)
                  · skip
                    exact absurd c_17 c_58
                  · skip
                    refine J_iload_n (pc := 142) X 0 dX10_walks_142 rfl ?_
                    refine J_iconst (pc := 143) X 1 dX10_walks_143 (by decide) ?_
                    refine J_iadd (pc := 144) X dX10_walks_144 ?_
                    refine J_top (y := nI (pos + 1)) (n_add (x := pos) (y := 1) rfl rfl (by omega)) ?_
                    refine J_goto (pc := 145) X 149 dX10_walks_145 (by decide) ?_
                    refine J_put (pc := 149) X clX10 0 26 [(q, .inr (10, [.ref qtx, .int (nI ln), .int fa, .ref qlw, .ref qgp, .ref qhm, .ref qpcs, .ref qdl, .ref qdg, .ref qdh, .ref qdp, .int dr, .int tl, .ref qnw, .ref qps, .int (nI dn), .ref qim, .ref qisd, .ref qkp, .int sd, .ref qfd, .int (nI fn), .ref qbk, .int (nI en), .int (nI at_), .int (nI wr), .int (nI (pos + 1)), .int (0 + v), .int w, .int v, .ref qal, .ref qco])), (qlw, .inl (cI, 5, .inl lw)), (qgp, .inl (cI, 8, .inl gp))] rfl (by decide) g915 rfl rfl rfl (Nat.le_of_ble_eq_true rfl) rfl dX10_walks_149 ?_
                    refine J_aload_n (pc := 152) X 1 dX10_walks_152 rfl ?_
                    refine J_iconst (pc := 153) X 0 dX10_walks_153 (by decide) ?_
                    refine J_put (pc := 154) X clX10 0 27 [(q, .inr (10, [.ref qtx, .int (nI ln), .int fa, .ref qlw, .ref qgp, .ref qhm, .ref qpcs, .ref qdl, .ref qdg, .ref qdh, .ref qdp, .int dr, .int tl, .ref qnw, .ref qps, .int (nI dn), .ref qim, .ref qisd, .ref qkp, .int sd, .ref qfd, .int (nI fn), .ref qbk, .int (nI en), .int (nI at_), .int (nI wr), .int (nI (pos + 1)), .int 0, .int w, .int v, .ref qal, .ref qco])), (qlw, .inl (cI, 5, .inl lw)), (qgp, .inl (cI, 8, .inl gp))] rfl (by decide) g916 rfl rfl rfl (Nat.le_of_ble_eq_true rfl) rfl dX10_walks_154 ?_
                    refine J_vret (pc := 157) X hr ((pos + 1), 0, w) dX10_walks_157 ?_ rfl
                    try have q1 : ¬ pos < 100 := by omega
                    try have q2 : pos < 100 := by omega
                    try have q3 : 100 + (pos - 100) = pos := by omega
                    try simp only [Int32.zero_add] at *
                    simp [stP, goK, pce, *]
                    try omega
              · skip
                refine J_iconst (pc := 103) X 2 dX10_walks_103 (by decide) ?_
                refine J_aload_n (pc := 104) X 1 dX10_walks_104 rfl ?_
                refine J_get (pc := 105) X clX10 0 29 rfl (by decide) g918 rfl dX10_walks_105 ?_
                refine J_imul (pc := 108) X dX10_walks_108 ?_
                refine J_goto (pc := 109) X 116 dX10_walks_109 (by decide) ?_
                refine J_iadd (pc := 116) X dX10_walks_116 ?_
                refine J_put (pc := 117) X clX10 0 27 [(q, .inr (10, [.ref qtx, .int (nI ln), .int fa, .ref qlw, .ref qgp, .ref qhm, .ref qpcs, .ref qdl, .ref qdg, .ref qdh, .ref qdp, .int dr, .int tl, .ref qnw, .ref qps, .int (nI dn), .ref qim, .ref qisd, .ref qkp, .int sd, .ref qfd, .int (nI fn), .ref qbk, .int (nI en), .int (nI at_), .int (nI wr), .int (nI (pos + 100)), .int (0 + (2 * v)), .int w, .int v, .ref qal, .ref qco])), (qlw, .inl (cI, 5, .inl lw)), (qgp, .inl (cI, 8, .inl gp))] rfl (by decide) g916 rfl rfl rfl (Nat.le_of_ble_eq_true rfl) rfl dX10_walks_117 ?_
                refine J_aload_n (pc := 120) X 1 dX10_walks_120 rfl ?_
                refine J_get (pc := 121) X clX10 0 27 rfl (by decide) g916 rfl dX10_walks_121 ?_
                refine J_aload_n (pc := 124) X 1 dX10_walks_124 rfl ?_
                refine J_iload_n (pc := 125) X 0 dX10_walks_125 rfl ?_
                refine J_iload_n (pc := 126) X 2 dX10_walks_126 rfl ?_
                refine J_callR (pc := 127) (As := [.int (nI pos), .int t]) (rest := [.int (0 + (2 * v))]) X mtX10_yardsOf g1067 [0, 1, 2] 0 (kX10_yardsOf l G cI cC cZ q qtx qlw qgp qhm qpcs qdl qdg qdh qdp qnw qps qim qisd qkp qfd qbk qal qco ln fa dr dn sd fn en at_ wr (nI (pos + 100)) (0 + (2 * v)) w v tl lw gp P gr wd g wk pos t (by first | assumption | omega) (by first | assumption | omega) (by first | assumption | omega) (by first | assumption | omega) (by first | assumption | omega) (by first | assumption | omega) (by first | assumption | omega) (by first | assumption | omega) (by first | assumption | omega) (by first | assumption | omega) (by first | assumption | omega)) ⟨Nat.le_of_ble_eq_true rfl, Nat.le_of_ble_eq_true rfl⟩ rfl rfl rfl (by decide) rfl rfl rfl rfl rfl (Nat.le_of_ble_eq_true rfl) (Nat.zero_le _) (Nat.zero_le _) dX10_walks_127 (fun r_59 u_60 w_61 => ?_)
                try dsimp only at w_61
                subst w_61
                refine J_icmp_lt (pc := 130) X 157 dX10_walks_130 (by decide) (fun c_62 => ?_) (fun c_62 => ?_)
                · skip
                  refine J_vret (pc := 157) X hr ((pos + 100), (0 + (2 * v)), w) dX10_walks_157 ?_ rfl
                  try have q1 : ¬ pos < 100 := by omega
                  try have q2 : pos < 100 := by omega
                  try have q3 : 100 + (pos - 100) = pos := by omega
                  try simp only [Int32.zero_add] at *
                  simp [stP, goK, pce, *]
                  try omega
                · skip
                  refine J_aload_n (pc := 133) X 1 dX10_walks_133 rfl ?_
                  refine J_aload_n (pc := 134) X 1 dX10_walks_134 rfl ?_
                  refine J_get (pc := 135) X clX10 0 28 rfl (by decide) g917 rfl dX10_walks_135 ?_
                  refine J_iconst (pc := 138) X 2 dX10_walks_138 (by decide) ?_
                  refine J_icmp_ne (pc := 139) X 148 dX10_walks_139 (by decide) (fun c_63 => ?_) (fun c_63 => ?_)
                  · skip
                    exact absurd c_17 c_63
                  · skip
                    refine J_iload_n (pc := 142) X 0 dX10_walks_142 rfl ?_
                    refine J_iconst (pc := 143) X 1 dX10_walks_143 (by decide) ?_
                    refine J_iadd (pc := 144) X dX10_walks_144 ?_
                    refine J_top (y := nI (pos + 1)) (n_add (x := pos) (y := 1) rfl rfl (by omega)) ?_
                    refine J_goto (pc := 145) X 149 dX10_walks_145 (by decide) ?_
                    refine J_put (pc := 149) X clX10 0 26 [(q, .inr (10, [.ref qtx, .int (nI ln), .int fa, .ref qlw, .ref qgp, .ref qhm, .ref qpcs, .ref qdl, .ref qdg, .ref qdh, .ref qdp, .int dr, .int tl, .ref qnw, .ref qps, .int (nI dn), .ref qim, .ref qisd, .ref qkp, .int sd, .ref qfd, .int (nI fn), .ref qbk, .int (nI en), .int (nI at_), .int (nI wr), .int (nI (pos + 1)), .int (0 + (2 * v)), .int w, .int v, .ref qal, .ref qco])), (qlw, .inl (cI, 5, .inl lw)), (qgp, .inl (cI, 8, .inl gp))] rfl (by decide) g915 rfl rfl rfl (Nat.le_of_ble_eq_true rfl) rfl dX10_walks_149 ?_
                    refine J_aload_n (pc := 152) X 1 dX10_walks_152 rfl ?_
                    refine J_iconst (pc := 153) X 0 dX10_walks_153 (by decide) ?_
                    refine J_put (pc := 154) X clX10 0 27 [(q, .inr (10, [.ref qtx, .int (nI ln), .int fa, .ref qlw, .ref qgp, .ref qhm, .ref qpcs, .ref qdl, .ref qdg, .ref qdh, .ref qdp, .int dr, .int tl, .ref qnw, .ref qps, .int (nI dn), .ref qim, .ref qisd, .ref qkp, .int sd, .ref qfd, .int (nI fn), .ref qbk, .int (nI en), .int (nI at_), .int (nI wr), .int (nI (pos + 1)), .int 0, .int w, .int v, .ref qal, .ref qco])), (qlw, .inl (cI, 5, .inl lw)), (qgp, .inl (cI, 8, .inl gp))] rfl (by decide) g916 rfl rfl rfl (Nat.le_of_ble_eq_true rfl) rfl dX10_walks_154 ?_
                    refine J_vret (pc := 157) X hr ((pos + 1), 0, w) dX10_walks_157 ?_ rfl
                    try have q1 : ¬ pos < 100 := by omega
                    try have q2 : pos < 100 := by omega
                    try have q3 : 100 + (pos - 100) = pos := by omega
                    try simp only [Int32.zero_add] at *
                    simp [stP, goK, pce, *]
                    try omega
        · skip
          refine J_aload_n (pc := 47) X 1 dX10_walks_47 rfl ?_
          refine J_iconst (pc := 48) X 1 dX10_walks_48 (by decide) ?_
          refine J_put (pc := 49) X clX10 0 28 [(q, .inr (10, [.ref qtx, .int (nI ln), .int fa, .ref qlw, .ref qgp, .ref qhm, .ref qpcs, .ref qdl, .ref qdg, .ref qdh, .ref qdp, .int dr, .int tl, .ref qnw, .ref qps, .int (nI dn), .ref qim, .ref qisd, .ref qkp, .int sd, .ref qfd, .int (nI fn), .ref qbk, .int (nI en), .int (nI at_), .int (nI wr), .int (nI pos), .int y, .int 1, .int v, .ref qal, .ref qco])), (qlw, .inl (cI, 5, .inl lw)), (qgp, .inl (cI, 8, .inl gp))] rfl (by decide) g917 rfl rfl rfl (Nat.le_of_ble_eq_true rfl) rfl dX10_walks_49 ?_
          refine J_aload_n (pc := 52) X 1 dX10_walks_52 rfl ?_
          refine J_get (pc := 53) X clX10 0 28 rfl (by decide) g917 rfl dX10_walks_53 ?_
          refine J_iconst (pc := 56) X 1 dX10_walks_56 (by decide) ?_
          refine J_icmp_eq (pc := 57) X 73 dX10_walks_57 (by decide) (fun c_64 => ?_) (fun c_64 => ?_)
          · have c_64 : 1 = 1 := n_eq_of (a := 1) (b := 1) (by omega) (by omega) c_64
            refine J_aload_n (pc := 73) X 1 dX10_walks_73 rfl ?_
            refine J_get (pc := 74) X clX10 0 26 rfl (by decide) g915 rfl dX10_walks_74 ?_
            refine J_bipush (pc := 77) X 100 dX10_walks_77 (by decide) ?_
            refine J_icmp_lt (pc := 79) X 157 dX10_walks_79 (by decide) (fun c_65 => ?_) (fun c_65 => ?_)
            · have c_65 : pos < 100 := n_lt_of (a := pos) (b := 100) (by omega) (by omega) c_65
              refine J_vret (pc := 157) X hr (pos, y, 1) dX10_walks_157 ?_ rfl
              try have q1 : ¬ pos < 100 := by omega
              try have q2 : pos < 100 := by omega
              try have q3 : 100 + (pos - 100) = pos := by omega
              try simp only [Int32.zero_add] at *
              simp [stP, goK, pce, *]
              try omega
            · have c_65 : 100 ≤ pos := n_nlt_of (a := pos) (b := 100) (by omega) (by omega) c_65
              exfalso; omega
          · have c_64 : ¬ 1 = 1 := n_ne_of (a := 1) (b := 1) (by omega) (by omega) c_64
            exfalso; omega
