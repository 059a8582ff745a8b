set_option maxRecDepth 100000 in
set_option maxHeartbeats 600000 in
theorem kX10_meets (l : Launch) (G : va_G) (cI cC cZ : ClassId) (q : Nat) (qtx : Nat) (qlw : Nat) (qgp : Nat) (qhm : Nat) (qpcs : Nat) (qdl : Nat) (qdg : Nat) (qdh : Nat) (qdp : Nat) (qnw : Nat) (qps : Nat) (qim : Nat) (qisd : Nat) (qkp : Nat) (qfd : Nat) (qbk : Nat) (qal : Nat) (qco : Nat) (ln : Nat) (fa : Int32) (dr : Int32) (dn : Nat) (sd : Int32) (fn : Nat) (en : Nat) (at_ : Nat) (wr : Nat) (pl : Int32) (yd : Int32) (wy : Int32) (pce_ : Int32) (tl : Int32) (lw : Nat → Int32) (gp : Nat → Int32) (nw : Nat → Int32) (pcs : Nat → Int32) (co : Nat → Int32) (P : Nat) (gr : Int32) (wd : Nat) (g : Nat) (wk : Nat) (w : Int32) (z : Int32) (hPl : P ≤ 60) (hg : g ≤ 8) (hwk : wk ≤ 4) (hwd : wd ≤ 50) (hl0 : lw 0 = nI P) (hl1 : lw 1 = gr) (hl2 : lw 2 = nI wd) (hl3 : lw 3 = nI g) (hl4 : lw 4 = nI wk) (hP0 : 0 < g → 0 < P) (hok : okS g wk nw) : CI l G (tys3 cI cC cZ) yX10_meets cX10_meets 6 (some .int) ({ frames := 4, cells := 0, slots := 0, locals := 92 }) [.ref q, .int w, .int z] [(q, .inr (10, [.ref qtx, .int (nI ln), .int fa, .ref qlw, .ref qgp, .ref qhm, .ref qpcs, .ref qdl, .ref qdg, .ref qdh, .ref qdp, .int dr, .int tl, .ref qnw, .ref qps, .int (nI dn), .ref qim, .ref qisd, .ref qkp, .int sd, .ref qfd, .int (nI fn), .ref qbk, .int (nI en), .int (nI at_), .int (nI wr), .int pl, .int yd, .int wy, .int pce_, .ref qal, .ref qco])), (qlw, .inl (cI, 5, .inl lw)), (qgp, .inl (cI, 8, .inl gp)), (qnw, .inl (cI, 14, .inl nw)), (qpcs, .inl (cI, 4, .inl pcs)), (qco, .inl (cI, 301, .inl co))] (S := Int32 × Int32 × Int32 × Int32 × (Nat → Int32)) (fun (r : Int32) (u : Int32 × Int32 × Int32 × Int32 × (Nat → Int32)) => r = spMeets g wk (fun k9 t9 => yG P (gp k9) gr t9) pcs nw w z) (fun (u : Int32 × Int32 × Int32 × Int32 × (Nat → Int32)) => [(q, .inr (10, [.ref qtx, .int (nI ln), .int fa, .ref qlw, .ref qgp, .ref qhm, .ref qpcs, .ref qdl, .ref qdg, .ref qdh, .ref qdp, .int dr, .int tl, .ref qnw, .ref qps, .int (nI dn), .ref qim, .ref qisd, .ref qkp, .int sd, .ref qfd, .int (nI fn), .ref qbk, .int (nI en), .int (nI at_), .int (nI wr), .int u.1, .int u.2.1, .int u.2.2.1, .int u.2.2.2.1, .ref qal, .ref qco])), (qlw, .inl (cI, 5, .inl lw)), (qgp, .inl (cI, 8, .inl gp)), (qnw, .inl (cI, 14, .inl nw)), (qpcs, .inl (cI, 4, .inl pcs)), (qco, .inl (cI, 301, .inl u.2.2.2.2))]) := by
  refine CI.intro (by decide) (Nat.le_of_ble_eq_true rfl) ?_
  intro p0 e0 s0 m0 ar0 be0 me0 c0 A0 X hr
  refine J_aload_n (pc := 0) X 0 dX10_meets_0 rfl ?_
  refine J_iload_n (pc := 1) X 1 dX10_meets_1 rfl ?_
  refine J_iload_n (pc := 2) X 2 dX10_meets_2 rfl ?_
  refine J_callR (pc := 3) (As := [.int w, .int z]) (rest := []) X mtX10_areWalkers g1159 [0, 1] 0 (kX10_areWalkers l G cI cC cZ q qtx qlw qgp qhm qpcs qdl qdg qdh qdp qnw qps qim qisd qkp qfd qbk qal qco ln fa dr dn sd fn en at_ wr pl yd wy pce_ tl lw P gr wd g wk w z (by first | assumption | omega) (by first | assumption | omega) (by first | assumption | omega) (by first | assumption | omega) (by first | assumption | omega) (by first | assumption | omega) (by first | assumption | omega) (by first | assumption | omega) (by first | assumption | omega)) ⟨Nat.le_of_ble_eq_true rfl, Nat.le_of_ble_eq_true rfl⟩ rfl rfl rfl (by decide) rfl rfl rfl rfl rfl (Nat.le_of_ble_eq_true rfl) (Nat.zero_le _) (Nat.zero_le _) dX10_meets_3 (fun r_1 u_2 w_3 => ?_)
  try dsimp only at w_3
  subst w_3
  refine J_bif_ne (pc := 6) X 12 dX10_meets_6 (by decide) (fun c_4 => ?_) (fun c_4 => ?_)
  · skip
    have htwo := c_4
    obtain ⟨hta, htb, hnab⟩ := c_4
    obtain ⟨an, han, rfl⟩ := inB_ex (by omega) hta
    obtain ⟨bn, hbn, rfl⟩ := inB_ex (by omega) htb
    have hne : ¬ an = bn := fun e9 => hnab (congrArg nI e9)
    have ca := nI_clamp (n := an) (by omega)
    have cb := nI_clamp (n := bn) (by omega)
    obtain ⟨ps1, hps1, hpk1⟩ := hok an han
    have hpl1 := posOk_lt hg hpk1
    have hpf1 := posF_of hps1 hpl1
    obtain ⟨ps2, hps2, hpk2⟩ := hok bn hbn
    have hpl2 := posOk_lt hg hpk2
    have hpf2 := posF_of hps2 hpl2
    refine J_aload_n (pc := 12) X 0 dX10_meets_12 rfl ?_
    refine J_iload_n (pc := 13) X 1 dX10_meets_13 rfl ?_
    refine J_callV (pc := 14) (As := [.int (nI an)]) (rest := []) X mtX10_tries g1094 [0, 3, 4] [1, 2, 5] [3, 0, 1, 4, 5, 2] 0 (fun u => [(q, .inr (10, [.ref qtx, .int (nI ln), .int fa, .ref qlw, .ref qgp, .ref qhm, .ref qpcs, .ref qdl, .ref qdg, .ref qdh, .ref qdp, .int dr, .int tl, .ref qnw, .ref qps, .int (nI dn), .ref qim, .ref qisd, .ref qkp, .int sd, .ref qfd, .int (nI fn), .ref qbk, .int (nI en), .int (nI at_), .int (nI wr), .int (nI ps1), .int (nw (3 * an + 3)), .int (nw (3 * an + 4)), .int (pcs an), .ref qal, .ref qco])), (qlw, .inl (cI, 5, .inl lw)), (qgp, .inl (cI, 8, .inl gp)), (qnw, .inl (cI, 14, .inl nw)), (qpcs, .inl (cI, 4, .inl pcs)), (qco, .inl (cI, 301, .inl co))]) (kX10_tries l G cI cC cZ q qtx qlw qgp qhm qpcs qdl qdg qdh qdp qnw qps qim qisd qkp qfd qbk qal qco ln fa dr dn sd fn en at_ wr pl yd wy pce_ tl nw pcs an ps1 (by first | assumption | omega) hps1) ⟨Nat.le_of_ble_eq_true rfl, Nat.le_of_ble_eq_true rfl⟩ rfl rfl rfl (by decide) (wr := [(qlw, .inl (cI, 5, .inl lw)), (qgp, .inl (cI, 8, .inl gp)), (qco, .inl (cI, 301, .inl co))]) rfl (by decide) (by decide) (fun _ => rfl) (by decide) rfl rfl rfl rfl rfl (Nat.le_of_ble_eq_true rfl) (Nat.zero_le _) (Nat.zero_le _) dX10_meets_14 (fun u_6 w_7 => ?_)
    try dsimp only at w_7
    refine J_iconst (pc := 17) X 0 dX10_meets_17 (by decide) ?_
    refine J_istore_n (pc := 18) X [(3, .int 0), (0, .ref q), (1, .int (nI an)), (2, .int (nI bn))] dX10_meets_18 (by decide) rfl ?_
    have L_19 : ∀ (n_19 : Nat) (n : Nat) (pos : Nat) (y : Int32) (wx : Int32) (cc_ : Nat → Int32) (hn9 : n ≤ 301) (hpk : posOk g pos) (hst : (pos, y, wx) = onW g (fun k9 t9 => yG P (gp k9) gr t9) (nw 1) (pcs an) (nw 0) (xW nw an) n) (hco : ∀ j9, j9 < n → cc_ j9 = (cW g (fun k9 t9 => yG P (gp k9) gr t9) pcs nw an) j9), (301 - n) < n_19 → JJ p0 l e0 ({ frames := 4, cells := 0, slots := 0, locals := 92 }) s0 m0 ar0 be0 me0 c0 A0 G 6 0 0 (QI be0 ar0 s0 A0 G (tys3 cI cC cZ) (S := Int32 × Int32 × Int32 × Int32 × (Nat → Int32)) (fun (r : Int32) (u : Int32 × Int32 × Int32 × Int32 × (Nat → Int32)) => r = spMeets g wk (fun k9 t9 => yG P (gp k9) gr t9) pcs nw (nI an) (nI bn)) (fun (u : Int32 × Int32 × Int32 × Int32 × (Nat → Int32)) => [(q, .inr (10, [.ref qtx, .int (nI ln), .int fa, .ref qlw, .ref qgp, .ref qhm, .ref qpcs, .ref qdl, .ref qdg, .ref qdh, .ref qdp, .int dr, .int tl, .ref qnw, .ref qps, .int (nI dn), .ref qim, .ref qisd, .ref qkp, .int sd, .ref qfd, .int (nI fn), .ref qbk, .int (nI en), .int (nI at_), .int (nI wr), .int u.1, .int u.2.1, .int u.2.2.1, .int u.2.2.2.1, .ref qal, .ref qco])), (qlw, .inl (cI, 5, .inl lw)), (qgp, .inl (cI, 8, .inl gp)), (qnw, .inl (cI, 14, .inl nw)), (qpcs, .inl (cI, 4, .inl pcs)), (qco, .inl (cI, 301, .inl u.2.2.2.2))])) [(q, .inr (10, [.ref qtx, .int (nI ln), .int fa, .ref qlw, .ref qgp, .ref qhm, .ref qpcs, .ref qdl, .ref qdg, .ref qdh, .ref qdp, .int dr, .int tl, .ref qnw, .ref qps, .int (nI dn), .ref qim, .ref qisd, .ref qkp, .int sd, .ref qfd, .int (nI fn), .ref qbk, .int (nI en), .int (nI at_), .int (nI wr), .int (nI pos), .int y, .int wx, .int (pcs an), .ref qal, .ref qco])), (qlw, .inl (cI, 5, .inl lw)), (qgp, .inl (cI, 8, .inl gp)), (qnw, .inl (cI, 14, .inl nw)), (qpcs, .inl (cI, 4, .inl pcs)), (qco, .inl (cI, 301, .inl cc_))] 19 [(0, .ref q), (1, .int (nI an)), (2, .int (nI bn)), (3, .int (nI n))] [] := by
      intro n_19
      induction n_19 with
      | zero => intro n pos y wx cc_ hn9 hpk hst hco hm_19; exact absurd hm_19 (Nat.not_lt_zero _)
      | succ n_19 ih_19 =>
        intro n pos y wx cc_ hn9 hpk hst hco hm_19
        have hpl := posOk_lt hg hpk
        refine J_iload_n (pc := 19) X 3 dX10_meets_19 rfl ?_
        refine J_sipush (pc := 20) X 301 dX10_meets_20 (by decide) ?_
        refine J_icmp_ge (pc := 23) X 68 dX10_meets_23 (by decide) (fun c_8 => ?_) (fun c_8 => ?_)
        · have c_8 : 301 ≤ n := n_le_of (a := 301) (b := n) (by omega) (by omega) c_8
          refine J_aload_n (pc := 68) X 0 dX10_meets_68 rfl ?_
          refine J_iload_n (pc := 69) X 2 dX10_meets_69 rfl ?_
          refine J_callV (pc := 70) (As := [.int (nI bn)]) (rest := []) X mtX10_tries g1094 [0, 3, 4] [1, 2, 5] [3, 0, 1, 4, 5, 2] 0 (fun u => [(q, .inr (10, [.ref qtx, .int (nI ln), .int fa, .ref qlw, .ref qgp, .ref qhm, .ref qpcs, .ref qdl, .ref qdg, .ref qdh, .ref qdp, .int dr, .int tl, .ref qnw, .ref qps, .int (nI dn), .ref qim, .ref qisd, .ref qkp, .int sd, .ref qfd, .int (nI fn), .ref qbk, .int (nI en), .int (nI at_), .int (nI wr), .int (nI ps2), .int (nw (3 * bn + 3)), .int (nw (3 * bn + 4)), .int (pcs bn), .ref qal, .ref qco])), (qlw, .inl (cI, 5, .inl lw)), (qgp, .inl (cI, 8, .inl gp)), (qnw, .inl (cI, 14, .inl nw)), (qpcs, .inl (cI, 4, .inl pcs)), (qco, .inl (cI, 301, .inl cc_))]) (kX10_tries l G cI cC cZ q qtx qlw qgp qhm qpcs qdl qdg qdh qdp qnw qps qim qisd qkp qfd qbk qal qco ln fa dr dn sd fn en at_ wr (nI pos) y wx (pcs an) tl nw pcs bn ps2 (by first | assumption | omega) hps2) ⟨Nat.le_of_ble_eq_true rfl, Nat.le_of_ble_eq_true rfl⟩ rfl rfl rfl (by decide) (wr := [(qlw, .inl (cI, 5, .inl lw)), (qgp, .inl (cI, 8, .inl gp)), (qco, .inl (cI, 301, .inl cc_))]) rfl (by decide) (by decide) (fun _ => rfl) (by decide) rfl rfl rfl rfl rfl (Nat.le_of_ble_eq_true rfl) (Nat.zero_le _) (Nat.zero_le _) dX10_meets_70 (fun u_10 w_11 => ?_)
          try dsimp only at w_11
          refine J_iconst (pc := 73) X 0 dX10_meets_73 (by decide) ?_
          refine J_istore_n (pc := 74) X [(3, .int 0), (0, .ref q), (1, .int (nI an)), (2, .int (nI bn))] dX10_meets_74 (by decide) rfl ?_
          refine J_iconst (pc := 75) X 0 dX10_meets_75 (by decide) ?_
          refine J_istore (pc := 76) X [(4, .int 0), (3, .int 0), (0, .ref q), (1, .int (nI an)), (2, .int (nI bn))] dX10_meets_76 (by decide) rfl ?_
          have L_78 : ∀ (n_78 : Nat) (j : Nat) (pos : Nat) (y : Int32) (wx : Int32) (bw : Int32) (hj9 : j ≤ 301) (hpk : posOk g pos) (hst : (pos, y, wx) = onW g (fun k9 t9 => yG P (gp k9) gr t9) (nw 1) (pcs bn) (nw 0) (xW nw bn) j) (hbw : 0 < j → bw = bI ((cW g (fun k9 t9 => yG P (gp k9) gr t9) pcs nw an) 0 < (cW g (fun k9 t9 => yG P (gp k9) gr t9) pcs nw bn) 0)) (hf : fstN (meQ (cW g (fun k9 t9 => yG P (gp k9) gr t9) pcs nw an) (cW g (fun k9 t9 => yG P (gp k9) gr t9) pcs nw bn)) (301 - j) j = fstN (meQ (cW g (fun k9 t9 => yG P (gp k9) gr t9) pcs nw an) (cW g (fun k9 t9 => yG P (gp k9) gr t9) pcs nw bn)) 301 0), (301 - j) < n_78 → JJ p0 l e0 ({ frames := 4, cells := 0, slots := 0, locals := 92 }) s0 m0 ar0 be0 me0 c0 A0 G 6 0 0 (QI be0 ar0 s0 A0 G (tys3 cI cC cZ) (S := Int32 × Int32 × Int32 × Int32 × (Nat → Int32)) (fun (r : Int32) (u : Int32 × Int32 × Int32 × Int32 × (Nat → Int32)) => r = spMeets g wk (fun k9 t9 => yG P (gp k9) gr t9) pcs nw (nI an) (nI bn)) (fun (u : Int32 × Int32 × Int32 × Int32 × (Nat → Int32)) => [(q, .inr (10, [.ref qtx, .int (nI ln), .int fa, .ref qlw, .ref qgp, .ref qhm, .ref qpcs, .ref qdl, .ref qdg, .ref qdh, .ref qdp, .int dr, .int tl, .ref qnw, .ref qps, .int (nI dn), .ref qim, .ref qisd, .ref qkp, .int sd, .ref qfd, .int (nI fn), .ref qbk, .int (nI en), .int (nI at_), .int (nI wr), .int u.1, .int u.2.1, .int u.2.2.1, .int u.2.2.2.1, .ref qal, .ref qco])), (qlw, .inl (cI, 5, .inl lw)), (qgp, .inl (cI, 8, .inl gp)), (qnw, .inl (cI, 14, .inl nw)), (qpcs, .inl (cI, 4, .inl pcs)), (qco, .inl (cI, 301, .inl u.2.2.2.2))])) [(q, .inr (10, [.ref qtx, .int (nI ln), .int fa, .ref qlw, .ref qgp, .ref qhm, .ref qpcs, .ref qdl, .ref qdg, .ref qdh, .ref qdp, .int dr, .int tl, .ref qnw, .ref qps, .int (nI dn), .ref qim, .ref qisd, .ref qkp, .int sd, .ref qfd, .int (nI fn), .ref qbk, .int (nI en), .int (nI at_), .int (nI wr), .int (nI pos), .int y, .int wx, .int (pcs bn), .ref qal, .ref qco])), (qlw, .inl (cI, 5, .inl lw)), (qgp, .inl (cI, 8, .inl gp)), (qnw, .inl (cI, 14, .inl nw)), (qpcs, .inl (cI, 4, .inl pcs)), (qco, .inl (cI, 301, .inl cc_))] 78 [(0, .ref q), (1, .int (nI an)), (2, .int (nI bn)), (3, .int bw), (4, .int (nI j))] [] := by
            intro n_78
            induction n_78 with
            | zero => intro j pos y wx bw hj9 hpk hst hbw hf hm_78; exact absurd hm_78 (Nat.not_lt_zero _)
            | succ n_78 ih_78 =>
              intro j pos y wx bw hj9 hpk hst hbw hf hm_78
              have hpl := posOk_lt hg hpk
              refine J_iload (pc := 78) X 4 dX10_meets_78 rfl ?_
              refine J_sipush (pc := 80) X 301 dX10_meets_80 (by decide) ?_
              refine J_icmp_ge (pc := 83) X 188 dX10_meets_83 (by decide) (fun c_12 => ?_) (fun c_12 => ?_)
              · have c_12 : 301 ≤ j := n_le_of (a := 301) (b := j) (by omega) (by omega) c_12
                refine J_iconst (pc := 188) X (-1) dX10_meets_188 (by decide) ?_
                refine J_iret (pc := 189) X hr ((nI pos), y, wx, (pcs bn), cc_) dX10_meets_189 ?_ rfl
                rw [spMeets, if_pos htwo, ca, cb]
                exact fst_out hf (by omega)
              · have c_12 : j < 301 := n_nle_of (a := 301) (b := j) (by omega) (by omega) c_12
                refine J_aload_n (pc := 86) X 0 dX10_meets_86 rfl ?_
                refine J_aload_n (pc := 87) X 0 dX10_meets_87 rfl ?_
                refine J_get (pc := 88) X clX10 0 13 rfl (by decide) g902 rfl dX10_meets_88 ?_
                refine J_iconst (pc := 91) X 0 dX10_meets_91 (by decide) ?_
                refine J_iald (pc := 92) X 3 0 0 rfl rfl rfl (by decide) (by decide) dX10_meets_92 ?_
                refine J_iload (pc := 93) X 4 dX10_meets_93 rfl ?_
                refine J_iadd (pc := 95) X dX10_meets_95 ?_
                refine J_callR (pc := 96) (As := [.int ((nw 0) + (nI j))]) (rest := []) X mtX10_whereAt g1098 [0, 1, 2] 0 (kX10_whereAt l G cI cC cZ q qtx qlw qgp qhm qpcs qdl qdg qdh qdp qnw qps qim qisd qkp qfd qbk qal qco ln fa dr dn sd fn en at_ wr (pcs bn) tl lw gp P gr wd g wk pos y wx ((nw 0) + (nI j)) (by first | assumption | omega) (by first | assumption | omega) (by first | assumption | omega) (by first | assumption | omega) (by first | assumption | omega) (by first | assumption | omega) (by first | assumption | omega) (by first | assumption | omega) (by first | assumption | omega) (by first | assumption | omega) hpk) ⟨Nat.le_of_ble_eq_true rfl, Nat.le_of_ble_eq_true rfl⟩ rfl rfl rfl (by decide) rfl rfl rfl rfl rfl (Nat.le_of_ble_eq_true rfl) (Nat.zero_le _) (Nat.zero_le _) dX10_meets_96 (fun r_13 u_14 w_15 => ?_)
                try dsimp only at w_15
                subst w_15
                have hCb : (cW g (fun k9 t9 => yG P (gp k9) gr t9) pcs nw bn) j = whP (fun k9 => yG P (gp k9) gr (nw 0 + nI j)) pos y wx := by show whP _ _ _ _ = _; rw [← hst]
                refine J_istore (pc := 99) X [(5, .int (whP (fun k9 => yG P (gp k9) gr ((nw 0) + (nI j))) pos y wx)), (0, .ref q), (1, .int (nI an)), (2, .int (nI bn)), (3, .int bw), (4, .int (nI j))] dX10_meets_99 (by decide) rfl ?_
                refine J_iload (pc := 101) X 5 dX10_meets_101 rfl ?_
                refine J_if_ne (pc := 103) X 125 dX10_meets_103 (by decide) (fun c_16 => ?_) (fun c_16 => ?_)
                · have c_16 : ¬ j = 0 := n_ne_of (a := j) (b := 0) (by omega) (by omega) c_16
                  refine J_iload_n (pc := 125) X 4 dX10_meets_125 rfl ?_
                  refine J_istore_n (pc := 126) X [(3, .int bw), (5, .int (whP (fun k9 => yG P (gp k9) gr ((nw 0) + (nI j))) pos y wx)), (0, .ref q), (1, .int (nI an)), (2, .int (nI bn)), (4, .int (nI j))] dX10_meets_126 (by decide) rfl ?_
                  refine J_aload_n (pc := 127) X 2 dX10_meets_127 rfl ?_
                  refine J_get (pc := 128) X clX10 0 31 rfl (by decide) g920 rfl dX10_meets_128 ?_
                  refine J_iload (pc := 131) X 5 dX10_meets_131 rfl ?_
                  refine J_iald (pc := 133) X 5 0 j rfl rfl rfl (by omega) (by decide) dX10_meets_133 ?_
                  refine J_iload (pc := 134) X 1 dX10_meets_134 rfl ?_
                  refine J_icmp_eq (pc := 136) X 160 dX10_meets_136 (by decide) (fun c_17 => ?_) (fun c_17 => ?_)
                  · skip
                    refine J_iload (pc := 160) X 5 dX10_meets_160 rfl ?_
                    refine J_iret (pc := 162) X hr ((nI pos), y, wx, (pcs bn), cc_) dX10_meets_162 ?_ rfl
                    rw [spMeets, if_pos htwo, ca, cb]
                    refine fst_in hf (by omega) ?_
                    first | exact me_eq (hco j (by omega)) hCb (by assumption) | exact me_t (hco j (by omega)) hCb (by assumption) (hbw (by omega)) (by assumption) | exact me_f (hco j (by omega)) hCb (by assumption) (hbw (by omega)) (by assumption)
                  · skip
                    refine J_aload_n (pc := 139) X 2 dX10_meets_139 rfl ?_
                    refine J_get (pc := 140) X clX10 0 31 rfl (by decide) g920 rfl dX10_meets_140 ?_
                    refine J_iload (pc := 143) X 5 dX10_meets_143 rfl ?_
                    refine J_iald (pc := 145) X 5 0 j rfl rfl rfl (by omega) (by decide) dX10_meets_145 ?_
                    refine J_iload (pc := 146) X 1 dX10_meets_146 rfl ?_
                    refine J_icmp_ge (pc := 148) X 155 dX10_meets_148 (by decide) (fun c_18 => ?_) (fun c_18 => ?_)
                    · have c_18 := Int32.not_lt.mpr c_18
                      refine J_iconst (pc := 155) X 0 dX10_meets_155 (by decide) ?_
                      refine J_iload_n (pc := 156) X 0 dX10_meets_156 rfl ?_
                      refine J_icmp_eq (pc := 157) X 163 dX10_meets_157 (by decide) (fun c_19 => ?_) (fun c_19 => ?_)
                      · skip
                        refine J_aload_n (pc := 163) X 2 dX10_meets_163 rfl ?_
                        refine J_aload_n (pc := 164) X 2 dX10_meets_164 rfl ?_
                        refine J_get (pc := 165) X clX10 0 13 rfl (by decide) g902 rfl dX10_meets_165 ?_
                        refine J_iconst (pc := 168) X 0 dX10_meets_168 (by decide) ?_
                        refine J_iald (pc := 169) X 3 0 0 rfl rfl rfl (by decide) (by decide) dX10_meets_169 ?_
                        refine J_iload (pc := 170) X 5 dX10_meets_170 rfl ?_
                        refine J_iadd (pc := 172) X dX10_meets_172 ?_
                        refine J_aload_n (pc := 173) X 2 dX10_meets_173 rfl ?_
                        refine J_get (pc := 174) X clX10 0 13 rfl (by decide) g902 rfl dX10_meets_174 ?_
                        refine J_iconst (pc := 177) X 1 dX10_meets_177 (by decide) ?_
                        refine J_iald (pc := 178) X 3 0 1 rfl rfl rfl (by decide) (by decide) dX10_meets_178 ?_
                        refine J_callV (pc := 179) (As := [.int ((nw 0) + (nI j)), .int (nw 1)]) (rest := []) X mtX10_walks g1135 [0, 1, 2] [3, 4, 5] [3, 4, 5, 0, 1, 2] 0 (fun u => [(q, .inr (10, [.ref qtx, .int (nI ln), .int fa, .ref qlw, .ref qgp, .ref qhm, .ref qpcs, .ref qdl, .ref qdg, .ref qdh, .ref qdp, .int dr, .int tl, .ref qnw, .ref qps, .int (nI dn), .ref qim, .ref qisd, .ref qkp, .int sd, .ref qfd, .int (nI fn), .ref qbk, .int (nI en), .int (nI at_), .int (nI wr), .int (nI u.1), .int u.2.1, .int u.2.2, .int (pcs bn), .ref qal, .ref qco])), (qlw, .inl (cI, 5, .inl lw)), (qgp, .inl (cI, 8, .inl gp)), (qnw, .inl (cI, 14, .inl nw)), (qpcs, .inl (cI, 4, .inl pcs)), (qco, .inl (cI, 301, .inl cc_))]) (kX10_walks l G cI cC cZ q qtx qlw qgp qhm qpcs qdl qdg qdh qdp qnw qps qim qisd qkp qfd qbk qal qco ln fa dr dn sd fn en at_ wr tl lw gp P gr wd g wk pos y wx (pcs bn) ((nw 0) + (nI j)) (nw 1) (by first | assumption | omega) (by first | assumption | omega) (by first | assumption | omega) (by first | assumption | omega) (by first | assumption | omega) (by first | assumption | omega) (by first | assumption | omega) (by first | assumption | omega) (by first | assumption | omega) (by first | assumption | omega) hpk) ⟨Nat.le_of_ble_eq_true rfl, Nat.le_of_ble_eq_true rfl⟩ rfl rfl rfl (by decide) (wr := [(qnw, .inl (cI, 14, .inl nw)), (qpcs, .inl (cI, 4, .inl pcs)), (qco, .inl (cI, 301, .inl cc_))]) rfl (by decide) (by decide) (fun _ => rfl) (by decide) rfl rfl rfl rfl rfl (Nat.le_of_ble_eq_true rfl) (Nat.zero_le _) (Nat.zero_le _) dX10_meets_179 (fun u_21 w_22 => ?_)
                        obtain ⟨pos2_u_21, y2_u_21, w2_u_21⟩ := u_21
                        try dsimp only at w_22
                        have hstp := w_22; have hpk9 := stP_ok2 hg hpk w_22
                        refine J_iinc (pc := 182) X (nI (j + 1)) 5 [(4, .int (nI (j + 1))), (3, .int bw), (5, .int (whP (fun k9 => yG P (gp k9) gr ((nw 0) + (nI j))) pos y wx)), (0, .ref q), (1, .int (nI an)), (2, .int (nI bn))] dX10_meets_182 rfl (n_add (x := j) (y := 1) rfl rfl (by omega)) (by decide) rfl ?_
                        refine J_goto (pc := 185) X 78 dX10_meets_185 (by decide) ?_
                        refine J_loc [3, 4, 5, 1, 0] (lv2 := [(0, .ref q), (1, .int (nI an)), (2, .int (nI bn)), (3, .int bw), (4, .int (nI (j + 1)))]) rfl ?_
                        exact ih_78  (j + 1) pos2_u_21 y2_u_21 w2_u_21 bw (by first | assumption | omega | simp_all) hpk9 (by rw [onW, ← hst]; exact hstp) (fun _ => by first | exact hbw (by omega) | exact b0_t (hco 0 (by omega)) hCb (by assumption) | exact b0_f (hco 0 (by omega)) hCb (by assumption)) (fst_on hf (by omega) (by first | exact mx_t (hco j (by omega)) hCb (by assumption) (by assumption) (hbw (by omega)) (by assumption) | exact mx_f (hco j (by omega)) hCb (by assumption) (by assumption) (hbw (by omega)) (by assumption))) (by omega)
                      · skip
                        refine J_iload (pc := 160) X 5 dX10_meets_160 rfl ?_
                        refine J_iret (pc := 162) X hr ((nI pos), y, wx, (pcs bn), cc_) dX10_meets_162 ?_ rfl
                        rw [spMeets, if_pos htwo, ca, cb]
                        refine fst_in hf (by omega) ?_
                        first | exact me_eq (hco j (by omega)) hCb (by assumption) | exact me_t (hco j (by omega)) hCb (by assumption) (hbw (by omega)) (by assumption) | exact me_f (hco j (by omega)) hCb (by assumption) (hbw (by omega)) (by assumption)
                    · have c_18 := Int32.not_le.mp c_18
                      refine J_iconst (pc := 151) X 1 dX10_meets_151 (by decide) ?_
                      refine J_goto (pc := 152) X 156 dX10_meets_152 (by decide) ?_
                      refine J_iload_n (pc := 156) X 0 dX10_meets_156 rfl ?_
                      refine J_icmp_eq (pc := 157) X 163 dX10_meets_157 (by decide) (fun c_23 => ?_) (fun c_23 => ?_)
                      · skip
                        refine J_aload_n (pc := 163) X 2 dX10_meets_163 rfl ?_
                        refine J_aload_n (pc := 164) X 2 dX10_meets_164 rfl ?_
                        refine J_get (pc := 165) X clX10 0 13 rfl (by decide) g902 rfl dX10_meets_165 ?_
                        refine J_iconst (pc := 168) X 0 dX10_meets_168 (by decide) ?_
                        refine J_iald (pc := 169) X 3 0 0 rfl rfl rfl (by decide) (by decide) dX10_meets_169 ?_
                        refine J_iload (pc := 170) X 5 dX10_meets_170 rfl ?_
                        refine J_iadd (pc := 172) X dX10_meets_172 ?_
                        refine J_aload_n (pc := 173) X 2 dX10_meets_173 rfl ?_
                        refine J_get (pc := 174) X clX10 0 13 rfl (by decide) g902 rfl dX10_meets_174 ?_
                        refine J_iconst (pc := 177) X 1 dX10_meets_177 (by decide) ?_
                        refine J_iald (pc := 178) X 3 0 1 rfl rfl rfl (by decide) (by decide) dX10_meets_178 ?_
                        refine J_callV (pc := 179) (As := [.int ((nw 0) + (nI j)), .int (nw 1)]) (rest := []) X mtX10_walks g1135 [0, 1, 2] [3, 4, 5] [3, 4, 5, 0, 1, 2] 0 (fun u => [(q, .inr (10, [.ref qtx, .int (nI ln), .int fa, .ref qlw, .ref qgp, .ref qhm, .ref qpcs, .ref qdl, .ref qdg, .ref qdh, .ref qdp, .int dr, .int tl, .ref qnw, .ref qps, .int (nI dn), .ref qim, .ref qisd, .ref qkp, .int sd, .ref qfd, .int (nI fn), .ref qbk, .int (nI en), .int (nI at_), .int (nI wr), .int (nI u.1), .int u.2.1, .int u.2.2, .int (pcs bn), .ref qal, .ref qco])), (qlw, .inl (cI, 5, .inl lw)), (qgp, .inl (cI, 8, .inl gp)), (qnw, .inl (cI, 14, .inl nw)), (qpcs, .inl (cI, 4, .inl pcs)), (qco, .inl (cI, 301, .inl cc_))]) (kX10_walks l G cI cC cZ q qtx qlw qgp qhm qpcs qdl qdg qdh qdp qnw qps qim qisd qkp qfd qbk qal qco ln fa dr dn sd fn en at_ wr tl lw gp P gr wd g wk pos y wx (pcs bn) ((nw 0) + (nI j)) (nw 1) (by first | assumption | omega) (by first | assumption | omega) (by first | assumption | omega) (by first | assumption | omega) (by first | assumption | omega) (by first | assumption | omega) (by first | assumption | omega) (by first | assumption | omega) (by first | assumption | omega) (by first | assumption | omega) hpk) ⟨Nat.le_of_ble_eq_true rfl, Nat.le_of_ble_eq_true rfl⟩ rfl rfl rfl (by decide) (wr := [(qnw, .inl (cI, 14, .inl nw)), (qpcs, .inl (cI, 4, .inl pcs)), (qco, .inl (cI, 301, .inl cc_))]) rfl (by decide) (by decide) (fun _ => rfl) (by decide) rfl rfl rfl rfl rfl (Nat.le_of_ble_eq_true rfl) (Nat.zero_le _) (Nat.zero_le _) dX10_meets_179 (fun u_25 w_26 => ?_)
                        obtain ⟨pos2_u_25, y2_u_25, w2_u_25⟩ := u_25
                        try dsimp only at w_26
                        have hstp := w_26; have hpk9 := stP_ok2 hg hpk w_26
                        refine J_iinc (pc := 182) X (nI (j + 1)) 5 [(4, .int (nI (j + 1))), (3, .int bw), (5, .int (whP (fun k9 => yG P (gp k9) gr ((nw 0) + (nI j))) pos y wx)), (0, .ref q), (1, .int (nI an)), (2, .int (nI bn))] dX10_meets_182 rfl (n_add (x := j) (y := 1) rfl rfl (by omega)) (by decide) rfl ?_
                        refine J_goto (pc := 185) X 78 dX10_meets_185 (by decide) ?_
                        refine J_loc [3, 4, 5, 1, 0] (lv2 := [(0, .ref q), (1, .int (nI an)), (2, .int (nI bn)), (3, .int bw), (4, .int (nI (j + 1)))]) rfl ?_
                        exact ih_78  (j + 1) pos2_u_25 y2_u_25 w2_u_25 bw (by first | assumption | omega | simp_all) hpk9 (by rw [onW, ← hst]; exact hstp) (fun _ => by first | exact hbw (by omega) | exact b0_t (hco 0 (by omega)) hCb (by assumption) | exact b0_f (hco 0 (by omega)) hCb (by assumption)) (fst_on hf (by omega) (by first | exact mx_t (hco j (by omega)) hCb (by assumption) (by assumption) (hbw (by omega)) (by assumption) | exact mx_f (hco j (by omega)) hCb (by assumption) (by assumption) (hbw (by omega)) (by assumption))) (by omega)
                      · skip
                        refine J_iload (pc := 160) X 5 dX10_meets_160 rfl ?_
                        refine J_iret (pc := 162) X hr ((nI pos), y, wx, (pcs bn), cc_) dX10_meets_162 ?_ rfl
                        rw [spMeets, if_pos htwo, ca, cb]
                        refine fst_in hf (by omega) ?_
                        first | exact me_eq (hco j (by omega)) hCb (by assumption) | exact me_t (hco j (by omega)) hCb (by assumption) (hbw (by omega)) (by assumption) | exact me_f (hco j (by omega)) hCb (by assumption) (hbw (by omega)) (by assumption)
                · have c_16 : j = 0 := n_eq_of (a := j) (b := 0) (by omega) (by omega) c_16
                  subst c_16
                  refine J_aload_n (pc := 106) X 1 dX10_meets_106 rfl ?_
                  refine J_get (pc := 107) X clX10 0 31 rfl (by decide) g920 rfl dX10_meets_107 ?_
                  refine J_iconst (pc := 110) X 0 dX10_meets_110 (by decide) ?_
                  refine J_iald (pc := 111) X 5 0 0 rfl rfl rfl (by decide) (by decide) dX10_meets_111 ?_
                  refine J_iload (pc := 112) X 0 dX10_meets_112 rfl ?_
                  refine J_icmp_ge (pc := 114) X 121 dX10_meets_114 (by decide) (fun c_27 => ?_) (fun c_27 => ?_)
                  · have c_27 := Int32.not_lt.mpr c_27
                    refine J_iconst (pc := 121) X 0 dX10_meets_121 (by decide) ?_
                    refine J_goto (pc := 122) X 126 dX10_meets_122 (by decide) ?_
                    refine J_istore_n (pc := 126) X [(3, .int 0), (5, .int (whP (fun k9 => yG P (gp k9) gr ((nw 0) + (nI 0))) pos y wx)), (0, .ref q), (1, .int (nI an)), (2, .int (nI bn)), (4, .int 0)] dX10_meets_126 (by decide) rfl ?_
                    refine J_aload_n (pc := 127) X 2 dX10_meets_127 rfl ?_
                    refine J_get (pc := 128) X clX10 0 31 rfl (by decide) g920 rfl dX10_meets_128 ?_
                    refine J_iload (pc := 131) X 5 dX10_meets_131 rfl ?_
                    refine J_iald (pc := 133) X 5 0 0 rfl rfl rfl (by decide) (by decide) dX10_meets_133 ?_
                    refine J_iload (pc := 134) X 1 dX10_meets_134 rfl ?_
                    refine J_icmp_eq (pc := 136) X 160 dX10_meets_136 (by decide) (fun c_28 => ?_) (fun c_28 => ?_)
                    · skip
                      refine J_iload (pc := 160) X 5 dX10_meets_160 rfl ?_
                      refine J_iret (pc := 162) X hr ((nI pos), y, wx, (pcs bn), cc_) dX10_meets_162 ?_ rfl
                      rw [spMeets, if_pos htwo, ca, cb]
                      refine fst_in hf (by omega) ?_
                      first | exact me_eq (hco 0 (by omega)) hCb (by assumption) | exact me_t (hco 0 (by omega)) hCb (by assumption) (hbw (by omega)) (by assumption) | exact me_f (hco 0 (by omega)) hCb (by assumption) (hbw (by omega)) (by assumption)
                    · skip
                      refine J_aload_n (pc := 139) X 2 dX10_meets_139 rfl ?_
                      refine J_get (pc := 140) X clX10 0 31 rfl (by decide) g920 rfl dX10_meets_140 ?_
                      refine J_iload (pc := 143) X 5 dX10_meets_143 rfl ?_
                      refine J_iald (pc := 145) X 5 0 0 rfl rfl rfl (by decide) (by decide) dX10_meets_145 ?_
                      refine J_iload (pc := 146) X 1 dX10_meets_146 rfl ?_
                      refine J_icmp_ge (pc := 148) X 155 dX10_meets_148 (by decide) (fun c_29 => ?_) (fun c_29 => ?_)
                      · have c_29 := Int32.not_lt.mpr c_29
                        refine J_iconst (pc := 155) X 0 dX10_meets_155 (by decide) ?_
                        refine J_iload_n (pc := 156) X 0 dX10_meets_156 rfl ?_
                        refine J_icmp_eq (pc := 157) X 163 dX10_meets_157 (by decide) (fun c_30 => ?_) (fun c_30 => ?_)
                        · have c_30 : 0 = 0 := n_eq_of (a := 0) (b := 0) (by omega) (by omega) c_30
                          refine J_aload_n (pc := 163) X 2 dX10_meets_163 rfl ?_
                          refine J_aload_n (pc := 164) X 2 dX10_meets_164 rfl ?_
                          refine J_get (pc := 165) X clX10 0 13 rfl (by decide) g902 rfl dX10_meets_165 ?_
                          refine J_iconst (pc := 168) X 0 dX10_meets_168 (by decide) ?_
                          refine J_iald (pc := 169) X 3 0 0 rfl rfl rfl (by decide) (by decide) dX10_meets_169 ?_
                          refine J_iload (pc := 170) X 5 dX10_meets_170 rfl ?_
                          refine J_iadd (pc := 172) X dX10_meets_172 ?_
                          refine J_aload_n (pc := 173) X 2 dX10_meets_173 rfl ?_
                          refine J_get (pc := 174) X clX10 0 13 rfl (by decide) g902 rfl dX10_meets_174 ?_
                          refine J_iconst (pc := 177) X 1 dX10_meets_177 (by decide) ?_
                          refine J_iald (pc := 178) X 3 0 1 rfl rfl rfl (by decide) (by decide) dX10_meets_178 ?_
                          refine J_callV (pc := 179) (As := [.int ((nw 0) + 0), .int (nw 1)]) (rest := []) X mtX10_walks g1135 [0, 1, 2] [3, 4, 5] [3, 4, 5, 0, 1, 2] 0 (fun u => [(q, .inr (10, [.ref qtx, .int (nI ln), .int fa, .ref qlw, .ref qgp, .ref qhm, .ref qpcs, .ref qdl, .ref qdg, .ref qdh, .ref qdp, .int dr, .int tl, .ref qnw, .ref qps, .int (nI dn), .ref qim, .ref qisd, .ref qkp, .int sd, .ref qfd, .int (nI fn), .ref qbk, .int (nI en), .int (nI at_), .int (nI wr), .int (nI u.1), .int u.2.1, .int u.2.2, .int (pcs bn), .ref qal, .ref qco])), (qlw, .inl (cI, 5, .inl lw)), (qgp, .inl (cI, 8, .inl gp)), (qnw, .inl (cI, 14, .inl nw)), (qpcs, .inl (cI, 4, .inl pcs)), (qco, .inl (cI, 301, .inl cc_))]) (kX10_walks l G cI cC cZ q qtx qlw qgp qhm qpcs qdl qdg qdh qdp qnw qps qim qisd qkp qfd qbk qal qco ln fa dr dn sd fn en at_ wr tl lw gp P gr wd g wk pos y wx (pcs bn) ((nw 0) + 0) (nw 1) (by first | assumption | omega) (by first | assumption | omega) (by first | assumption | omega) (by first | assumption | omega) (by first | assumption | omega) (by first | assumption | omega) (by first | assumption | omega) (by first | assumption | omega) (by first | assumption | omega) (by first | assumption | omega) hpk) ⟨Nat.le_of_ble_eq_true rfl, Nat.le_of_ble_eq_true rfl⟩ rfl rfl rfl (by decide) (wr := [(qnw, .inl (cI, 14, .inl nw)), (qpcs, .inl (cI, 4, .inl pcs)), (qco, .inl (cI, 301, .inl cc_))]) rfl (by decide) (by decide) (fun _ => rfl) (by decide) rfl rfl rfl rfl rfl (Nat.le_of_ble_eq_true rfl) (Nat.zero_le _) (Nat.zero_le _) dX10_meets_179 (fun u_32 w_33 => ?_)
                          obtain ⟨pos2_u_32, y2_u_32, w2_u_32⟩ := u_32
                          try dsimp only at w_33
                          have hstp := w_33; have hpk9 := stP_ok2 hg hpk w_33
                          refine J_iinc (pc := 182) X 1 5 [(4, .int 1), (3, .int 0), (5, .int (whP (fun k9 => yG P (gp k9) gr ((nw 0) + (nI 0))) pos y wx)), (0, .ref q), (1, .int (nI an)), (2, .int (nI bn))] dX10_meets_182 rfl (by decide) (by decide) rfl ?_
                          refine J_goto (pc := 185) X 78 dX10_meets_185 (by decide) ?_
                          refine J_loc [3, 4, 5, 1, 0] (lv2 := [(0, .ref q), (1, .int (nI an)), (2, .int (nI bn)), (3, .int 0), (4, .int 1)]) rfl ?_
                          exact ih_78  1 pos2_u_32 y2_u_32 w2_u_32 0 (by first | assumption | omega | simp_all) hpk9 (by rw [onW, ← hst]; exact hstp) (fun _ => by first | exact hbw (by omega) | exact b0_t (hco 0 (by omega)) hCb (by assumption) | exact b0_f (hco 0 (by omega)) hCb (by assumption)) (fst_on hf (by omega) (by exact mx_0 (hco 0 (by omega)) hCb (by assumption))) (by omega)
                        · have c_30 : ¬ 0 = 0 := n_ne_of (a := 0) (b := 0) (by omega) (by omega) c_30
                          exfalso; omega
                      · have c_29 := Int32.not_le.mp c_29
                        exact absurd c_29 c_27
                  · have c_27 := Int32.not_le.mp c_27
                    refine J_iconst (pc := 117) X 1 dX10_meets_117 (by decide) ?_
                    refine J_goto (pc := 118) X 126 dX10_meets_118 (by decide) ?_
                    refine J_istore_n (pc := 126) X [(3, .int 1), (5, .int (whP (fun k9 => yG P (gp k9) gr ((nw 0) + (nI 0))) pos y wx)), (0, .ref q), (1, .int (nI an)), (2, .int (nI bn)), (4, .int 0)] dX10_meets_126 (by decide) rfl ?_
                    refine J_aload_n (pc := 127) X 2 dX10_meets_127 rfl ?_
                    refine J_get (pc := 128) X clX10 0 31 rfl (by decide) g920 rfl dX10_meets_128 ?_
                    refine J_iload (pc := 131) X 5 dX10_meets_131 rfl ?_
                    refine J_iald (pc := 133) X 5 0 0 rfl rfl rfl (by decide) (by decide) dX10_meets_133 ?_
                    refine J_iload (pc := 134) X 1 dX10_meets_134 rfl ?_
                    refine J_icmp_eq (pc := 136) X 160 dX10_meets_136 (by decide) (fun c_34 => ?_) (fun c_34 => ?_)
                    · skip
                      refine J_iload (pc := 160) X 5 dX10_meets_160 rfl ?_
                      refine J_iret (pc := 162) X hr ((nI pos), y, wx, (pcs bn), cc_) dX10_meets_162 ?_ rfl
                      rw [spMeets, if_pos htwo, ca, cb]
                      refine fst_in hf (by omega) ?_
                      first | exact me_eq (hco 0 (by omega)) hCb (by assumption) | exact me_t (hco 0 (by omega)) hCb (by assumption) (hbw (by omega)) (by assumption) | exact me_f (hco 0 (by omega)) hCb (by assumption) (hbw (by omega)) (by assumption)
                    · skip
                      refine J_aload_n (pc := 139) X 2 dX10_meets_139 rfl ?_
                      refine J_get (pc := 140) X clX10 0 31 rfl (by decide) g920 rfl dX10_meets_140 ?_
                      refine J_iload (pc := 143) X 5 dX10_meets_143 rfl ?_
                      refine J_iald (pc := 145) X 5 0 0 rfl rfl rfl (by decide) (by decide) dX10_meets_145 ?_
                      refine J_iload (pc := 146) X 1 dX10_meets_146 rfl ?_
                      refine J_icmp_ge (pc := 148) X 155 dX10_meets_148 (by decide) (fun c_35 => ?_) (fun c_35 => ?_)
                      · have c_35 := Int32.not_lt.mpr c_35
                        exact absurd c_27 c_35
                      · have c_35 := Int32.not_le.mp c_35
                        refine J_iconst (pc := 151) X 1 dX10_meets_151 (by decide) ?_
                        refine J_goto (pc := 152) X 156 dX10_meets_152 (by decide) ?_
                        refine J_iload_n (pc := 156) X 0 dX10_meets_156 rfl ?_
                        refine J_icmp_eq (pc := 157) X 163 dX10_meets_157 (by decide) (fun c_36 => ?_) (fun c_36 => ?_)
                        · have c_36 : 1 = 1 := n_eq_of (a := 1) (b := 1) (by omega) (by omega) c_36
                          refine J_aload_n (pc := 163) X 2 dX10_meets_163 rfl ?_
                          refine J_aload_n (pc := 164) X 2 dX10_meets_164 rfl ?_
                          refine J_get (pc := 165) X clX10 0 13 rfl (by decide) g902 rfl dX10_meets_165 ?_
                          refine J_iconst (pc := 168) X 0 dX10_meets_168 (by decide) ?_
                          refine J_iald (pc := 169) X 3 0 0 rfl rfl rfl (by decide) (by decide) dX10_meets_169 ?_
                          refine J_iload (pc := 170) X 5 dX10_meets_170 rfl ?_
                          refine J_iadd (pc := 172) X dX10_meets_172 ?_
                          refine J_aload_n (pc := 173) X 2 dX10_meets_173 rfl ?_
                          refine J_get (pc := 174) X clX10 0 13 rfl (by decide) g902 rfl dX10_meets_174 ?_
                          refine J_iconst (pc := 177) X 1 dX10_meets_177 (by decide) ?_
                          refine J_iald (pc := 178) X 3 0 1 rfl rfl rfl (by decide) (by decide) dX10_meets_178 ?_
                          refine J_callV (pc := 179) (As := [.int ((nw 0) + 0), .int (nw 1)]) (rest := []) X mtX10_walks g1135 [0, 1, 2] [3, 4, 5] [3, 4, 5, 0, 1, 2] 0 (fun u => [(q, .inr (10, [.ref qtx, .int (nI ln), .int fa, .ref qlw, .ref qgp, .ref qhm, .ref qpcs, .ref qdl, .ref qdg, .ref qdh, .ref qdp, .int dr, .int tl, .ref qnw, .ref qps, .int (nI dn), .ref qim, .ref qisd, .ref qkp, .int sd, .ref qfd, .int (nI fn), .ref qbk, .int (nI en), .int (nI at_), .int (nI wr), .int (nI u.1), .int u.2.1, .int u.2.2, .int (pcs bn), .ref qal, .ref qco])), (qlw, .inl (cI, 5, .inl lw)), (qgp, .inl (cI, 8, .inl gp)), (qnw, .inl (cI, 14, .inl nw)), (qpcs, .inl (cI, 4, .inl pcs)), (qco, .inl (cI, 301, .inl cc_))]) (kX10_walks l G cI cC cZ q qtx qlw qgp qhm qpcs qdl qdg qdh qdp qnw qps qim qisd qkp qfd qbk qal qco ln fa dr dn sd fn en at_ wr tl lw gp P gr wd g wk pos y wx (pcs bn) ((nw 0) + 0) (nw 1) (by first | assumption | omega) (by first | assumption | omega) (by first | assumption | omega) (by first | assumption | omega) (by first | assumption | omega) (by first | assumption | omega) (by first | assumption | omega) (by first | assumption | omega) (by first | assumption | omega) (by first | assumption | omega) hpk) ⟨Nat.le_of_ble_eq_true rfl, Nat.le_of_ble_eq_true rfl⟩ rfl rfl rfl (by decide) (wr := [(qnw, .inl (cI, 14, .inl nw)), (qpcs, .inl (cI, 4, .inl pcs)), (qco, .inl (cI, 301, .inl cc_))]) rfl (by decide) (by decide) (fun _ => rfl) (by decide) rfl rfl rfl rfl rfl (Nat.le_of_ble_eq_true rfl) (Nat.zero_le _) (Nat.zero_le _) dX10_meets_179 (fun u_38 w_39 => ?_)
                          obtain ⟨pos2_u_38, y2_u_38, w2_u_38⟩ := u_38
                          try dsimp only at w_39
                          have hstp := w_39; have hpk9 := stP_ok2 hg hpk w_39
                          refine J_iinc (pc := 182) X 1 5 [(4, .int 1), (3, .int 1), (5, .int (whP (fun k9 => yG P (gp k9) gr ((nw 0) + (nI 0))) pos y wx)), (0, .ref q), (1, .int (nI an)), (2, .int (nI bn))] dX10_meets_182 rfl (by decide) (by decide) rfl ?_
                          refine J_goto (pc := 185) X 78 dX10_meets_185 (by decide) ?_
                          refine J_loc [3, 4, 5, 1, 0] (lv2 := [(0, .ref q), (1, .int (nI an)), (2, .int (nI bn)), (3, .int 1), (4, .int 1)]) rfl ?_
                          exact ih_78  1 pos2_u_38 y2_u_38 w2_u_38 1 (by first | assumption | omega | simp_all) hpk9 (by rw [onW, ← hst]; exact hstp) (fun _ => by first | exact hbw (by omega) | exact b0_t (hco 0 (by omega)) hCb (by assumption) | exact b0_f (hco 0 (by omega)) hCb (by assumption)) (fst_on hf (by omega) (by exact mx_0 (hco 0 (by omega)) hCb (by assumption))) (by omega)
                        · have c_36 : ¬ 1 = 1 := n_ne_of (a := 1) (b := 1) (by omega) (by omega) c_36
                          exfalso; omega
          refine J_loc [2, 3, 4, 1, 0] (lv2 := [(0, .ref q), (1, .int (nI an)), (2, .int (nI bn)), (3, .int 0), (4, .int 0)]) rfl ?_
          exact L_78 _  0 ps2 (nw (3 * bn + 3)) (nw (3 * bn + 4)) 0 (by first | assumption | omega | simp_all) hpk2 (by rw [onW, xW, hpf2]) (fun h9 => absurd h9 (by omega)) rfl (Nat.lt_succ_self _)
        · have c_8 : n < 301 := n_nle_of (a := 301) (b := n) (by omega) (by omega) c_8
          refine J_aload_n (pc := 26) X 0 dX10_meets_26 rfl ?_
          refine J_get (pc := 27) X clX10 0 31 rfl (by decide) g920 rfl dX10_meets_27 ?_
          refine J_iload_n (pc := 30) X 3 dX10_meets_30 rfl ?_
          refine J_aload_n (pc := 31) X 0 dX10_meets_31 rfl ?_
          refine J_aload_n (pc := 32) X 0 dX10_meets_32 rfl ?_
          refine J_get (pc := 33) X clX10 0 13 rfl (by decide) g902 rfl dX10_meets_33 ?_
          refine J_iconst (pc := 36) X 0 dX10_meets_36 (by decide) ?_
          refine J_iald (pc := 37) X 3 0 0 rfl rfl rfl (by decide) (by decide) dX10_meets_37 ?_
          refine J_iload_n (pc := 38) X 3 dX10_meets_38 rfl ?_
          refine J_iadd (pc := 39) X dX10_meets_39 ?_
          refine J_callR (pc := 40) (As := [.int ((nw 0) + (nI n))]) (rest := [.int (nI n), .ref qco]) X mtX10_whereAt g1098 [0, 1, 2] 0 (kX10_whereAt l G cI cC cZ q qtx qlw qgp qhm qpcs qdl qdg qdh qdp qnw qps qim qisd qkp qfd qbk qal qco ln fa dr dn sd fn en at_ wr (pcs an) tl lw gp P gr wd g wk pos y wx ((nw 0) + (nI n)) (by first | assumption | omega) (by first | assumption | omega) (by first | assumption | omega) (by first | assumption | omega) (by first | assumption | omega) (by first | assumption | omega) (by first | assumption | omega) (by first | assumption | omega) (by first | assumption | omega) (by first | assumption | omega) hpk) ⟨Nat.le_of_ble_eq_true rfl, Nat.le_of_ble_eq_true rfl⟩ rfl rfl rfl (by decide) rfl rfl rfl rfl rfl (Nat.le_of_ble_eq_true rfl) (Nat.zero_le _) (Nat.zero_le _) dX10_meets_40 (fun r_40 u_41 w_42 => ?_)
          try dsimp only at w_42
          subst w_42
          refine J_iast (pc := 43) X 5 0 n [(q, .inr (10, [.ref qtx, .int (nI ln), .int fa, .ref qlw, .ref qgp, .ref qhm, .ref qpcs, .ref qdl, .ref qdg, .ref qdh, .ref qdp, .int dr, .int tl, .ref qnw, .ref qps, .int (nI dn), .ref qim, .ref qisd, .ref qkp, .int sd, .ref qfd, .int (nI fn), .ref qbk, .int (nI en), .int (nI at_), .int (nI wr), .int (nI pos), .int y, .int wx, .int (pcs an), .ref qal, .ref qco])), (qlw, .inl (cI, 5, .inl lw)), (qgp, .inl (cI, 8, .inl gp)), (qnw, .inl (cI, 14, .inl nw)), (qpcs, .inl (cI, 4, .inl pcs)), (qco, .inl (cI, 301, .inl (upd cc_ n (whP (fun k9 => yG P (gp k9) gr ((nw 0) + (nI n))) pos y wx))))] rfl rfl rfl (by omega) (by decide) rfl dX10_meets_43 ?_
          refine J_aload_n (pc := 44) X 0 dX10_meets_44 rfl ?_
          refine J_aload_n (pc := 45) X 0 dX10_meets_45 rfl ?_
          refine J_get (pc := 46) X clX10 0 13 rfl (by decide) g902 rfl dX10_meets_46 ?_
          refine J_iconst (pc := 49) X 0 dX10_meets_49 (by decide) ?_
          refine J_iald (pc := 50) X 3 0 0 rfl rfl rfl (by decide) (by decide) dX10_meets_50 ?_
          refine J_iload_n (pc := 51) X 3 dX10_meets_51 rfl ?_
          refine J_iadd (pc := 52) X dX10_meets_52 ?_
          refine J_aload_n (pc := 53) X 0 dX10_meets_53 rfl ?_
          refine J_get (pc := 54) X clX10 0 13 rfl (by decide) g902 rfl dX10_meets_54 ?_
          refine J_iconst (pc := 57) X 1 dX10_meets_57 (by decide) ?_
          refine J_iald (pc := 58) X 3 0 1 rfl rfl rfl (by decide) (by decide) dX10_meets_58 ?_
          refine J_callV (pc := 59) (As := [.int ((nw 0) + (nI n)), .int (nw 1)]) (rest := []) X mtX10_walks g1135 [0, 1, 2] [3, 4, 5] [3, 4, 5, 0, 1, 2] 0 (fun u => [(q, .inr (10, [.ref qtx, .int (nI ln), .int fa, .ref qlw, .ref qgp, .ref qhm, .ref qpcs, .ref qdl, .ref qdg, .ref qdh, .ref qdp, .int dr, .int tl, .ref qnw, .ref qps, .int (nI dn), .ref qim, .ref qisd, .ref qkp, .int sd, .ref qfd, .int (nI fn), .ref qbk, .int (nI en), .int (nI at_), .int (nI wr), .int (nI u.1), .int u.2.1, .int u.2.2, .int (pcs an), .ref qal, .ref qco])), (qlw, .inl (cI, 5, .inl lw)), (qgp, .inl (cI, 8, .inl gp)), (qnw, .inl (cI, 14, .inl nw)), (qpcs, .inl (cI, 4, .inl pcs)), (qco, .inl (cI, 301, .inl (upd cc_ n (whP (fun k9 => yG P (gp k9) gr ((nw 0) + (nI n))) pos y wx))))]) (kX10_walks l G cI cC cZ q qtx qlw qgp qhm qpcs qdl qdg qdh qdp qnw qps qim qisd qkp qfd qbk qal qco ln fa dr dn sd fn en at_ wr tl lw gp P gr wd g wk pos y wx (pcs an) ((nw 0) + (nI n)) (nw 1) (by first | assumption | omega) (by first | assumption | omega) (by first | assumption | omega) (by first | assumption | omega) (by first | assumption | omega) (by first | assumption | omega) (by first | assumption | omega) (by first | assumption | omega) (by first | assumption | omega) (by first | assumption | omega) hpk) ⟨Nat.le_of_ble_eq_true rfl, Nat.le_of_ble_eq_true rfl⟩ rfl rfl rfl (by decide) (wr := [(qnw, .inl (cI, 14, .inl nw)), (qpcs, .inl (cI, 4, .inl pcs)), (qco, .inl (cI, 301, .inl (upd cc_ n (whP (fun k9 => yG P (gp k9) gr ((nw 0) + (nI n))) pos y wx))))]) rfl (by decide) (by decide) (fun _ => rfl) (by decide) rfl rfl rfl rfl rfl (Nat.le_of_ble_eq_true rfl) (Nat.zero_le _) (Nat.zero_le _) dX10_meets_59 (fun u_44 w_45 => ?_)
          obtain ⟨pos2_u_44, y2_u_44, w2_u_44⟩ := u_44
          try dsimp only at w_45
          have hstp := w_45; have hpk9 := stP_ok2 hg hpk w_45
          refine J_iinc (pc := 62) X (nI (n + 1)) 3 [(3, .int (nI (n + 1))), (0, .ref q), (1, .int (nI an)), (2, .int (nI bn))] dX10_meets_62 rfl (n_add (x := n) (y := 1) rfl rfl (by omega)) (by decide) rfl ?_
          refine J_goto (pc := 65) X 19 dX10_meets_65 (by decide) ?_
          refine J_loc [1, 2, 3, 0] (lv2 := [(0, .ref q), (1, .int (nI an)), (2, .int (nI bn)), (3, .int (nI (n + 1)))]) rfl ?_
          exact ih_19  (n + 1) pos2_u_44 y2_u_44 w2_u_44 (upd cc_ n (whP (fun k9 => yG P (gp k9) gr ((nw 0) + (nI n))) pos y wx)) (by first | assumption | omega | simp_all) hpk9 (by rw [onW, ← hst]; exact hstp) (course_step hco (by show _ = whP _ _ _ _; rw [← hst])) (by omega)
    refine J_loc [1, 2, 3, 0] (lv2 := [(0, .ref q), (1, .int (nI an)), (2, .int (nI bn)), (3, .int 0)]) rfl ?_
    exact L_19 _  0 ps1 (nw (3 * an + 3)) (nw (3 * an + 4)) co (by first | assumption | omega | simp_all) hpk1 (by rw [onW, xW, hpf1]) (fun j9 h9 => absurd h9 (by omega)) (Nat.lt_succ_self _)
  · skip
    refine J_ldc (pc := 9) X g1066 dX10_meets_9 ?_
    refine J_iret (pc := 11) X hr (pl, yd, wy, pce_, co) dX10_meets_11 ?_ rfl
    exact (if_neg (by assumption)).symm
set_option maxRecDepth 100000 in
set_option maxHeartbeats 600000 in
theorem kX10_ropes (l : Launch) (G : va_G) (cI cC cZ : ClassId) (q : Nat) (qtx : Nat) (qlw : Nat) (qgp : Nat) (qhm : Nat) (qpcs : Nat) (qdl : Nat) (qdg : Nat) (qdh : Nat) (qdp : Nat) (qnw : Nat) (qps : Nat) (qim : Nat) (qisd : Nat) (qkp : Nat) (qfd : Nat) (qbk : Nat) (qal : Nat) (qco : Nat) (ln : Nat) (fa : Int32) (dr : Int32) (dn : Nat) (sd : Int32) (fn : Nat) (en : Nat) (at_ : Nat) (wr : Nat) (pl : Int32) (yd : Int32) (wy : Int32) (pce_ : Int32) (tl : Int32) (lw : Nat → Int32) (gp : Nat → Int32) (nw : Nat → Int32) (P : Nat) (gr : Int32) (wd : Nat) (g : Nat) (wk : Nat) (hs : Nat) (a : Int32) (b : Int32) (v : Int32) (n : Int32) (hPl : P ≤ 60) (hg : g ≤ 8) (hwk : wk ≤ 4) (hwd : wd ≤ 50) (hl0 : lw 0 = nI P) (hl1 : lw 1 = gr) (hl2 : lw 2 = nI wd) (hl3 : lw 3 = nI g) (hl4 : lw 4 = nI wk) (hP0 : 0 < g → 0 < P) (hhs : (g = 0 ∧ hs = 0) ∨ (0 < g ∧ hs = g + 1)) : CI l G (tys3 cI cC cZ) yX10_ropes cX10_ropes 8 (some .int) ({ frames := 5, cells := 0, slots := 0, locals := 117 }) [.ref q, .int a, .int b, .int v, .int n] [(q, .inr (10, [.ref qtx, .int (nI ln), .int fa, .ref qlw, .ref qgp, .ref qhm, .ref qpcs, .ref qdl, .ref qdg, .ref qdh, .ref qdp, .int dr, .int tl, .ref qnw, .ref qps, .int (nI dn), .ref qim, .ref qisd, .ref qkp, .int sd, .ref qfd, .int (nI fn), .ref qbk, .int (nI en), .int (nI at_), .int (nI wr), .int pl, .int yd, .int wy, .int pce_, .ref qal, .ref qco])), (qlw, .inl (cI, 5, .inl lw)), (qgp, .inl (cI, 8, .inl gp)), (qnw, .inl (cI, 14, .inl nw))] (S := Int32 × Int32 × Int32 × Int32) (fun (r : Int32) (u : Int32 × Int32 × Int32 × Int32) => r = spRopes g hs (fun k9 t9 => yG P (gp k9) gr t9) (nw 1) (nw 0) a b v n) (fun (u : Int32 × Int32 × Int32 × Int32) => [(q, .inr (10, [.ref qtx, .int (nI ln), .int fa, .ref qlw, .ref qgp, .ref qhm, .ref qpcs, .ref qdl, .ref qdg, .ref qdh, .ref qdp, .int dr, .int tl, .ref qnw, .ref qps, .int (nI dn), .ref qim, .ref qisd, .ref qkp, .int sd, .ref qfd, .int (nI fn), .ref qbk, .int (nI en), .int (nI at_), .int (nI wr), .int u.1, .int u.2.1, .int u.2.2.1, .int u.2.2.2, .ref qal, .ref qco])), (qlw, .inl (cI, 5, .inl lw)), (qgp, .inl (cI, 8, .inl gp)), (qnw, .inl (cI, 14, .inl nw))]) := by
  refine CI.intro (by decide) (Nat.le_of_ble_eq_true rfl) ?_
  intro p0 e0 s0 m0 ar0 be0 me0 c0 A0 X hr
  refine J_aload_n (pc := 0) X 0 dX10_ropes_0 rfl ?_
  refine J_iload_n (pc := 1) X 1 dX10_ropes_1 rfl ?_
  refine J_iload_n (pc := 2) X 2 dX10_ropes_2 rfl ?_
  refine J_callR (pc := 3) (As := [.int a, .int b]) (rest := []) X mtX10_areHouses g1171 [0, 1] 0 (kX10_areHouses l G cI cC cZ q qtx qlw qgp qhm qpcs qdl qdg qdh qdp qnw qps qim qisd qkp qfd qbk qal qco ln fa dr dn sd fn en at_ wr pl yd wy pce_ tl lw P gr wd g wk hs a b (by first | assumption | omega) (by first | assumption | omega) (by first | assumption | omega) (by first | assumption | omega) (by first | assumption | omega) (by first | assumption | omega) (by first | assumption | omega) (by first | assumption | omega) (by first | assumption | omega) (by first | assumption | omega)) ⟨Nat.le_of_ble_eq_true rfl, Nat.le_of_ble_eq_true rfl⟩ rfl rfl rfl (by decide) rfl rfl rfl rfl rfl (Nat.le_of_ble_eq_true rfl) (Nat.zero_le _) (Nat.zero_le _) dX10_ropes_3 (fun r_1 u_2 w_3 => ?_)
  try dsimp only at w_3
  subst w_3
  refine J_bif_ne (pc := 6) X 12 dX10_ropes_6 (by decide) (fun c_4 => ?_) (fun c_4 => ?_)
  · skip
    have htwo := c_4
    obtain ⟨hta, htb, hnab⟩ := c_4
    obtain ⟨an, han, rfl⟩ := inB_ex (by omega) hta
    obtain ⟨bn, hbn, rfl⟩ := inB_ex (by omega) htb
    have hne : ¬ an = bn := fun e9 => hnab (congrArg nI e9)
    have ca := nI_clamp (n := an) (by omega)
    have cb := nI_clamp (n := bn) (by omega)
    refine J_iload_n (pc := 12) X 3 dX10_ropes_12 rfl ?_
    refine J_iconst (pc := 13) X 1 dX10_ropes_13 (by decide) ?_
    refine J_bipush (pc := 14) X 40 dX10_ropes_14 (by decide) ?_
    refine J_callS (pc := 16) (As := [.int v, .int 1, .int 40]) (rest := []) X mtX10_in g990 [] (kX10_in l G cI cC cZ v 1 40 ) ⟨Nat.le_of_ble_eq_true rfl, Nat.le_of_ble_eq_true rfl⟩ rfl rfl rfl (by decide) rfl rfl (Nat.le_of_ble_eq_true rfl) (Nat.zero_le _) (Nat.zero_le _) dX10_ropes_16 (fun r_5 u_6 w_7 => ?_)
    try dsimp only at w_7
    subst w_7
    refine J_bif_eq (pc := 19) X 34 dX10_ropes_19 (by decide) (fun c_8 => ?_) (fun c_8 => ?_)
    · skip
      refine J_ldc (pc := 34) X g993 dX10_ropes_34 ?_
      refine J_iret (pc := 36) X hr (pl, yd, wy, pce_) dX10_ropes_36 ?_ rfl
      rw [spRopes, if_pos htwo, ca, cb]
      first | exact (if_neg (fun z => absurd z.1 (by assumption))).symm | exact (if_neg (fun z => absurd z.2 (by assumption))).symm | exact (if_neg (fun z => absurd z.2.1 (by assumption))).symm | exact (if_neg (fun z => absurd z.2.2 (by assumption))).symm
    · skip
      refine J_iload (pc := 22) X 4 dX10_ropes_22 rfl ?_
      refine J_iconst (pc := 24) X 0 dX10_ropes_24 (by decide) ?_
      refine J_sipush (pc := 25) X 300 dX10_ropes_25 (by decide) ?_
      refine J_callS (pc := 28) (As := [.int n, .int 0, .int 300]) (rest := []) X mtX10_in g990 [] (kX10_in l G cI cC cZ n 0 300 ) ⟨Nat.le_of_ble_eq_true rfl, Nat.le_of_ble_eq_true rfl⟩ rfl rfl rfl (by decide) rfl rfl (Nat.le_of_ble_eq_true rfl) (Nat.zero_le _) (Nat.zero_le _) dX10_ropes_28 (fun r_9 u_10 w_11 => ?_)
      try dsimp only at w_11
      subst w_11
      refine J_bif_ne (pc := 31) X 37 dX10_ropes_31 (by decide) (fun c_12 => ?_) (fun c_12 => ?_)
      · skip
        have hwn9 := c_12
        obtain ⟨nn, hnn1, hnn2, rfl⟩ := wIn_ex 0 300 (by decide) (by decide) c_12
        obtain ⟨pw, hpw⟩ : ∃ pw, pw = 2 ^ g := ⟨_, rfl⟩
        have hpw2 : pw ≤ 256 := by rw [hpw]; exact Nat.pow_le_pow_right (n := 2) (by omega) hg
        refine J_iconst (pc := 37) X (-1) dX10_ropes_37 (by decide) ?_
        refine J_istore (pc := 38) X [(5, .int (-1)), (0, .ref q), (1, .int (nI an)), (2, .int (nI bn)), (3, .int v), (4, .int (nI nn))] dX10_ropes_38 (by decide) rfl ?_
        refine J_iconst (pc := 40) X 0 dX10_ropes_40 (by decide) ?_
        refine J_istore (pc := 41) X [(6, .int 0), (5, .int (-1)), (0, .ref q), (1, .int (nI an)), (2, .int (nI bn)), (3, .int v), (4, .int (nI nn))] dX10_ropes_41 (by decide) rfl ?_
        have L_43 : ∀ (n_43 : Nat) (s_ : Nat) (be : Int32) (plx : Int32) (ydx : Int32) (wyx : Int32) (pcx : Int32) (hs9 : s_ ≤ pw) (hbe : be = ropTo (fun s9 => rT (wT (fun k9 t9 => yG P (gp k9) gr t9) (nw 1 ||| nI s9) v (nw 0) bn nn an 0 0)) (nw 1) s_), (pw - s_) < n_43 → JJ p0 l e0 ({ frames := 5, cells := 0, slots := 0, locals := 117 }) s0 m0 ar0 be0 me0 c0 A0 G 8 0 0 (QI be0 ar0 s0 A0 G (tys3 cI cC cZ) (S := Int32 × Int32 × Int32 × Int32) (fun (r : Int32) (u : Int32 × Int32 × Int32 × Int32) => r = spRopes g hs (fun k9 t9 => yG P (gp k9) gr t9) (nw 1) (nw 0) (nI an) (nI bn) v (nI nn)) (fun (u : Int32 × Int32 × Int32 × Int32) => [(q, .inr (10, [.ref qtx, .int (nI ln), .int fa, .ref qlw, .ref qgp, .ref qhm, .ref qpcs, .ref qdl, .ref qdg, .ref qdh, .ref qdp, .int dr, .int tl, .ref qnw, .ref qps, .int (nI dn), .ref qim, .ref qisd, .ref qkp, .int sd, .ref qfd, .int (nI fn), .ref qbk, .int (nI en), .int (nI at_), .int (nI wr), .int u.1, .int u.2.1, .int u.2.2.1, .int u.2.2.2, .ref qal, .ref qco])), (qlw, .inl (cI, 5, .inl lw)), (qgp, .inl (cI, 8, .inl gp)), (qnw, .inl (cI, 14, .inl nw))])) [(q, .inr (10, [.ref qtx, .int (nI ln), .int fa, .ref qlw, .ref qgp, .ref qhm, .ref qpcs, .ref qdl, .ref qdg, .ref qdh, .ref qdp, .int dr, .int tl, .ref qnw, .ref qps, .int (nI dn), .ref qim, .ref qisd, .ref qkp, .int sd, .ref qfd, .int (nI fn), .ref qbk, .int (nI en), .int (nI at_), .int (nI wr), .int plx, .int ydx, .int wyx, .int pcx, .ref qal, .ref qco])), (qlw, .inl (cI, 5, .inl lw)), (qgp, .inl (cI, 8, .inl gp)), (qnw, .inl (cI, 14, .inl nw))] 43 [(0, .ref q), (1, .int (nI an)), (2, .int (nI bn)), (3, .int v), (4, .int (nI nn)), (5, .int be), (6, .int (nI s_))] [] := by
          intro n_43
          induction n_43 with
          | zero => intro s_ be plx ydx wyx pcx hs9 hbe hm_43; exact absurd hm_43 (Nat.not_lt_zero _)
          | succ n_43 ih_43 =>
            intro s_ be plx ydx wyx pcx hs9 hbe hm_43
            refine J_iload (pc := 43) X 6 dX10_ropes_43 rfl ?_
            refine J_iconst (pc := 45) X 1 dX10_ropes_45 (by decide) ?_
            refine J_aload_n (pc := 46) X 0 dX10_ropes_46 rfl ?_
            refine J_get (pc := 47) X clX10 0 3 rfl (by decide) g892 rfl dX10_ropes_47 ?_
            refine J_iconst (pc := 50) X 3 dX10_ropes_50 (by decide) ?_
            refine J_iald (pc := 51) X 1 0 3 rfl rfl rfl (by decide) (by decide) dX10_ropes_51 ?_
            refine J_top (y := nI g) hl3 ?_
            refine J_ishl (pc := 52) X dX10_ropes_52 ?_
            refine J_top (y := nI pw) (by rw [hpw]; exact pow_sh g hg) ?_
            refine J_icmp_ge (pc := 53) X 142 dX10_ropes_53 (by decide) (fun c_13 => ?_) (fun c_13 => ?_)
            · have c_13 : pw ≤ s_ := n_le_of (a := pw) (b := s_) (by omega) (by omega) c_13
              refine J_iload (pc := 142) X 5 dX10_ropes_142 rfl ?_
              refine J_iret (pc := 144) X hr (plx, ydx, wyx, pcx) dX10_ropes_144 ?_ rfl
              rw [spRopes, if_pos htwo, ca, cb]
              rw [if_pos ⟨by assumption, hwn9⟩, nI_clamp (n := nn) (by omega), ← hpw]
              exact hbe.trans (congrArg (ropTo (fun s9 => rT (wT (fun k9 t9 => yG P (gp k9) gr t9) (nw 1 ||| nI s9) v (nw 0) bn nn an 0 0)) (nw 1)) (by omega))
            · have c_13 : s_ < pw := n_nle_of (a := pw) (b := s_) (by omega) (by omega) c_13
              refine J_iload (pc := 56) X 6 dX10_ropes_56 rfl ?_
              refine J_aload_n (pc := 58) X 0 dX10_ropes_58 rfl ?_
              refine J_get (pc := 59) X clX10 0 13 rfl (by decide) g902 rfl dX10_ropes_59 ?_
              refine J_iconst (pc := 62) X 1 dX10_ropes_62 (by decide) ?_
              refine J_iald (pc := 63) X 3 0 1 rfl rfl rfl (by decide) (by decide) dX10_ropes_63 ?_
              refine J_iand (pc := 64) X dX10_ropes_64 ?_
              refine J_if_ne (pc := 65) X 91 dX10_ropes_65 (by decide) (fun c_14 => ?_) (fun c_14 => ?_)
              · skip
                refine J_iconst (pc := 91) X 0 dX10_ropes_91 (by decide) ?_
                refine J_istore (pc := 92) X [(7, .int 0), (0, .ref q), (1, .int (nI an)), (2, .int (nI bn)), (3, .int v), (4, .int (nI nn)), (5, .int be), (6, .int (nI s_))] dX10_ropes_92 (by decide) rfl ?_
                refine J_iload (pc := 94) X 0 dX10_ropes_94 rfl ?_
                refine J_if_eq (pc := 96) X 132 dX10_ropes_96 (by decide) (fun c_15 => ?_) (fun c_15 => ?_)
                · have c_15 : 0 = 0 := n_eq_of (a := 0) (b := 0) (by omega) (by omega) c_15
                  refine J_iload (pc := 132) X 6 dX10_ropes_132 rfl ?_
                  refine J_istore (pc := 134) X [(5, .int be), (7, .int 0), (0, .ref q), (1, .int (nI an)), (2, .int (nI bn)), (3, .int v), (4, .int (nI nn)), (6, .int (nI s_))] dX10_ropes_134 (by decide) rfl ?_
                  refine J_iinc (pc := 136) X (nI (s_ + 1)) 7 [(6, .int (nI (s_ + 1))), (5, .int be), (7, .int 0), (0, .ref q), (1, .int (nI an)), (2, .int (nI bn)), (3, .int v), (4, .int (nI nn))] dX10_ropes_136 rfl (n_add (x := s_) (y := 1) rfl rfl (by omega)) (by decide) rfl ?_
                  refine J_goto (pc := 139) X 43 dX10_ropes_139 (by decide) ?_
                  refine J_loc [3, 4, 5, 6, 7, 1, 0] (lv2 := [(0, .ref q), (1, .int (nI an)), (2, .int (nI bn)), (3, .int v), (4, .int (nI nn)), (5, .int be), (6, .int (nI (s_ + 1)))]) rfl ?_
                  exact ih_43  (s_ + 1) be plx ydx wyx pcx (by first | assumption | omega | simp_all) (rop_out (p := (fun s9 => rT (wT (fun k9 t9 => yG P (gp k9) gr t9) (nw 1 ||| nI s9) v (nw 0) bn nn an 0 0))) hbe (fun z9 => absurd z9.1.1 c_14)) (by omega)
                · have c_15 : ¬ 0 = 0 := n_ne_of (a := 0) (b := 0) (by omega) (by omega) c_15
                  exfalso; omega
              · skip
                refine J_iload (pc := 68) X 5 dX10_ropes_68 rfl ?_
                refine J_iconst (pc := 70) X (-1) dX10_ropes_70 (by decide) ?_
                refine J_icmp_eq (pc := 71) X 87 dX10_ropes_71 (by decide) (fun c_16 => ?_) (fun c_16 => ?_)
                · skip
                  refine J_iconst (pc := 87) X 1 dX10_ropes_87 (by decide) ?_
                  refine J_goto (pc := 88) X 92 dX10_ropes_88 (by decide) ?_
                  refine J_istore (pc := 92) X [(7, .int 1), (0, .ref q), (1, .int (nI an)), (2, .int (nI bn)), (3, .int v), (4, .int (nI nn)), (5, .int be), (6, .int (nI s_))] dX10_ropes_92 (by decide) rfl ?_
                  refine J_iload (pc := 94) X 0 dX10_ropes_94 rfl ?_
                  refine J_if_eq (pc := 96) X 132 dX10_ropes_96 (by decide) (fun c_17 => ?_) (fun c_17 => ?_)
                  · have c_17 : 1 = 0 := n_eq_of (a := 1) (b := 0) (by omega) (by omega) c_17
                    exfalso; omega
                  · have c_17 : ¬ 1 = 0 := n_ne_of (a := 1) (b := 0) (by omega) (by omega) c_17
                    refine J_aload_n (pc := 99) X 1 dX10_ropes_99 rfl ?_
                    refine J_iload_n (pc := 100) X 2 dX10_ropes_100 rfl ?_
                    refine J_iload_n (pc := 101) X 3 dX10_ropes_101 rfl ?_
                    refine J_iload_n (pc := 102) X 4 dX10_ropes_102 rfl ?_
                    refine J_aload_n (pc := 103) X 1 dX10_ropes_103 rfl ?_
                    refine J_get (pc := 104) X clX10 0 13 rfl (by decide) g902 rfl dX10_ropes_104 ?_
                    refine J_iconst (pc := 107) X 0 dX10_ropes_107 (by decide) ?_
                    refine J_iald (pc := 108) X 3 0 0 rfl rfl rfl (by decide) (by decide) dX10_ropes_108 ?_
                    refine J_aload_n (pc := 109) X 1 dX10_ropes_109 rfl ?_
                    refine J_get (pc := 110) X clX10 0 13 rfl (by decide) g902 rfl dX10_ropes_110 ?_
                    refine J_iconst (pc := 113) X 1 dX10_ropes_113 (by decide) ?_
                    refine J_iald (pc := 114) X 3 0 1 rfl rfl rfl (by decide) (by decide) dX10_ropes_114 ?_
                    refine J_iload (pc := 115) X 7 dX10_ropes_115 rfl ?_
                    refine J_ior (pc := 117) X dX10_ropes_117 ?_
                    refine J_iload (pc := 118) X 5 dX10_ropes_118 rfl ?_
                    refine J_callI (pc := 120) (As := [.int (nI an), .int (nI bn), .int v, .int (nw 0), .int ((nw 1) ||| (nI s_)), .int (nI nn)]) (rest := []) X mtX10_takesBy g1179 [0, 1, 2] [3] [1, 2, 3, 0] 0 (fun u => [(q, .inr (10, [.ref qtx, .int (nI ln), .int fa, .ref qlw, .ref qgp, .ref qhm, .ref qpcs, .ref qdl, .ref qdg, .ref qdh, .ref qdp, .int dr, .int tl, .ref qnw, .ref qps, .int (nI dn), .ref qim, .ref qisd, .ref qkp, .int sd, .ref qfd, .int (nI fn), .ref qbk, .int (nI en), .int (nI at_), .int (nI wr), .int u.1, .int u.2.1, .int u.2.2.1, .int u.2.2.2, .ref qal, .ref qco])), (qlw, .inl (cI, 5, .inl lw)), (qgp, .inl (cI, 8, .inl gp)), (qnw, .inl (cI, 14, .inl nw))]) (kX10_takesBy l G cI cC cZ q qtx qlw qgp qhm qpcs qdl qdg qdh qdp qnw qps qim qisd qkp qfd qbk qal qco ln fa dr dn sd fn en at_ wr plx ydx wyx pcx tl lw gp P gr wd g wk an bn v (nw 0) ((nw 1) ||| (nI s_)) nn (by first | assumption | omega) (by first | assumption | omega) (by first | assumption | omega) (by first | assumption | omega) (by first | assumption | omega) (by first | assumption | omega) (by first | assumption | omega) (by first | assumption | omega) (by first | assumption | omega) (by first | assumption | omega) (by first | assumption | omega) (by first | assumption | omega) hne (by first | assumption | omega)) ⟨Nat.le_of_ble_eq_true rfl, Nat.le_of_ble_eq_true rfl⟩ rfl rfl rfl (by decide) (wr := [(qnw, .inl (cI, 14, .inl nw))]) rfl (by decide) (by decide) (fun _ => rfl) (by decide) rfl rfl rfl rfl rfl (Nat.le_of_ble_eq_true rfl) (Nat.zero_le _) (Nat.zero_le _) dX10_ropes_120 (fun r_18 u_19 w_20 => ?_)
                    obtain ⟨plx_u_19, ydx_u_19, wyx_u_19, pcx_u_19⟩ := u_19
                    try dsimp only at w_20
                    try dsimp only at w_20
                    subst w_20
                    refine J_iconst (pc := 123) X (-1) dX10_ropes_123 (by decide) ?_
                    refine J_icmp_eq (pc := 124) X 132 dX10_ropes_124 (by decide) (fun c_21 => ?_) (fun c_21 => ?_)
                    · skip
                      refine J_iload (pc := 132) X 6 dX10_ropes_132 rfl ?_
                      refine J_istore (pc := 134) X [(5, .int be), (7, .int 1), (0, .ref q), (1, .int (nI an)), (2, .int (nI bn)), (3, .int v), (4, .int (nI nn)), (6, .int (nI s_))] dX10_ropes_134 (by decide) rfl ?_
                      refine J_iinc (pc := 136) X (nI (s_ + 1)) 7 [(6, .int (nI (s_ + 1))), (5, .int be), (7, .int 1), (0, .ref q), (1, .int (nI an)), (2, .int (nI bn)), (3, .int v), (4, .int (nI nn))] dX10_ropes_136 rfl (n_add (x := s_) (y := 1) rfl rfl (by omega)) (by decide) rfl ?_
                      refine J_goto (pc := 139) X 43 dX10_ropes_139 (by decide) ?_
                      refine J_loc [3, 4, 5, 6, 7, 1, 0] (lv2 := [(0, .ref q), (1, .int (nI an)), (2, .int (nI bn)), (3, .int v), (4, .int (nI nn)), (5, .int be), (6, .int (nI (s_ + 1)))]) rfl ?_
                      exact ih_43  (s_ + 1) be plx_u_19 ydx_u_19 wyx_u_19 pcx_u_19 (by first | assumption | omega | simp_all) (rop_out (p := (fun s9 => rT (wT (fun k9 t9 => yG P (gp k9) gr t9) (nw 1 ||| nI s9) v (nw 0) bn nn an 0 0))) hbe (fun z9 => z9.2 c_21)) (by omega)
                    · skip
                      refine J_iload (pc := 127) X 7 dX10_ropes_127 rfl ?_
                      refine J_goto (pc := 129) X 134 dX10_ropes_129 (by decide) ?_
                      refine J_istore (pc := 134) X [(5, .int (nI s_)), (7, .int 1), (0, .ref q), (1, .int (nI an)), (2, .int (nI bn)), (3, .int v), (4, .int (nI nn)), (6, .int (nI s_))] dX10_ropes_134 (by decide) rfl ?_
                      refine J_iinc (pc := 136) X (nI (s_ + 1)) 7 [(6, .int (nI (s_ + 1))), (5, .int (nI s_)), (7, .int 1), (0, .ref q), (1, .int (nI an)), (2, .int (nI bn)), (3, .int v), (4, .int (nI nn))] dX10_ropes_136 rfl (n_add (x := s_) (y := 1) rfl rfl (by omega)) (by decide) rfl ?_
                      refine J_goto (pc := 139) X 43 dX10_ropes_139 (by decide) ?_
                      refine J_loc [3, 4, 5, 6, 7, 1, 0] (lv2 := [(0, .ref q), (1, .int (nI an)), (2, .int (nI bn)), (3, .int v), (4, .int (nI nn)), (5, .int (nI s_)), (6, .int (nI (s_ + 1)))]) rfl ?_
                      exact ih_43  (s_ + 1) (nI s_) plx_u_19 ydx_u_19 wyx_u_19 pcx_u_19 (by first | assumption | omega | simp_all) (rop_in (p := (fun s9 => rT (wT (fun k9 t9 => yG P (gp k9) gr t9) (nw 1 ||| nI s9) v (nw 0) bn nn an 0 0))) hbe c_14 (Or.inl c_16) c_21) (by omega)
                · skip
                  refine J_iload (pc := 74) X 6 dX10_ropes_74 rfl ?_
                  refine J_callS (pc := 76) (As := [.int (nI s_)]) (rest := []) X mtX10_ones g1203 [] (kX10_ones l G cI cC cZ (nI s_) ) ⟨Nat.le_of_ble_eq_true rfl, Nat.le_of_ble_eq_true rfl⟩ rfl rfl rfl (by decide) rfl rfl (Nat.le_of_ble_eq_true rfl) (Nat.zero_le _) (Nat.zero_le _) dX10_ropes_76 (fun r_22 u_23 w_24 => ?_)
                  try dsimp only at w_24
                  subst w_24
                  refine J_iload (pc := 79) X 5 dX10_ropes_79 rfl ?_
                  refine J_callS (pc := 81) (As := [.int be]) (rest := [.int (onesTo (nI s_) 8)]) X mtX10_ones g1203 [] (kX10_ones l G cI cC cZ be ) ⟨Nat.le_of_ble_eq_true rfl, Nat.le_of_ble_eq_true rfl⟩ rfl rfl rfl (by decide) rfl rfl (Nat.le_of_ble_eq_true rfl) (Nat.zero_le _) (Nat.zero_le _) dX10_ropes_81 (fun r_25 u_26 w_27 => ?_)
                  try dsimp only at w_27
                  subst w_27
                  refine J_icmp_ge (pc := 84) X 91 dX10_ropes_84 (by decide) (fun c_28 => ?_) (fun c_28 => ?_)
                  · have c_28 := Int32.not_lt.mpr c_28
                    refine J_iconst (pc := 91) X 0 dX10_ropes_91 (by decide) ?_
                    refine J_istore (pc := 92) X [(7, .int 0), (0, .ref q), (1, .int (nI an)), (2, .int (nI bn)), (3, .int v), (4, .int (nI nn)), (5, .int be), (6, .int (nI s_))] dX10_ropes_92 (by decide) rfl ?_
                    refine J_iload (pc := 94) X 0 dX10_ropes_94 rfl ?_
                    refine J_if_eq (pc := 96) X 132 dX10_ropes_96 (by decide) (fun c_29 => ?_) (fun c_29 => ?_)
                    · have c_29 : 0 = 0 := n_eq_of (a := 0) (b := 0) (by omega) (by omega) c_29
                      refine J_iload (pc := 132) X 6 dX10_ropes_132 rfl ?_
                      refine J_istore (pc := 134) X [(5, .int be), (7, .int 0), (0, .ref q), (1, .int (nI an)), (2, .int (nI bn)), (3, .int v), (4, .int (nI nn)), (6, .int (nI s_))] dX10_ropes_134 (by decide) rfl ?_
                      refine J_iinc (pc := 136) X (nI (s_ + 1)) 7 [(6, .int (nI (s_ + 1))), (5, .int be), (7, .int 0), (0, .ref q), (1, .int (nI an)), (2, .int (nI bn)), (3, .int v), (4, .int (nI nn))] dX10_ropes_136 rfl (n_add (x := s_) (y := 1) rfl rfl (by omega)) (by decide) rfl ?_
                      refine J_goto (pc := 139) X 43 dX10_ropes_139 (by decide) ?_
                      refine J_loc [3, 4, 5, 6, 7, 1, 0] (lv2 := [(0, .ref q), (1, .int (nI an)), (2, .int (nI bn)), (3, .int v), (4, .int (nI nn)), (5, .int be), (6, .int (nI (s_ + 1)))]) rfl ?_
                      exact ih_43  (s_ + 1) be plx ydx wyx pcx (by first | assumption | omega | simp_all) (rop_out (p := (fun s9 => rT (wT (fun k9 t9 => yG P (gp k9) gr t9) (nw 1 ||| nI s9) v (nw 0) bn nn an 0 0))) hbe (fun z9 => z9.1.2.elim c_16 c_28)) (by omega)
                    · have c_29 : ¬ 0 = 0 := n_ne_of (a := 0) (b := 0) (by omega) (by omega) c_29
                      exfalso; omega
                  · have c_28 := Int32.not_le.mp c_28
                    refine J_iconst (pc := 87) X 1 dX10_ropes_87 (by decide) ?_
                    refine J_goto (pc := 88) X 92 dX10_ropes_88 (by decide) ?_
                    refine J_istore (pc := 92) X [(7, .int 1), (0, .ref q), (1, .int (nI an)), (2, .int (nI bn)), (3, .int v), (4, .int (nI nn)), (5, .int be), (6, .int (nI s_))] dX10_ropes_92 (by decide) rfl ?_
                    refine J_iload (pc := 94) X 0 dX10_ropes_94 rfl ?_
                    refine J_if_eq (pc := 96) X 132 dX10_ropes_96 (by decide) (fun c_30 => ?_) (fun c_30 => ?_)
                    · have c_30 : 1 = 0 := n_eq_of (a := 1) (b := 0) (by omega) (by omega) c_30
                      exfalso; omega
                    · have c_30 : ¬ 1 = 0 := n_ne_of (a := 1) (b := 0) (by omega) (by omega) c_30
                      refine J_aload_n (pc := 99) X 1 dX10_ropes_99 rfl ?_
                      refine J_iload_n (pc := 100) X 2 dX10_ropes_100 rfl ?_
                      refine J_iload_n (pc := 101) X 3 dX10_ropes_101 rfl ?_
                      refine J_iload_n (pc := 102) X 4 dX10_ropes_102 rfl ?_
                      refine J_aload_n (pc := 103) X 1 dX10_ropes_103 rfl ?_
                      refine J_get (pc := 104) X clX10 0 13 rfl (by decide) g902 rfl dX10_ropes_104 ?_
                      refine J_iconst (pc := 107) X 0 dX10_ropes_107 (by decide) ?_
                      refine J_iald (pc := 108) X 3 0 0 rfl rfl rfl (by decide) (by decide) dX10_ropes_108 ?_
                      refine J_aload_n (pc := 109) X 1 dX10_ropes_109 rfl ?_
                      refine J_get (pc := 110) X clX10 0 13 rfl (by decide) g902 rfl dX10_ropes_110 ?_
                      refine J_iconst (pc := 113) X 1 dX10_ropes_113 (by decide) ?_
                      refine J_iald (pc := 114) X 3 0 1 rfl rfl rfl (by decide) (by decide) dX10_ropes_114 ?_
                      refine J_iload (pc := 115) X 7 dX10_ropes_115 rfl ?_
                      refine J_ior (pc := 117) X dX10_ropes_117 ?_
                      refine J_iload (pc := 118) X 5 dX10_ropes_118 rfl ?_
                      refine J_callI (pc := 120) (As := [.int (nI an), .int (nI bn), .int v, .int (nw 0), .int ((nw 1) ||| (nI s_)), .int (nI nn)]) (rest := []) X mtX10_takesBy g1179 [0, 1, 2] [3] [1, 2, 3, 0] 0 (fun u => [(q, .inr (10, [.ref qtx, .int (nI ln), .int fa, .ref qlw, .ref qgp, .ref qhm, .ref qpcs, .ref qdl, .ref qdg, .ref qdh, .ref qdp, .int dr, .int tl, .ref qnw, .ref qps, .int (nI dn), .ref qim, .ref qisd, .ref qkp, .int sd, .ref qfd, .int (nI fn), .ref qbk, .int (nI en), .int (nI at_), .int (nI wr), .int u.1, .int u.2.1, .int u.2.2.1, .int u.2.2.2, .ref qal, .ref qco])), (qlw, .inl (cI, 5, .inl lw)), (qgp, .inl (cI, 8, .inl gp)), (qnw, .inl (cI, 14, .inl nw))]) (kX10_takesBy l G cI cC cZ q qtx qlw qgp qhm qpcs qdl qdg qdh qdp qnw qps qim qisd qkp qfd qbk qal qco ln fa dr dn sd fn en at_ wr plx ydx wyx pcx tl lw gp P gr wd g wk an bn v (nw 0) ((nw 1) ||| (nI s_)) nn (by first | assumption | omega) (by first | assumption | omega) (by first | assumption | omega) (by first | assumption | omega) (by first | assumption | omega) (by first | assumption | omega) (by first | assumption | omega) (by first | assumption | omega) (by first | assumption | omega) (by first | assumption | omega) (by first | assumption | omega) (by first | assumption | omega) hne (by first | assumption | omega)) ⟨Nat.le_of_ble_eq_true rfl, Nat.le_of_ble_eq_true rfl⟩ rfl rfl rfl (by decide) (wr := [(qnw, .inl (cI, 14, .inl nw))]) rfl (by decide) (by decide) (fun _ => rfl) (by decide) rfl rfl rfl rfl rfl (Nat.le_of_ble_eq_true rfl) (Nat.zero_le _) (Nat.zero_le _) dX10_ropes_120 (fun r_31 u_32 w_33 => ?_)
                      obtain ⟨plx_u_32, ydx_u_32, wyx_u_32, pcx_u_32⟩ := u_32
                      try dsimp only at w_33
                      try dsimp only at w_33
                      subst w_33
                      refine J_iconst (pc := 123) X (-1) dX10_ropes_123 (by decide) ?_
                      refine J_icmp_eq (pc := 124) X 132 dX10_ropes_124 (by decide) (fun c_34 => ?_) (fun c_34 => ?_)
                      · skip
                        refine J_iload (pc := 132) X 6 dX10_ropes_132 rfl ?_
                        refine J_istore (pc := 134) X [(5, .int be), (7, .int 1), (0, .ref q), (1, .int (nI an)), (2, .int (nI bn)), (3, .int v), (4, .int (nI nn)), (6, .int (nI s_))] dX10_ropes_134 (by decide) rfl ?_
                        refine J_iinc (pc := 136) X (nI (s_ + 1)) 7 [(6, .int (nI (s_ + 1))), (5, .int be), (7, .int 1), (0, .ref q), (1, .int (nI an)), (2, .int (nI bn)), (3, .int v), (4, .int (nI nn))] dX10_ropes_136 rfl (n_add (x := s_) (y := 1) rfl rfl (by omega)) (by decide) rfl ?_
                        refine J_goto (pc := 139) X 43 dX10_ropes_139 (by decide) ?_
                        refine J_loc [3, 4, 5, 6, 7, 1, 0] (lv2 := [(0, .ref q), (1, .int (nI an)), (2, .int (nI bn)), (3, .int v), (4, .int (nI nn)), (5, .int be), (6, .int (nI (s_ + 1)))]) rfl ?_
                        exact ih_43  (s_ + 1) be plx_u_32 ydx_u_32 wyx_u_32 pcx_u_32 (by first | assumption | omega | simp_all) (rop_out (p := (fun s9 => rT (wT (fun k9 t9 => yG P (gp k9) gr t9) (nw 1 ||| nI s9) v (nw 0) bn nn an 0 0))) hbe (fun z9 => z9.2 c_34)) (by omega)
                      · skip
                        refine J_iload (pc := 127) X 7 dX10_ropes_127 rfl ?_
                        refine J_goto (pc := 129) X 134 dX10_ropes_129 (by decide) ?_
                        refine J_istore (pc := 134) X [(5, .int (nI s_)), (7, .int 1), (0, .ref q), (1, .int (nI an)), (2, .int (nI bn)), (3, .int v), (4, .int (nI nn)), (6, .int (nI s_))] dX10_ropes_134 (by decide) rfl ?_
                        refine J_iinc (pc := 136) X (nI (s_ + 1)) 7 [(6, .int (nI (s_ + 1))), (5, .int (nI s_)), (7, .int 1), (0, .ref q), (1, .int (nI an)), (2, .int (nI bn)), (3, .int v), (4, .int (nI nn))] dX10_ropes_136 rfl (n_add (x := s_) (y := 1) rfl rfl (by omega)) (by decide) rfl ?_
                        refine J_goto (pc := 139) X 43 dX10_ropes_139 (by decide) ?_
                        refine J_loc [3, 4, 5, 6, 7, 1, 0] (lv2 := [(0, .ref q), (1, .int (nI an)), (2, .int (nI bn)), (3, .int v), (4, .int (nI nn)), (5, .int (nI s_)), (6, .int (nI (s_ + 1)))]) rfl ?_
                        exact ih_43  (s_ + 1) (nI s_) plx_u_32 ydx_u_32 wyx_u_32 pcx_u_32 (by first | assumption | omega | simp_all) (rop_in (p := (fun s9 => rT (wT (fun k9 t9 => yG P (gp k9) gr t9) (nw 1 ||| nI s9) v (nw 0) bn nn an 0 0))) hbe c_14 (Or.inr c_28) c_34) (by omega)
        refine J_loc [2, 3, 4, 5, 6, 1, 0] (lv2 := [(0, .ref q), (1, .int (nI an)), (2, .int (nI bn)), (3, .int v), (4, .int (nI nn)), (5, .int (-1)), (6, .int 0)]) rfl ?_
        exact L_43 _  0 (-1) pl yd wy pce_ (by first | assumption | omega | simp_all) rfl (Nat.lt_succ_self _)
      · skip
        refine J_ldc (pc := 34) X g993 dX10_ropes_34 ?_
        refine J_iret (pc := 36) X hr (pl, yd, wy, pce_) dX10_ropes_36 ?_ rfl
        rw [spRopes, if_pos htwo, ca, cb]
        first | exact (if_neg (fun z => absurd z.1 (by assumption))).symm | exact (if_neg (fun z => absurd z.2 (by assumption))).symm | exact (if_neg (fun z => absurd z.2.1 (by assumption))).symm | exact (if_neg (fun z => absurd z.2.2 (by assumption))).symm
  · skip
    refine J_ldc (pc := 9) X g1066 dX10_ropes_9 ?_
    refine J_iret (pc := 11) X hr (pl, yd, wy, pce_) dX10_ropes_11 ?_ rfl
    exact (if_neg (by assumption)).symm
