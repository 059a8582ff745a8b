set_option maxRecDepth 100000 in
set_option maxHeartbeats 600000 in
theorem kX10_comes (l : Launch) (G : va_G) (cI cC cZ : ClassId) (q : Nat) (qtx : Nat) (qlw : Nat) (qgp : Nat) (qhm : Nat) (qpcs : Nat) (qdl : Nat) (qdg : Nat) (qdh : Nat) (qdp : Nat) (qnw : Nat) (qps : Nat) (qim : Nat) (qisd : Nat) (qkp : Nat) (qfd : Nat) (qbk : Nat) (qal : Nat) (qco : Nat) (ln : Nat) (fa : Int32) (dr : Int32) (dn : Nat) (sd : Int32) (fn : Nat) (en : Nat) (at_ : Nat) (wr : Nat) (pl : Int32) (yd : Int32) (wy : Int32) (pce_ : Int32) (tl : Int32) (lw : Nat → Int32) (gp : Nat → Int32) (nw : Nat → Int32) (pcs : Nat → Int32) (P : Nat) (gr : Int32) (wd : Nat) (g : Nat) (wk : Nat) (hs : Nat) (w : Int32) (h : Int32) (hPl : P ≤ 60) (hg : g ≤ 8) (hwk : wk ≤ 4) (hwd : wd ≤ 50) (hl0 : lw 0 = nI P) (hl1 : lw 1 = gr) (hl2 : lw 2 = nI wd) (hl3 : lw 3 = nI g) (hl4 : lw 4 = nI wk) (hP0 : 0 < g → 0 < P) (hhs : (g = 0 ∧ hs = 0) ∨ (0 < g ∧ hs = g + 1)) (hok : okS g wk nw) : CI l G (tys3 cI cC cZ) yX10_comes cX10_comes 4 (some .int) ({ frames := 4, cells := 0, slots := 0, locals := 90 }) [.ref q, .int w, .int h] [(q, .inr (10, [.ref qtx, .int (nI ln), .int fa, .ref qlw, .ref qgp, .ref qhm, .ref qpcs, .ref qdl, .ref qdg, .ref qdh, .ref qdp, .int dr, .int tl, .ref qnw, .ref qps, .int (nI dn), .ref qim, .ref qisd, .ref qkp, .int sd, .ref qfd, .int (nI fn), .ref qbk, .int (nI en), .int (nI at_), .int (nI wr), .int pl, .int yd, .int wy, .int pce_, .ref qal, .ref qco])), (qlw, .inl (cI, 5, .inl lw)), (qgp, .inl (cI, 8, .inl gp)), (qnw, .inl (cI, 14, .inl nw)), (qpcs, .inl (cI, 4, .inl pcs))] (S := Int32 × Int32 × Int32 × Int32) (fun (r : Int32) (u : Int32 × Int32 × Int32 × Int32) => r = spComes g wk hs (fun k9 t9 => yG P (gp k9) gr t9) pcs nw w h) (fun (u : Int32 × Int32 × Int32 × Int32) => [(q, .inr (10, [.ref qtx, .int (nI ln), .int fa, .ref qlw, .ref qgp, .ref qhm, .ref qpcs, .ref qdl, .ref qdg, .ref qdh, .ref qdp, .int dr, .int tl, .ref qnw, .ref qps, .int (nI dn), .ref qim, .ref qisd, .ref qkp, .int sd, .ref qfd, .int (nI fn), .ref qbk, .int (nI en), .int (nI at_), .int (nI wr), .int u.1, .int u.2.1, .int u.2.2.1, .int u.2.2.2, .ref qal, .ref qco])), (qlw, .inl (cI, 5, .inl lw)), (qgp, .inl (cI, 8, .inl gp)), (qnw, .inl (cI, 14, .inl nw)), (qpcs, .inl (cI, 4, .inl pcs))]) := by
  refine CI.intro (by decide) (Nat.le_of_ble_eq_true rfl) ?_
  intro p0 e0 s0 m0 ar0 be0 me0 c0 A0 X hr
  refine J_aload_n (pc := 0) X 0 dX10_comes_0 rfl ?_
  refine J_iload_n (pc := 1) X 1 dX10_comes_1 rfl ?_
  refine J_callR (pc := 2) (As := [.int w]) (rest := []) X mtX10_isWalker g1086 [0, 1] 0 (kX10_isWalker l G cI cC cZ q qtx qlw qgp qhm qpcs qdl qdg qdh qdp qnw qps qim qisd qkp qfd qbk qal qco ln fa dr dn sd fn en at_ wr pl yd wy pce_ tl lw P gr wd g wk w (by first | assumption | omega) (by first | assumption | omega) (by first | assumption | omega) (by first | assumption | omega) (by first | assumption | omega) (by first | assumption | omega) (by first | assumption | omega) (by first | assumption | omega) (by first | assumption | omega)) ⟨Nat.le_of_ble_eq_true rfl, Nat.le_of_ble_eq_true rfl⟩ rfl rfl rfl (by decide) rfl rfl rfl rfl rfl (Nat.le_of_ble_eq_true rfl) (Nat.zero_le _) (Nat.zero_le _) dX10_comes_2 (fun r_1 u_2 w_3 => ?_)
  try dsimp only at w_3
  subst w_3
  refine J_bif_eq (pc := 5) X 16 dX10_comes_5 (by decide) (fun c_4 => ?_) (fun c_4 => ?_)
  · skip
    refine J_ldc (pc := 16) X g1066 dX10_comes_16 ?_
    refine J_iret (pc := 18) X hr (pl, yd, wy, pce_) dX10_comes_18 ?_ rfl
    exact (if_neg (fun z => absurd z.1 (by assumption))).symm
  · skip
    obtain ⟨wn, hwn, rfl⟩ := inB_ex (by omega) c_4
    refine J_aload_n (pc := 8) X 0 dX10_comes_8 rfl ?_
    refine J_iload_n (pc := 9) X 2 dX10_comes_9 rfl ?_
    refine J_callR (pc := 10) (As := [.int h]) (rest := []) X mtX10_isHouse g1175 [0, 1] 0 (kX10_isHouse l G cI cC cZ q qtx qlw qgp qhm qpcs qdl qdg qdh qdp qnw qps qim qisd qkp qfd qbk qal qco ln fa dr dn sd fn en at_ wr pl yd wy pce_ tl lw P gr wd g wk h hs (by first | assumption | omega) (by first | assumption | omega) (by first | assumption | omega) (by first | assumption | omega) (by first | assumption | omega) (by first | assumption | omega) (by first | assumption | omega) (by first | assumption | omega) (by first | assumption | omega) (by first | assumption | omega)) ⟨Nat.le_of_ble_eq_true rfl, Nat.le_of_ble_eq_true rfl⟩ rfl rfl rfl (by decide) rfl rfl rfl rfl rfl (Nat.le_of_ble_eq_true rfl) (Nat.zero_le _) (Nat.zero_le _) dX10_comes_10 (fun r_5 u_6 w_7 => ?_)
    try dsimp only at w_7
    subst w_7
    refine J_bif_ne (pc := 13) X 19 dX10_comes_13 (by decide) (fun c_8 => ?_) (fun c_8 => ?_)
    · skip
      obtain ⟨hn, hhn, rfl⟩ := inB_ex (by omega) c_8
      obtain ⟨ps0, hpos, hpk0⟩ := hok wn hwn
      have hpl0 := posOk_lt hg hpk0
      have hpf := posF_of hpos hpl0
      refine J_aload_n (pc := 19) X 0 dX10_comes_19 rfl ?_
      refine J_iload_n (pc := 20) X 1 dX10_comes_20 rfl ?_
      refine J_callV (pc := 21) (As := [.int (nI wn)]) (rest := []) X mtX10_tries g1094 [0, 3, 4] [1, 2] [2, 0, 1, 3, 4] 0 (fun u => [(q, .inr (10, [.ref qtx, .int (nI ln), .int fa, .ref qlw, .ref qgp, .ref qhm, .ref qpcs, .ref qdl, .ref qdg, .ref qdh, .ref qdp, .int dr, .int tl, .ref qnw, .ref qps, .int (nI dn), .ref qim, .ref qisd, .ref qkp, .int sd, .ref qfd, .int (nI fn), .ref qbk, .int (nI en), .int (nI at_), .int (nI wr), .int (nI ps0), .int (nw (3 * wn + 3)), .int (nw (3 * wn + 4)), .int (pcs wn), .ref qal, .ref qco])), (qlw, .inl (cI, 5, .inl lw)), (qgp, .inl (cI, 8, .inl gp)), (qnw, .inl (cI, 14, .inl nw)), (qpcs, .inl (cI, 4, .inl pcs))]) (kX10_tries l G cI cC cZ q qtx qlw qgp qhm qpcs qdl qdg qdh qdp qnw qps qim qisd qkp qfd qbk qal qco ln fa dr dn sd fn en at_ wr pl yd wy pce_ tl nw pcs wn ps0 (by first | assumption | omega) hpos) ⟨Nat.le_of_ble_eq_true rfl, Nat.le_of_ble_eq_true rfl⟩ rfl rfl rfl (by decide) (wr := [(qlw, .inl (cI, 5, .inl lw)), (qgp, .inl (cI, 8, .inl gp))]) rfl (by decide) (by decide) (fun _ => rfl) (by decide) rfl rfl rfl rfl rfl (Nat.le_of_ble_eq_true rfl) (Nat.zero_le _) (Nat.zero_le _) dX10_comes_21 (fun u_10 w_11 => ?_)
      try dsimp only at w_11
      refine J_iconst (pc := 24) X 0 dX10_comes_24 (by decide) ?_
      refine J_istore_n (pc := 25) X [(3, .int 0), (0, .ref q), (1, .int (nI wn)), (2, .int (nI hn))] dX10_comes_25 (by decide) rfl ?_
      have L_26 : ∀ (n_26 : Nat) (n : Nat) (pos : Nat) (y : Int32) (wx : Int32) (hn9 : n ≤ 301) (hpk : posOk g pos) (hst : (pos, y, wx) = onW g (fun k9 t9 => yG P (gp k9) gr t9) (nw 1) (pcs wn) (nw 0) (xW nw wn) n) (hf : fstN (coQ g (fun k9 t9 => yG P (gp k9) gr t9) pcs nw wn hn) (301 - n) n = fstN (coQ g (fun k9 t9 => yG P (gp k9) gr t9) pcs nw wn hn) 301 0), (301 - n) < n_26 → JJ p0 l e0 ({ frames := 4, cells := 0, slots := 0, locals := 90 }) s0 m0 ar0 be0 me0 c0 A0 G 4 0 0 (QI be0 ar0 s0 A0 G (tys3 cI cC cZ) (S := Int32 × Int32 × Int32 × Int32) (fun (r : Int32) (u : Int32 × Int32 × Int32 × Int32) => r = spComes g wk hs (fun k9 t9 => yG P (gp k9) gr t9) pcs nw (nI wn) (nI hn)) (fun (u : Int32 × Int32 × Int32 × Int32) => [(q, .inr (10, [.ref qtx, .int (nI ln), .int fa, .ref qlw, .ref qgp, .ref qhm, .ref qpcs, .ref qdl, .ref qdg, .ref qdh, .ref qdp, .int dr, .int tl, .ref qnw, .ref qps, .int (nI dn), .ref qim, .ref qisd, .ref qkp, .int sd, .ref qfd, .int (nI fn), .ref qbk, .int (nI en), .int (nI at_), .int (nI wr), .int u.1, .int u.2.1, .int u.2.2.1, .int u.2.2.2, .ref qal, .ref qco])), (qlw, .inl (cI, 5, .inl lw)), (qgp, .inl (cI, 8, .inl gp)), (qnw, .inl (cI, 14, .inl nw)), (qpcs, .inl (cI, 4, .inl pcs))])) [(q, .inr (10, [.ref qtx, .int (nI ln), .int fa, .ref qlw, .ref qgp, .ref qhm, .ref qpcs, .ref qdl, .ref qdg, .ref qdh, .ref qdp, .int dr, .int tl, .ref qnw, .ref qps, .int (nI dn), .ref qim, .ref qisd, .ref qkp, .int sd, .ref qfd, .int (nI fn), .ref qbk, .int (nI en), .int (nI at_), .int (nI wr), .int (nI pos), .int y, .int wx, .int (pcs wn), .ref qal, .ref qco])), (qlw, .inl (cI, 5, .inl lw)), (qgp, .inl (cI, 8, .inl gp)), (qnw, .inl (cI, 14, .inl nw)), (qpcs, .inl (cI, 4, .inl pcs))] 26 [(0, .ref q), (1, .int (nI wn)), (2, .int (nI hn)), (3, .int (nI n))] [] := by
        intro n_26
        induction n_26 with
        | zero => intro n pos y wx hn9 hpk hst hf hm_26; exact absurd hm_26 (Nat.not_lt_zero _)
        | succ n_26 ih_26 =>
          intro n pos y wx hn9 hpk hst hf hm_26
          have hpl := posOk_lt hg hpk
          refine J_iload_n (pc := 26) X 3 dX10_comes_26 rfl ?_
          refine J_sipush (pc := 27) X 301 dX10_comes_27 (by decide) ?_
          refine J_icmp_ge (pc := 30) X 67 dX10_comes_30 (by decide) (fun c_12 => ?_) (fun c_12 => ?_)
          · have c_12 : 301 ≤ n := n_le_of (a := 301) (b := n) (by omega) (by omega) c_12
            refine J_iconst (pc := 67) X (-1) dX10_comes_67 (by decide) ?_
            refine J_iret (pc := 68) X hr ((nI pos), y, wx, (pcs wn)) dX10_comes_68 ?_ rfl
            rw [spComes, if_pos ⟨(inB_nI (by omega)).mpr hwn, (inB_nI (by omega)).mpr hhn⟩, nI_clamp (n := wn) (by omega), nI_clamp (n := hn) (by omega)]
            exact fst_out hf (by omega)
          · have c_12 : n < 301 := n_nle_of (a := 301) (b := n) (by omega) (by omega) c_12
            refine J_aload_n (pc := 33) X 0 dX10_comes_33 rfl ?_
            refine J_get (pc := 34) X clX10 0 26 rfl (by decide) g915 rfl dX10_comes_34 ?_
            refine J_iload_n (pc := 37) X 2 dX10_comes_37 rfl ?_
            refine J_icmp_ne (pc := 38) X 43 dX10_comes_38 (by decide) (fun c_13 => ?_) (fun c_13 => ?_)
            · have c_13 : ¬ pos = hn := n_ne_of (a := pos) (b := hn) (by omega) (by omega) c_13
              refine J_aload_n (pc := 43) X 0 dX10_comes_43 rfl ?_
              refine J_aload_n (pc := 44) X 0 dX10_comes_44 rfl ?_
              refine J_get (pc := 45) X clX10 0 13 rfl (by decide) g902 rfl dX10_comes_45 ?_
              refine J_iconst (pc := 48) X 0 dX10_comes_48 (by decide) ?_
              refine J_iald (pc := 49) X 3 0 0 rfl rfl rfl (by decide) (by decide) dX10_comes_49 ?_
              refine J_iload_n (pc := 50) X 3 dX10_comes_50 rfl ?_
              refine J_iadd (pc := 51) X dX10_comes_51 ?_
              refine J_aload_n (pc := 52) X 0 dX10_comes_52 rfl ?_
              refine J_get (pc := 53) X clX10 0 13 rfl (by decide) g902 rfl dX10_comes_53 ?_
              refine J_iconst (pc := 56) X 1 dX10_comes_56 (by decide) ?_
              refine J_iald (pc := 57) X 3 0 1 rfl rfl rfl (by decide) (by decide) dX10_comes_57 ?_
              refine J_callV (pc := 58) (As := [.int ((nw 0) + (nI n)), .int (nw 1)]) (rest := []) X mtX10_walks g1135 [0, 1, 2] [3, 4] [2, 3, 4, 0, 1] 0 (fun u => [(q, .inr (10, [.ref qtx, .int (nI ln), .int fa, .ref qlw, .ref qgp, .ref qhm, .ref qpcs, .ref qdl, .ref qdg, .ref qdh, .ref qdp, .int dr, .int tl, .ref qnw, .ref qps, .int (nI dn), .ref qim, .ref qisd, .ref qkp, .int sd, .ref qfd, .int (nI fn), .ref qbk, .int (nI en), .int (nI at_), .int (nI wr), .int (nI u.1), .int u.2.1, .int u.2.2, .int (pcs wn), .ref qal, .ref qco])), (qlw, .inl (cI, 5, .inl lw)), (qgp, .inl (cI, 8, .inl gp)), (qnw, .inl (cI, 14, .inl nw)), (qpcs, .inl (cI, 4, .inl pcs))]) (kX10_walks l G cI cC cZ q qtx qlw qgp qhm qpcs qdl qdg qdh qdp qnw qps qim qisd qkp qfd qbk qal qco ln fa dr dn sd fn en at_ wr tl lw gp P gr wd g wk pos y wx (pcs wn) ((nw 0) + (nI n)) (nw 1) (by first | assumption | omega) (by first | assumption | omega) (by first | assumption | omega) (by first | assumption | omega) (by first | assumption | omega) (by first | assumption | omega) (by first | assumption | omega) (by first | assumption | omega) (by first | assumption | omega) (by first | assumption | omega) hpk) ⟨Nat.le_of_ble_eq_true rfl, Nat.le_of_ble_eq_true rfl⟩ rfl rfl rfl (by decide) (wr := [(qnw, .inl (cI, 14, .inl nw)), (qpcs, .inl (cI, 4, .inl pcs))]) rfl (by decide) (by decide) (fun _ => rfl) (by decide) rfl rfl rfl rfl rfl (Nat.le_of_ble_eq_true rfl) (Nat.zero_le _) (Nat.zero_le _) dX10_comes_58 (fun u_15 w_16 => ?_)
              obtain ⟨pos2_u_15, y2_u_15, w2_u_15⟩ := u_15
              try dsimp only at w_16
              have hstp := w_16; have hpk2 := stP_ok (f := (fun k9 t9 => yG P (gp k9) gr t9)) (rp := nw 1) (v := pcs wn) (t := nw 0 + nI n) (y := y) (w := wx) hg hpk; rw [← hstp] at hpk2
              refine J_iinc (pc := 61) X (nI (n + 1)) 3 [(3, .int (nI (n + 1))), (0, .ref q), (1, .int (nI wn)), (2, .int (nI hn))] dX10_comes_61 rfl (n_add (x := n) (y := 1) rfl rfl (by omega)) (by decide) rfl ?_
              refine J_goto (pc := 64) X 26 dX10_comes_64 (by decide) ?_
              refine J_loc [1, 2, 3, 0] (lv2 := [(0, .ref q), (1, .int (nI wn)), (2, .int (nI hn)), (3, .int (nI (n + 1)))]) rfl ?_
              exact ih_26  (n + 1) pos2_u_15 y2_u_15 w2_u_15 (by first | assumption | omega | simp_all) hpk2 (by rw [onW, ← hst]; exact hstp) (fst_on hf (by omega) (by show ¬ (onW _ _ _ _ _ _ _).1 = _; rw [← hst]; assumption)) (by omega)
            · have c_13 : pos = hn := n_eq_of (a := pos) (b := hn) (by omega) (by omega) c_13
              refine J_iload_n (pc := 41) X 3 dX10_comes_41 rfl ?_
              refine J_iret (pc := 42) X hr ((nI pos), y, wx, (pcs wn)) dX10_comes_42 ?_ rfl
              rw [spComes, if_pos ⟨(inB_nI (by omega)).mpr hwn, (inB_nI (by omega)).mpr hhn⟩, nI_clamp (n := wn) (by omega), nI_clamp (n := hn) (by omega)]
              exact fst_in hf (by omega) (by show (onW _ _ _ _ _ _ _).1 = _; rw [← hst]; assumption)
      refine J_loc [1, 2, 3, 0] (lv2 := [(0, .ref q), (1, .int (nI wn)), (2, .int (nI hn)), (3, .int 0)]) rfl ?_
      exact L_26 _  0 ps0 (nw (3 * wn + 3)) (nw (3 * wn + 4)) (by first | assumption | omega | simp_all) hpk0 (by rw [onW, xW, hpf]) rfl (Nat.lt_succ_self _)
    · skip
      refine J_ldc (pc := 16) X g1066 dX10_comes_16 ?_
      refine J_iret (pc := 18) X hr (pl, yd, wy, pce_) dX10_comes_18 ?_ rfl
      exact (if_neg (fun z => absurd z.2 (by assumption))).symm
set_option maxRecDepth 100000 in
set_option maxHeartbeats 600000 in
theorem kX10_rent (l : Launch) (G : va_G) (cI cC cZ : ClassId) (q : Nat) (qtx : Nat) (qlw : Nat) (qgp : Nat) (qhm : Nat) (qpcs : Nat) (qdl : Nat) (qdg : Nat) (qdh : Nat) (qdp : Nat) (qnw : Nat) (qps : Nat) (qim : Nat) (qisd : Nat) (qkp : Nat) (qfd : Nat) (qbk : Nat) (qal : Nat) (qco : Nat) (ln : Nat) (fa : Int32) (dr : Int32) (dn : Nat) (sd : Int32) (fn : Nat) (en : Nat) (at_ : Nat) (wr : Nat) (pl : Int32) (yd : Int32) (wy : Int32) (pce_ : Int32) (tl : Int32) (lw : Nat → Int32) (gp : Nat → Int32) (nw : Nat → Int32) (P : Nat) (gr : Int32) (wd : Nat) (g : Nat) (wk : Nat) (n : Int32) (hPl : P ≤ 60) (hg : g ≤ 8) (hwk : wk ≤ 4) (hwd : wd ≤ 50) (hl0 : lw 0 = nI P) (hl1 : lw 1 = gr) (hl2 : lw 2 = nI wd) (hl3 : lw 3 = nI g) (hl4 : lw 4 = nI wk) (hP0 : 0 < g → 0 < P) (hwd0 : 0 < g → 0 < wd) : CI l G (tys3 cI cC cZ) yX10_rent cX10_rent 4 (some .int) ({ frames := 4, cells := 0, slots := 0, locals := 90 }) [.ref q, .int n] [(q, .inr (10, [.ref qtx, .int (nI ln), .int fa, .ref qlw, .ref qgp, .ref qhm, .ref qpcs, .ref qdl, .ref qdg, .ref qdh, .ref qdp, .int dr, .int tl, .ref qnw, .ref qps, .int (nI dn), .ref qim, .ref qisd, .ref qkp, .int sd, .ref qfd, .int (nI fn), .ref qbk, .int (nI en), .int (nI at_), .int (nI wr), .int pl, .int yd, .int wy, .int pce_, .ref qal, .ref qco])), (qlw, .inl (cI, 5, .inl lw)), (qgp, .inl (cI, 8, .inl gp)), (qnw, .inl (cI, 14, .inl nw))] (S := Unit) (fun (r : Int32) (u : Unit) => r = spRent g P wd gp gr (nw 0) n) (fun _ => [(q, .inr (10, [.ref qtx, .int (nI ln), .int fa, .ref qlw, .ref qgp, .ref qhm, .ref qpcs, .ref qdl, .ref qdg, .ref qdh, .ref qdp, .int dr, .int tl, .ref qnw, .ref qps, .int (nI dn), .ref qim, .ref qisd, .ref qkp, .int sd, .ref qfd, .int (nI fn), .ref qbk, .int (nI en), .int (nI at_), .int (nI wr), .int pl, .int yd, .int wy, .int pce_, .ref qal, .ref qco])), (qlw, .inl (cI, 5, .inl lw)), (qgp, .inl (cI, 8, .inl gp)), (qnw, .inl (cI, 14, .inl nw))]) := by
  refine CI.intro (by decide) (Nat.le_of_ble_eq_true rfl) ?_
  intro p0 e0 s0 m0 ar0 be0 me0 c0 A0 X hr
  refine J_iload_n (pc := 0) X 1 dX10_rent_0 rfl ?_
  refine J_iconst (pc := 1) X 0 dX10_rent_1 (by decide) ?_
  refine J_bipush (pc := 2) X 120 dX10_rent_2 (by decide) ?_
  refine J_callS (pc := 4) (As := [.int n, .int 0, .int 120]) (rest := []) X mtX10_in g990 [] (kX10_in l G cI cC cZ n 0 120 ) ⟨Nat.le_of_ble_eq_true rfl, Nat.le_of_ble_eq_true rfl⟩ rfl rfl rfl (by decide) rfl rfl (Nat.le_of_ble_eq_true rfl) (Nat.zero_le _) (Nat.zero_le _) dX10_rent_4 (fun r_1 u_2 w_3 => ?_)
  try dsimp only at w_3
  subst w_3
  refine J_bif_ne (pc := 7) X 13 dX10_rent_7 (by decide) (fun c_4 => ?_) (fun c_4 => ?_)
  · skip
    have hwn9 := c_4
    obtain ⟨nn, hnn1, hnn2, rfl⟩ := wIn_ex 0 120 (by decide) (by decide) c_4
    refine J_aload_n (pc := 13) X 0 dX10_rent_13 rfl ?_
    refine J_callR (pc := 14) (As := []) (rest := []) X mtX10_isStreet g1126 [0, 1] 0 (kX10_isStreet l G cI cC cZ q qtx qlw qgp qhm qpcs qdl qdg qdh qdp qnw qps qim qisd qkp qfd qbk qal qco ln fa dr dn sd fn en at_ wr pl yd wy pce_ tl lw P gr wd g wk (by first | assumption | omega) (by first | assumption | omega) (by first | assumption | omega) (by first | assumption | omega) (by first | assumption | omega) (by first | assumption | omega) (by first | assumption | omega) (by first | assumption | omega) (by first | assumption | omega)) ⟨Nat.le_of_ble_eq_true rfl, Nat.le_of_ble_eq_true rfl⟩ rfl rfl rfl (by decide) rfl rfl rfl rfl rfl (Nat.le_of_ble_eq_true rfl) (Nat.zero_le _) (Nat.zero_le _) dX10_rent_14 (fun r_5 u_6 w_7 => ?_)
    try dsimp only at w_7
    subst w_7
    refine J_bif_ne (pc := 17) X 23 dX10_rent_17 (by decide) (fun c_8 => ?_) (fun c_8 => ?_)
    · skip
      refine J_iconst (pc := 23) X 0 dX10_rent_23 (by decide) ?_
      refine J_istore_n (pc := 24) X [(2, .int 0), (0, .ref q), (1, .int (nI nn))] dX10_rent_24 (by decide) rfl ?_
      refine J_iconst (pc := 25) X 0 dX10_rent_25 (by decide) ?_
      refine J_istore_n (pc := 26) X [(3, .int 0), (2, .int 0), (0, .ref q), (1, .int (nI nn))] dX10_rent_26 (by decide) rfl ?_
      have L_27 : ∀ (n_27 : Nat) (i : Nat) (hi : i ≤ nn), (nn - i) < n_27 → JJ p0 l e0 ({ frames := 4, cells := 0, slots := 0, locals := 90 }) s0 m0 ar0 be0 me0 c0 A0 G 4 0 0 (QI be0 ar0 s0 A0 G (tys3 cI cC cZ) (S := Unit) (fun (r : Int32) (u : Unit) => r = spRent g P wd gp gr (nw 0) (nI nn)) (fun _ => [(q, .inr (10, [.ref qtx, .int (nI ln), .int fa, .ref qlw, .ref qgp, .ref qhm, .ref qpcs, .ref qdl, .ref qdg, .ref qdh, .ref qdp, .int dr, .int tl, .ref qnw, .ref qps, .int (nI dn), .ref qim, .ref qisd, .ref qkp, .int sd, .ref qfd, .int (nI fn), .ref qbk, .int (nI en), .int (nI at_), .int (nI wr), .int pl, .int yd, .int wy, .int pce_, .ref qal, .ref qco])), (qlw, .inl (cI, 5, .inl lw)), (qgp, .inl (cI, 8, .inl gp)), (qnw, .inl (cI, 14, .inl nw))])) [(q, .inr (10, [.ref qtx, .int (nI ln), .int fa, .ref qlw, .ref qgp, .ref qhm, .ref qpcs, .ref qdl, .ref qdg, .ref qdh, .ref qdp, .int dr, .int tl, .ref qnw, .ref qps, .int (nI dn), .ref qim, .ref qisd, .ref qkp, .int sd, .ref qfd, .int (nI fn), .ref qbk, .int (nI en), .int (nI at_), .int (nI wr), .int pl, .int yd, .int wy, .int pce_, .ref qal, .ref qco])), (qlw, .inl (cI, 5, .inl lw)), (qgp, .inl (cI, 8, .inl gp)), (qnw, .inl (cI, 14, .inl nw))] 27 [(0, .ref q), (1, .int (nI nn)), (2, .int (sumI (fun i9 => sumI (fun k9 => nH wd (yG P (gp k9) gr (nw 0 + nI i9))) g) i)), (3, .int (nI i))] [] := by
        intro n_27
        induction n_27 with
        | zero => intro i hi hm_27; exact absurd hm_27 (Nat.not_lt_zero _)
        | succ n_27 ih_27 =>
          intro i hi hm_27
          refine J_iload_n (pc := 27) X 3 dX10_rent_27 rfl ?_
          refine J_iload_n (pc := 28) X 1 dX10_rent_28 rfl ?_
          refine J_icmp_ge (pc := 29) X 53 dX10_rent_29 (by decide) (fun c_9 => ?_) (fun c_9 => ?_)
          · have c_9 : nn ≤ i := n_le_of (a := nn) (b := i) (by omega) (by omega) c_9
            refine J_iload_n (pc := 53) X 2 dX10_rent_53 rfl ?_
            refine J_iret (pc := 54) X hr () dX10_rent_54 ?_ rfl
            rw [spRent, if_pos hwn9]
            rw [if_pos (by assumption), nI_clamp (by omega)]
            exact congrArg (sumI _) (by omega)
          · have c_9 : i < nn := n_nle_of (a := nn) (b := i) (by omega) (by omega) c_9
            refine J_iload_n (pc := 32) X 2 dX10_rent_32 rfl ?_
            refine J_aload_n (pc := 33) X 0 dX10_rent_33 rfl ?_
            refine J_aload_n (pc := 34) X 0 dX10_rent_34 rfl ?_
            refine J_get (pc := 35) X clX10 0 13 rfl (by decide) g902 rfl dX10_rent_35 ?_
            refine J_iconst (pc := 38) X 0 dX10_rent_38 (by decide) ?_
            refine J_iald (pc := 39) X 3 0 0 rfl rfl rfl (by decide) (by decide) dX10_rent_39 ?_
            refine J_iload_n (pc := 40) X 3 dX10_rent_40 rfl ?_
            refine J_iadd (pc := 41) X dX10_rent_41 ?_
            refine J_callR (pc := 42) (As := [.int ((nw 0) + (nI i))]) (rest := [.int (sumI (fun i9 => sumI (fun k9 => nH wd (yG P (gp k9) gr (nw 0 + nI i9))) g) i)]) X mtX10_allNightHouses g1222 [0, 1, 2] 0 (kX10_allNightHouses l G cI cC cZ q qtx qlw qgp qhm qpcs qdl qdg qdh qdp qnw qps qim qisd qkp qfd qbk qal qco ln fa dr dn sd fn en at_ wr pl yd wy pce_ tl lw gp P gr wd g wk ((nw 0) + (nI i)) (by first | assumption | omega) (by first | assumption | omega) (by first | assumption | omega) (by first | assumption | omega) (by first | assumption | omega) (by first | assumption | omega) (by first | assumption | omega) (by first | assumption | omega) (by first | assumption | omega) (by first | assumption | omega) (by first | assumption | omega)) ⟨Nat.le_of_ble_eq_true rfl, Nat.le_of_ble_eq_true rfl⟩ rfl rfl rfl (by decide) rfl rfl rfl rfl rfl (Nat.le_of_ble_eq_true rfl) (Nat.zero_le _) (Nat.zero_le _) dX10_rent_42 (fun r_10 u_11 w_12 => ?_)
            try dsimp only at w_12
            subst w_12
            refine J_iadd (pc := 45) X dX10_rent_45 ?_
            refine J_istore_n (pc := 46) X [(2, .int ((sumI (fun i9 => sumI (fun k9 => nH wd (yG P (gp k9) gr (nw 0 + nI i9))) g) i) + (sumI (fun k9 => nH wd (yG P (gp k9) gr ((nw 0) + (nI i)))) g))), (0, .ref q), (1, .int (nI nn)), (3, .int (nI i))] dX10_rent_46 (by decide) rfl ?_
            refine J_iinc (pc := 47) X (nI (i + 1)) 3 [(3, .int (nI (i + 1))), (2, .int ((sumI (fun i9 => sumI (fun k9 => nH wd (yG P (gp k9) gr (nw 0 + nI i9))) g) i) + (sumI (fun k9 => nH wd (yG P (gp k9) gr ((nw 0) + (nI i)))) g))), (0, .ref q), (1, .int (nI nn))] dX10_rent_47 rfl (n_add (x := i) (y := 1) rfl rfl (by omega)) (by decide) rfl ?_
            refine J_goto (pc := 50) X 27 dX10_rent_50 (by decide) ?_
            refine J_loc [2, 3, 1, 0] (lv2 := [(0, .ref q), (1, .int (nI nn)), (2, .int (sumI (fun i9 => sumI (fun k9 => nH wd (yG P (gp k9) gr (nw 0 + nI i9))) g) (i + 1))), (3, .int (nI (i + 1)))]) rfl ?_
            exact ih_27  (i + 1) (by first | assumption | omega | simp_all) (by omega)
      refine J_loc [2, 3, 1, 0] (lv2 := [(0, .ref q), (1, .int (nI nn)), (2, .int (sumI (fun i9 => sumI (fun k9 => nH wd (yG P (gp k9) gr (nw 0 + nI i9))) g) 0)), (3, .int 0)]) rfl ?_
      exact L_27 _  0 (by first | assumption | omega | simp_all) (Nat.lt_succ_self _)
    · skip
      refine J_ldc (pc := 20) X g1106 dX10_rent_20 ?_
      refine J_iret (pc := 22) X hr () dX10_rent_22 ?_ rfl
      rw [spRent, if_pos hwn9]
      exact (if_neg (by assumption)).symm
  · skip
    refine J_ldc (pc := 10) X g993 dX10_rent_10 ?_
    refine J_iret (pc := 12) X hr () dX10_rent_12 ?_ rfl
    exact (if_neg (by assumption)).symm
set_option maxRecDepth 100000 in
set_option maxHeartbeats 600000 in
theorem kX10_lamp (l : Launch) (G : va_G) (cI cC cZ : ClassId) (q : Nat) (qtx : Nat) (qlw : Nat) (qgp : Nat) (qhm : Nat) (qpcs : Nat) (qdl : Nat) (qdg : Nat) (qdh : Nat) (qdp : Nat) (qnw : Nat) (qps : Nat) (qim : Nat) (qisd : Nat) (qkp : Nat) (qfd : Nat) (qbk : Nat) (qal : Nat) (qco : Nat) (ln : Nat) (fa : Int32) (dr : Int32) (dn : Nat) (sd : Int32) (fn : Nat) (en : Nat) (at_ : Nat) (wr : Nat) (pl : Int32) (yd : Int32) (wy : Int32) (pce_ : Int32) (tl : Int32) (lw : Nat → Int32) (P : Nat) (gr : Int32) (wd : Nat) (g : Nat) (wk : Nat) (n : Int32) (q9 : Int32) (hPl : P ≤ 60) (hg : g ≤ 8) (hwk : wk ≤ 4) (hwd : wd ≤ 50) (hl0 : lw 0 = nI P) (hl1 : lw 1 = gr) (hl2 : lw 2 = nI wd) (hl3 : lw 3 = nI g) (hl4 : lw 4 = nI wk) : CI l G (tys3 cI cC cZ) yX10_lamp cX10_lamp 6 (some .int) ({ frames := 1, cells := 0, slots := 0, locals := 22 }) [.ref q, .int n, .int q9] [(q, .inr (10, [.ref qtx, .int (nI ln), .int fa, .ref qlw, .ref qgp, .ref qhm, .ref qpcs, .ref qdl, .ref qdg, .ref qdh, .ref qdp, .int dr, .int tl, .ref qnw, .ref qps, .int (nI dn), .ref qim, .ref qisd, .ref qkp, .int sd, .ref qfd, .int (nI fn), .ref qbk, .int (nI en), .int (nI at_), .int (nI wr), .int pl, .int yd, .int wy, .int pce_, .ref qal, .ref qco])), (qlw, .inl (cI, 5, .inl lw))] (S := Unit) (fun (r : Int32) (u : Unit) => r = spLamp g n q9) (fun _ => [(q, .inr (10, [.ref qtx, .int (nI ln), .int fa, .ref qlw, .ref qgp, .ref qhm, .ref qpcs, .ref qdl, .ref qdg, .ref qdh, .ref qdp, .int dr, .int tl, .ref qnw, .ref qps, .int (nI dn), .ref qim, .ref qisd, .ref qkp, .int sd, .ref qfd, .int (nI fn), .ref qbk, .int (nI en), .int (nI at_), .int (nI wr), .int pl, .int yd, .int wy, .int pce_, .ref qal, .ref qco])), (qlw, .inl (cI, 5, .inl lw))]) := by
  refine CI.intro (by decide) (Nat.le_of_ble_eq_true rfl) ?_
  intro p0 e0 s0 m0 ar0 be0 me0 c0 A0 X hr
  refine J_iload_n (pc := 0) X 1 dX10_lamp_0 rfl ?_
  refine J_iconst (pc := 1) X 0 dX10_lamp_1 (by decide) ?_
  refine J_bipush (pc := 2) X 60 dX10_lamp_2 (by decide) ?_
  refine J_callS (pc := 4) (As := [.int n, .int 0, .int 60]) (rest := []) X mtX10_in g990 [] (kX10_in l G cI cC cZ n 0 60 ) ⟨Nat.le_of_ble_eq_true rfl, Nat.le_of_ble_eq_true rfl⟩ rfl rfl rfl (by decide) rfl rfl (Nat.le_of_ble_eq_true rfl) (Nat.zero_le _) (Nat.zero_le _) dX10_lamp_4 (fun r_1 u_2 w_3 => ?_)
  try dsimp only at w_3
  subst w_3
  refine J_bif_eq (pc := 7) X 21 dX10_lamp_7 (by decide) (fun c_4 => ?_) (fun c_4 => ?_)
  · skip
    refine J_ldc (pc := 21) X g993 dX10_lamp_21 ?_
    refine J_iret (pc := 23) X hr () dX10_lamp_23 ?_ rfl
    first | exact (if_neg (fun z => absurd z.1 (by assumption))).symm | exact (if_neg (fun z => absurd z.2 (by assumption))).symm
  · skip
    refine J_iload_n (pc := 10) X 2 dX10_lamp_10 rfl ?_
    refine J_iconst (pc := 11) X 0 dX10_lamp_11 (by decide) ?_
    refine J_sipush (pc := 12) X 1000 dX10_lamp_12 (by decide) ?_
    refine J_callS (pc := 15) (As := [.int q9, .int 0, .int 1000]) (rest := []) X mtX10_in g990 [] (kX10_in l G cI cC cZ q9 0 1000 ) ⟨Nat.le_of_ble_eq_true rfl, Nat.le_of_ble_eq_true rfl⟩ rfl rfl rfl (by decide) rfl rfl (Nat.le_of_ble_eq_true rfl) (Nat.zero_le _) (Nat.zero_le _) dX10_lamp_15 (fun r_5 u_6 w_7 => ?_)
    try dsimp only at w_7
    subst w_7
    refine J_bif_ne (pc := 18) X 24 dX10_lamp_18 (by decide) (fun c_8 => ?_) (fun c_8 => ?_)
    · skip
      have hwn9 := c_4
      obtain ⟨nn, hnn1, hnn2, rfl⟩ := wIn_ex 0 60 (by decide) (by decide) c_4
      obtain ⟨pr, hpr⟩ : ∃ pr, pr = nn * g := ⟨_, rfl⟩
      have hpr2 : pr ≤ 480 := by rw [hpr]; exact Nat.mul_le_mul hnn2 hg
      refine J_ldc2 (pc := 24) X g1230 dX10_lamp_24 ?_
      refine J_lstore_n (pc := 27) X [(3, .long 1000000000), (0, .ref q), (1, .int (nI nn)), (2, .int q9)] dX10_lamp_27 (by decide) rfl ?_
      refine J_iconst (pc := 28) X 0 dX10_lamp_28 (by decide) ?_
      refine J_istore (pc := 29) X [(5, .int 0), (3, .long 1000000000), (0, .ref q), (1, .int (nI nn)), (2, .int q9)] dX10_lamp_29 (by decide) rfl ?_
      have L_31 : ∀ (n_31 : Nat) (i : Nat) (hi : i ≤ pr), (pr - i) < n_31 → JJ p0 l e0 ({ frames := 1, cells := 0, slots := 0, locals := 22 }) s0 m0 ar0 be0 me0 c0 A0 G 6 0 0 (QI be0 ar0 s0 A0 G (tys3 cI cC cZ) (S := Unit) (fun (r : Int32) (u : Unit) => r = spLamp g (nI nn) q9) (fun _ => [(q, .inr (10, [.ref qtx, .int (nI ln), .int fa, .ref qlw, .ref qgp, .ref qhm, .ref qpcs, .ref qdl, .ref qdg, .ref qdh, .ref qdp, .int dr, .int tl, .ref qnw, .ref qps, .int (nI dn), .ref qim, .ref qisd, .ref qkp, .int sd, .ref qfd, .int (nI fn), .ref qbk, .int (nI en), .int (nI at_), .int (nI wr), .int pl, .int yd, .int wy, .int pce_, .ref qal, .ref qco])), (qlw, .inl (cI, 5, .inl lw))])) [(q, .inr (10, [.ref qtx, .int (nI ln), .int fa, .ref qlw, .ref qgp, .ref qhm, .ref qpcs, .ref qdl, .ref qdg, .ref qdh, .ref qdp, .int dr, .int tl, .ref qnw, .ref qps, .int (nI dn), .ref qim, .ref qisd, .ref qkp, .int sd, .ref qfd, .int (nI fn), .ref qbk, .int (nI en), .int (nI at_), .int (nI wr), .int pl, .int yd, .int wy, .int pce_, .ref qal, .ref qco])), (qlw, .inl (cI, 5, .inl lw))] 31 [(0, .ref q), (1, .int (nI nn)), (2, .int q9), (3, .long (lampTo q9 i)), (5, .int (nI i))] [] := by
        intro n_31
        induction n_31 with
        | zero => intro i hi hm_31; exact absurd hm_31 (Nat.not_lt_zero _)
        | succ n_31 ih_31 =>
          intro i hi hm_31
          refine J_iload (pc := 31) X 4 dX10_lamp_31 rfl ?_
          refine J_iload_n (pc := 33) X 1 dX10_lamp_33 rfl ?_
          refine J_aload_n (pc := 34) X 0 dX10_lamp_34 rfl ?_
          refine J_get (pc := 35) X clX10 0 3 rfl (by decide) g892 rfl dX10_lamp_35 ?_
          refine J_iconst (pc := 38) X 3 dX10_lamp_38 (by decide) ?_
          refine J_iald (pc := 39) X 1 0 3 rfl rfl rfl (by decide) (by decide) dX10_lamp_39 ?_
          refine J_top (y := nI g) hl3 ?_
          refine J_imul (pc := 40) X dX10_lamp_40 ?_
          refine J_top (y := nI pr) (n_mul (x := nn) (y := g) rfl rfl hpr.symm) ?_
          refine J_icmp_ge (pc := 41) X 63 dX10_lamp_41 (by decide) (fun c_9 => ?_) (fun c_9 => ?_)
          · have c_9 : pr ≤ i := n_le_of (a := pr) (b := i) (by omega) (by omega) c_9
            refine J_lload_n (pc := 63) X 3 dX10_lamp_63 rfl ?_
            refine J_l2i (pc := 64) X dX10_lamp_64 ?_
            refine J_iret (pc := 65) X hr () dX10_lamp_65 ?_ rfl
            rw [spLamp, if_pos ⟨hwn9, by assumption⟩, nI_clamp (by omega), ← hpr, show pr = i from by omega]
          · have c_9 : i < pr := n_nle_of (a := pr) (b := i) (by omega) (by omega) c_9
            refine J_lload_n (pc := 44) X 3 dX10_lamp_44 rfl ?_
            refine J_sipush (pc := 45) X 1000 dX10_lamp_45 (by decide) ?_
            refine J_iload_n (pc := 48) X 2 dX10_lamp_48 rfl ?_
            refine J_isub (pc := 49) X dX10_lamp_49 ?_
            refine J_i2l (pc := 50) X dX10_lamp_50 ?_
            refine J_lmul (pc := 51) X dX10_lamp_51 ?_
            refine J_ldc2 (pc := 52) X g1231 dX10_lamp_52 ?_
            refine J_ldiv (pc := 55) X dX10_lamp_55 (by decide) ?_
            refine J_lstore_n (pc := 56) X [(3, .long (((lampTo q9 i) * ((1000 - q9).toInt64)) / 1000)), (0, .ref q), (1, .int (nI nn)), (2, .int q9), (5, .int (nI i))] dX10_lamp_56 (by decide) rfl ?_
            refine J_iinc (pc := 57) X (nI (i + 1)) 4 [(5, .int (nI (i + 1))), (3, .long (((lampTo q9 i) * ((1000 - q9).toInt64)) / 1000)), (0, .ref q), (1, .int (nI nn)), (2, .int q9)] dX10_lamp_57 rfl (n_add (x := i) (y := 1) rfl rfl (by omega)) (by decide) rfl ?_
            refine J_goto (pc := 60) X 31 dX10_lamp_60 (by decide) ?_
            refine J_loc [2, 3, 4, 1, 0] (lv2 := [(0, .ref q), (1, .int (nI nn)), (2, .int q9), (3, .long (lampTo q9 (i + 1))), (5, .int (nI (i + 1)))]) rfl ?_
            exact ih_31  (i + 1) (by first | assumption | omega | simp_all) (by omega)
      refine J_loc [2, 3, 4, 1, 0] (lv2 := [(0, .ref q), (1, .int (nI nn)), (2, .int q9), (3, .long (lampTo q9 0)), (5, .int 0)]) rfl ?_
      exact L_31 _  0 (by first | assumption | omega | simp_all) (Nat.lt_succ_self _)
    · skip
      refine J_ldc (pc := 21) X g993 dX10_lamp_21 ?_
      refine J_iret (pc := 23) X hr () dX10_lamp_23 ?_ rfl
      first | exact (if_neg (fun z => absurd z.1 (by assumption))).symm | exact (if_neg (fun z => absurd z.2 (by assumption))).symm
