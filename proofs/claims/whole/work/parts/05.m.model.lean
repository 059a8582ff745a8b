set_option maxRecDepth 100000 in
set_option maxHeartbeats 600000 in
theorem kX10_isSoBy (l : Launch) (G : va_G) (cI cC cZ : ClassId) (q : Nat) (qtx : Nat) (qlw : Nat) (qgp : Nat) (qhm : Nat) (qpcs : Nat) (qdl : Nat) (qdg : Nat) (qdh : Nat) (qdp : Nat) (qnw : Nat) (qps : Nat) (qim : Nat) (qisd : Nat) (qkp : Nat) (qfd : Nat) (qbk : Nat) (qal : Nat) (qco : Nat) (ln : Nat) (fa : Int32) (dr : Int32) (dn : Nat) (sd : Int32) (fn : Nat) (en : Nat) (at_ : Nat) (wr : Nat) (pl : Int32) (yd : Int32) (wy : Int32) (pce_ : Int32) (tl : Int32) (lw : Nat → Int32) (gp : Nat → Int32) (fd : Nat → Int32) (P : Nat) (gr : Int32) (wd : Nat) (g : Nat) (wk : Nat) (gw : Int32) (t : Int32) (hPl : P ≤ 60) (hg : g ≤ 8) (hwk : wk ≤ 4) (hwd : wd ≤ 50) (hl0 : lw 0 = nI P) (hl1 : lw 1 = gr) (hl2 : lw 2 = nI wd) (hl3 : lw 3 = nI g) (hl4 : lw 4 = nI wk) (hP0 : 0 < P) (hwd0 : 0 < g → 0 < wd) (hf : fn ≤ 6) (hfd : okFd g fn fd) : CI l G (tys3 cI cC cZ) yX10_isSoBy cX10_isSoBy 5 (some .boolean) ({ frames := 2, cells := 0, slots := 0, locals := 45 }) [.ref q, .int gw, .int t] [(q, .inr (10, [.ref qtx, .int (nI ln), .int fa, .ref qlw, .ref qgp, .ref qhm, .ref qpcs, .ref qdl, .ref qdg, .ref qdh, .ref qdp, .int dr, .int tl, .ref qnw, .ref qps, .int (nI dn), .ref qim, .ref qisd, .ref qkp, .int sd, .ref qfd, .int (nI fn), .ref qbk, .int (nI en), .int (nI at_), .int (nI wr), .int pl, .int yd, .int wy, .int pce_, .ref qal, .ref qco])), (qlw, .inl (cI, 5, .inl lw)), (qgp, .inl (cI, 8, .inl gp)), (qfd, .inl (cI, 12, .inl fd))] (S := Unit) (fun (r : Int32) (u : Unit) => r = bI (fsQ P wd fn gp fd gw t)) (fun _ => [(q, .inr (10, [.ref qtx, .int (nI ln), .int fa, .ref qlw, .ref qgp, .ref qhm, .ref qpcs, .ref qdl, .ref qdg, .ref qdh, .ref qdp, .int dr, .int tl, .ref qnw, .ref qps, .int (nI dn), .ref qim, .ref qisd, .ref qkp, .int sd, .ref qfd, .int (nI fn), .ref qbk, .int (nI en), .int (nI at_), .int (nI wr), .int pl, .int yd, .int wy, .int pce_, .ref qal, .ref qco])), (qlw, .inl (cI, 5, .inl lw)), (qgp, .inl (cI, 8, .inl gp)), (qfd, .inl (cI, 12, .inl fd))]) := by
  refine CI.intro (by decide) (Nat.le_of_ble_eq_true rfl) ?_
  intro p0 e0 s0 m0 ar0 be0 me0 c0 A0 X hr
  refine J_iconst (pc := 0) X 1 dX10_isSoBy_0 (by decide) ?_
  refine J_istore_n (pc := 1) X [(3, .int 1), (0, .ref q), (1, .int gw), (2, .int t)] dX10_isSoBy_1 (by decide) rfl ?_
  refine J_iconst (pc := 2) X 0 dX10_isSoBy_2 (by decide) ?_
  refine J_istore (pc := 3) X [(4, .int 0), (3, .int 1), (0, .ref q), (1, .int gw), (2, .int t)] dX10_isSoBy_3 (by decide) rfl ?_
  have L_5 : ∀ (n_5 : Nat) (i : Nat) (is_ : Int32) (hi : i ≤ fn) (his : is_ = bI (∀ j9, j9 < i → (fun i9 => nH wd (yG P (gp (fd (2 * i9)).toNatClampNeg) gw t) = fd (2 * i9 + 1)) j9)), (fn - i) < n_5 → JJ p0 l e0 ({ frames := 2, cells := 0, slots := 0, locals := 45 }) s0 m0 ar0 be0 me0 c0 A0 G 5 0 0 (QI be0 ar0 s0 A0 G (tys3 cI cC cZ) (S := Unit) (fun (r : Int32) (u : Unit) => r = bI (fsQ P wd fn gp fd gw t)) (fun _ => [(q, .inr (10, [.ref qtx, .int (nI ln), .int fa, .ref qlw, .ref qgp, .ref qhm, .ref qpcs, .ref qdl, .ref qdg, .ref qdh, .ref qdp, .int dr, .int tl, .ref qnw, .ref qps, .int (nI dn), .ref qim, .ref qisd, .ref qkp, .int sd, .ref qfd, .int (nI fn), .ref qbk, .int (nI en), .int (nI at_), .int (nI wr), .int pl, .int yd, .int wy, .int pce_, .ref qal, .ref qco])), (qlw, .inl (cI, 5, .inl lw)), (qgp, .inl (cI, 8, .inl gp)), (qfd, .inl (cI, 12, .inl fd))])) [(q, .inr (10, [.ref qtx, .int (nI ln), .int fa, .ref qlw, .ref qgp, .ref qhm, .ref qpcs, .ref qdl, .ref qdg, .ref qdh, .ref qdp, .int dr, .int tl, .ref qnw, .ref qps, .int (nI dn), .ref qim, .ref qisd, .ref qkp, .int sd, .ref qfd, .int (nI fn), .ref qbk, .int (nI en), .int (nI at_), .int (nI wr), .int pl, .int yd, .int wy, .int pce_, .ref qal, .ref qco])), (qlw, .inl (cI, 5, .inl lw)), (qgp, .inl (cI, 8, .inl gp)), (qfd, .inl (cI, 12, .inl fd))] 5 [(0, .ref q), (1, .int gw), (2, .int t), (3, .int is_), (4, .int (nI i))] [] := by
    intro n_5
    induction n_5 with
    | zero => intro i is_ hi his hm_5; exact absurd hm_5 (Nat.not_lt_zero _)
    | succ n_5 ih_5 =>
      intro i is_ hi his hm_5
      refine J_iload (pc := 5) X 4 dX10_isSoBy_5 rfl ?_
      refine J_aload_n (pc := 7) X 0 dX10_isSoBy_7 rfl ?_
      refine J_get (pc := 8) X clX10 0 21 rfl (by decide) g910 rfl dX10_isSoBy_8 ?_
      refine J_icmp_ge (pc := 11) X 63 dX10_isSoBy_11 (by decide) (fun c_1 => ?_) (fun c_1 => ?_)
      · have c_1 : fn ≤ i := n_le_of (a := fn) (b := i) (by omega) (by omega) c_1
        refine J_iload_n (pc := 63) X 3 dX10_isSoBy_63 rfl ?_
        refine J_zret (pc := 64) X hr () (by rw [his]; exact bI_nar) dX10_isSoBy_64 ?_ rfl
        rw [his, show i = fn from by omega]
      · have c_1 : i < fn := n_nle_of (a := fn) (b := i) (by omega) (by omega) c_1
        refine J_iload_n (pc := 14) X 3 dX10_isSoBy_14 rfl ?_
        refine J_if_eq (pc := 15) X 55 dX10_isSoBy_15 (by decide) (fun c_2 => ?_) (fun c_2 => ?_)
        · skip
          refine J_iconst (pc := 55) X 0 dX10_isSoBy_55 (by decide) ?_
          refine J_istore_n (pc := 56) X [(3, .int 0), (0, .ref q), (1, .int gw), (2, .int t), (4, .int (nI i))] dX10_isSoBy_56 (by decide) rfl ?_
          refine J_iinc (pc := 57) X (nI (i + 1)) 4 [(4, .int (nI (i + 1))), (3, .int 0), (0, .ref q), (1, .int gw), (2, .int t)] dX10_isSoBy_57 rfl (n_add (x := i) (y := 1) rfl rfl (by omega)) (by decide) rfl ?_
          refine J_goto (pc := 60) X 5 dX10_isSoBy_60 (by decide) ?_
          refine J_loc [2, 3, 4, 1, 0] (lv2 := [(0, .ref q), (1, .int gw), (2, .int t), (3, .int 0), (4, .int (nI (i + 1)))]) rfl ?_
          exact ih_5  (i + 1) 0 (by first | assumption | omega | simp_all) (by first | exact all_0 (Q := (fun i9 => nH wd (yG P (gp (fd (2 * i9)).toNatClampNeg) gw t) = fd (2 * i9 + 1))) his (by assumption) | exact all_t (Q := (fun i9 => nH wd (yG P (gp (fd (2 * i9)).toNatClampNeg) gw t) = fd (2 * i9 + 1))) his (by assumption) (by show nH _ (yG _ (gp _) _ _) = _; rw [hfk, nI_clamp (by omega)]; assumption) | exact all_f (Q := (fun i9 => nH wd (yG P (gp (fd (2 * i9)).toNatClampNeg) gw t) = fd (2 * i9 + 1))) (by show ¬ nH _ (yG _ (gp _) _ _) = _; rw [hfk, nI_clamp (by omega)]; assumption)) (by omega)
        · skip
          obtain ⟨kk, hkk, hfk⟩ := hfd i (by omega)
          refine J_aload_n (pc := 18) X 0 dX10_isSoBy_18 rfl ?_
          refine J_aload_n (pc := 19) X 0 dX10_isSoBy_19 rfl ?_
          refine J_aload_n (pc := 20) X 0 dX10_isSoBy_20 rfl ?_
          refine J_get (pc := 21) X clX10 0 20 rfl (by decide) g909 rfl dX10_isSoBy_21 ?_
          refine J_iconst (pc := 24) X 2 dX10_isSoBy_24 (by decide) ?_
          refine J_iload (pc := 25) X 4 dX10_isSoBy_25 rfl ?_
          refine J_imul (pc := 27) X dX10_isSoBy_27 ?_
          refine J_top (y := nI (2 * i)) (n_mul (x := 2) (y := i) rfl rfl (by omega)) ?_
          refine J_iald (pc := 28) X 3 0 (2 * i) rfl rfl rfl (by omega) (by decide) dX10_isSoBy_28 ?_
          refine J_top (y := nI kk) hfk ?_
          refine J_iload_n (pc := 29) X 1 dX10_isSoBy_29 rfl ?_
          refine J_iload_n (pc := 30) X 2 dX10_isSoBy_30 rfl ?_
          refine J_callR (pc := 31) (As := [.int (nI kk), .int gw, .int t]) (rest := [.ref q]) X mtX10_yardsBy g1071 [0, 1, 2] 0 (kX10_yardsBy l G cI cC cZ q qtx qlw qgp qhm qpcs qdl qdg qdh qdp qnw qps qim qisd qkp qfd qbk qal qco ln fa dr dn sd fn en at_ wr pl yd wy pce_ tl lw gp P gr wd g wk kk gw t (by first | assumption | omega) (by first | assumption | omega) (by first | assumption | omega) (by first | assumption | omega) (by first | assumption | omega) (by first | assumption | omega) (by first | assumption | omega) (by first | assumption | omega) (by first | assumption | omega) (by first | assumption | omega) (by first | assumption | omega)) ⟨Nat.le_of_ble_eq_true rfl, Nat.le_of_ble_eq_true rfl⟩ rfl rfl rfl (by decide) rfl rfl rfl rfl rfl (Nat.le_of_ble_eq_true rfl) (Nat.zero_le _) (Nat.zero_le _) dX10_isSoBy_31 (fun r_3 u_4 w_5 => ?_)
          try dsimp only at w_5
          subst w_5
          refine J_callR (pc := 34) (As := [.int (yG P (gp kk) gw t)]) (rest := []) X mtX10_nightHouses g1078 [0, 1] 0 (kX10_nightHouses l G cI cC cZ q qtx qlw qgp qhm qpcs qdl qdg qdh qdp qnw qps qim qisd qkp qfd qbk qal qco ln fa dr dn sd fn en at_ wr pl yd wy pce_ tl lw P gr wd g wk (yG P (gp kk) gw t) (by first | assumption | omega) (by first | assumption | omega) (by first | assumption | omega) (by first | assumption | omega) (by first | assumption | omega) (by first | assumption | omega) (by first | assumption | omega) (by first | assumption | omega) (by first | assumption | omega) (by first | assumption | omega)) ⟨Nat.le_of_ble_eq_true rfl, Nat.le_of_ble_eq_true rfl⟩ rfl rfl rfl (by decide) rfl rfl rfl rfl rfl (Nat.le_of_ble_eq_true rfl) (Nat.zero_le _) (Nat.zero_le _) dX10_isSoBy_34 (fun r_6 u_7 w_8 => ?_)
          try dsimp only at w_8
          subst w_8
          refine J_aload_n (pc := 37) X 0 dX10_isSoBy_37 rfl ?_
          refine J_get (pc := 38) X clX10 0 20 rfl (by decide) g909 rfl dX10_isSoBy_38 ?_
          refine J_iconst (pc := 41) X 2 dX10_isSoBy_41 (by decide) ?_
          refine J_iload (pc := 42) X 4 dX10_isSoBy_42 rfl ?_
          refine J_imul (pc := 44) X dX10_isSoBy_44 ?_
          refine J_top (y := nI (2 * i)) (n_mul (x := 2) (y := i) rfl rfl (by omega)) ?_
          refine J_iconst (pc := 45) X 1 dX10_isSoBy_45 (by decide) ?_
          refine J_iadd (pc := 46) X dX10_isSoBy_46 ?_
          refine J_top (y := nI (2 * i + 1)) (n_add (x := 2 * i) (y := 1) rfl rfl (by omega)) ?_
          refine J_iald (pc := 47) X 3 0 (2 * i + 1) rfl rfl rfl (by omega) (by decide) dX10_isSoBy_47 ?_
          refine J_icmp_ne (pc := 48) X 55 dX10_isSoBy_48 (by decide) (fun c_9 => ?_) (fun c_9 => ?_)
          · skip
            refine J_iconst (pc := 55) X 0 dX10_isSoBy_55 (by decide) ?_
            refine J_istore_n (pc := 56) X [(3, .int 0), (0, .ref q), (1, .int gw), (2, .int t), (4, .int (nI i))] dX10_isSoBy_56 (by decide) rfl ?_
            refine J_iinc (pc := 57) X (nI (i + 1)) 4 [(4, .int (nI (i + 1))), (3, .int 0), (0, .ref q), (1, .int gw), (2, .int t)] dX10_isSoBy_57 rfl (n_add (x := i) (y := 1) rfl rfl (by omega)) (by decide) rfl ?_
            refine J_goto (pc := 60) X 5 dX10_isSoBy_60 (by decide) ?_
            refine J_loc [2, 3, 4, 1, 0] (lv2 := [(0, .ref q), (1, .int gw), (2, .int t), (3, .int 0), (4, .int (nI (i + 1)))]) rfl ?_
            exact ih_5  (i + 1) 0 (by first | assumption | omega | simp_all) (by first | exact all_0 (Q := (fun i9 => nH wd (yG P (gp (fd (2 * i9)).toNatClampNeg) gw t) = fd (2 * i9 + 1))) his (by assumption) | exact all_t (Q := (fun i9 => nH wd (yG P (gp (fd (2 * i9)).toNatClampNeg) gw t) = fd (2 * i9 + 1))) his (by assumption) (by show nH _ (yG _ (gp _) _ _) = _; rw [hfk, nI_clamp (by omega)]; assumption) | exact all_f (Q := (fun i9 => nH wd (yG P (gp (fd (2 * i9)).toNatClampNeg) gw t) = fd (2 * i9 + 1))) (by show ¬ nH _ (yG _ (gp _) _ _) = _; rw [hfk, nI_clamp (by omega)]; assumption)) (by omega)
          · skip
            refine J_iconst (pc := 51) X 1 dX10_isSoBy_51 (by decide) ?_
            refine J_goto (pc := 52) X 56 dX10_isSoBy_52 (by decide) ?_
            refine J_istore_n (pc := 56) X [(3, .int 1), (0, .ref q), (1, .int gw), (2, .int t), (4, .int (nI i))] dX10_isSoBy_56 (by decide) rfl ?_
            refine J_iinc (pc := 57) X (nI (i + 1)) 4 [(4, .int (nI (i + 1))), (3, .int 1), (0, .ref q), (1, .int gw), (2, .int t)] dX10_isSoBy_57 rfl (n_add (x := i) (y := 1) rfl rfl (by omega)) (by decide) rfl ?_
            refine J_goto (pc := 60) X 5 dX10_isSoBy_60 (by decide) ?_
            refine J_loc [2, 3, 4, 1, 0] (lv2 := [(0, .ref q), (1, .int gw), (2, .int t), (3, .int 1), (4, .int (nI (i + 1)))]) rfl ?_
            exact ih_5  (i + 1) 1 (by first | assumption | omega | simp_all) (by first | exact all_0 (Q := (fun i9 => nH wd (yG P (gp (fd (2 * i9)).toNatClampNeg) gw t) = fd (2 * i9 + 1))) his (by assumption) | exact all_t (Q := (fun i9 => nH wd (yG P (gp (fd (2 * i9)).toNatClampNeg) gw t) = fd (2 * i9 + 1))) his (by assumption) (by show nH _ (yG _ (gp _) _ _) = _; rw [hfk, nI_clamp (by omega)]; assumption) | exact all_f (Q := (fun i9 => nH wd (yG P (gp (fd (2 * i9)).toNatClampNeg) gw t) = fd (2 * i9 + 1))) (by show ¬ nH _ (yG _ (gp _) _ _) = _; rw [hfk, nI_clamp (by omega)]; assumption)) (by omega)
  refine J_loc [2, 3, 4, 1, 0] (lv2 := [(0, .ref q), (1, .int gw), (2, .int t), (3, .int 1), (4, .int 0)]) rfl ?_
  exact L_5 _  0 1 (by first | assumption | omega | simp_all) (all_i (Q := (fun i9 => nH wd (yG P (gp (fd (2 * i9)).toNatClampNeg) gw t) = fd (2 * i9 + 1))) (i := 0) rfl) (Nat.lt_succ_self _)
set_option maxRecDepth 100000 in
set_option maxHeartbeats 600000 in
theorem kX10_fits (l : Launch) (G : va_G) (cI cC cZ : ClassId) (q : Nat) (qtx : Nat) (qlw : Nat) (qgp : Nat) (qhm : Nat) (qpcs : Nat) (qdl : Nat) (qdg : Nat) (qdh : Nat) (qdp : Nat) (qnw : Nat) (qps : Nat) (qim : Nat) (qisd : Nat) (qkp : Nat) (qfd : Nat) (qbk : Nat) (qal : Nat) (qco : Nat) (ln : Nat) (fa : Int32) (dr : Int32) (dn : Nat) (sd : Int32) (fn : Nat) (en : Nat) (at_ : Nat) (wr : Nat) (pl : Int32) (yd : Int32) (wy : Int32) (pce_ : Int32) (tl : Int32) (lw : Nat → Int32) (gp : Nat → Int32) (fd : Nat → Int32) (P : Nat) (gr : Int32) (wd : Nat) (g : Nat) (wk : Nat) (what : Int32) (hPl : P ≤ 60) (hg : g ≤ 8) (hwk : wk ≤ 4) (hwd : wd ≤ 50) (hl0 : lw 0 = nI P) (hl1 : lw 1 = gr) (hl2 : lw 2 = nI wd) (hl3 : lw 3 = nI g) (hl4 : lw 4 = nI wk) (hwd0 : 0 < g → 0 < wd) (hf : fn ≤ 6) (hfd : okFd g fn fd) : CI l G (tys3 cI cC cZ) yX10_fits cX10_fits 6 (some .int) ({ frames := 3, cells := 0, slots := 0, locals := 69 }) [.ref q, .int what] [(q, .inr (10, [.ref qtx, .int (nI ln), .int fa, .ref qlw, .ref qgp, .ref qhm, .ref qpcs, .ref qdl, .ref qdg, .ref qdh, .ref qdp, .int dr, .int tl, .ref qnw, .ref qps, .int (nI dn), .ref qim, .ref qisd, .ref qkp, .int sd, .ref qfd, .int (nI fn), .ref qbk, .int (nI en), .int (nI at_), .int (nI wr), .int pl, .int yd, .int wy, .int pce_, .ref qal, .ref qco])), (qlw, .inl (cI, 5, .inl lw)), (qgp, .inl (cI, 8, .inl gp)), (qfd, .inl (cI, 12, .inl fd))] (S := Unit) (fun (r : Int32) (u : Unit) => r = spFits P wd fn gp fd gr what) (fun _ => [(q, .inr (10, [.ref qtx, .int (nI ln), .int fa, .ref qlw, .ref qgp, .ref qhm, .ref qpcs, .ref qdl, .ref qdg, .ref qdh, .ref qdp, .int dr, .int tl, .ref qnw, .ref qps, .int (nI dn), .ref qim, .ref qisd, .ref qkp, .int sd, .ref qfd, .int (nI fn), .ref qbk, .int (nI en), .int (nI at_), .int (nI wr), .int pl, .int yd, .int wy, .int pce_, .ref qal, .ref qco])), (qlw, .inl (cI, 5, .inl lw)), (qgp, .inl (cI, 8, .inl gp)), (qfd, .inl (cI, 12, .inl fd))]) := by
  refine CI.intro (by decide) (Nat.le_of_ble_eq_true rfl) ?_
  intro p0 e0 s0 m0 ar0 be0 me0 c0 A0 X hr
  refine J_iload_n (pc := 0) X 1 dX10_fits_0 rfl ?_
  refine J_iconst (pc := 1) X 0 dX10_fits_1 (by decide) ?_
  refine J_iconst (pc := 2) X 2 dX10_fits_2 (by decide) ?_
  refine J_callS (pc := 3) (As := [.int what, .int 0, .int 2]) (rest := []) X mtX10_in g990 [] (kX10_in l G cI cC cZ what 0 2 ) ⟨Nat.le_of_ble_eq_true rfl, Nat.le_of_ble_eq_true rfl⟩ rfl rfl rfl (by decide) rfl rfl (Nat.le_of_ble_eq_true rfl) (Nat.zero_le _) (Nat.zero_le _) dX10_fits_3 (fun r_1 u_2 w_3 => ?_)
  try dsimp only at w_3
  subst w_3
  refine J_bif_ne (pc := 6) X 12 dX10_fits_6 (by decide) (fun c_4 => ?_) (fun c_4 => ?_)
  · skip
    have hwhat := c_4
    refine J_iconst (pc := 12) X 0 dX10_fits_12 (by decide) ?_
    refine J_istore_n (pc := 13) X [(2, .int 0), (0, .ref q), (1, .int what)] dX10_fits_13 (by decide) rfl ?_
    refine J_iconst (pc := 14) X (-1) dX10_fits_14 (by decide) ?_
    refine J_istore_n (pc := 15) X [(3, .int (-1)), (2, .int 0), (0, .ref q), (1, .int what)] dX10_fits_15 (by decide) rfl ?_
    refine J_iconst (pc := 16) X (-1) dX10_fits_16 (by decide) ?_
    refine J_istore (pc := 17) X [(4, .int (-1)), (3, .int (-1)), (2, .int 0), (0, .ref q), (1, .int what)] dX10_fits_17 (by decide) rfl ?_
    refine J_iconst (pc := 19) X 0 dX10_fits_19 (by decide) ?_
    refine J_istore (pc := 20) X [(5, .int 0), (4, .int (-1)), (3, .int (-1)), (2, .int 0), (0, .ref q), (1, .int what)] dX10_fits_20 (by decide) rfl ?_
    have L_22 : ∀ (n_22 : Nat) (i : Nat) (fs_ : Int32) (ls_ : Int32) (n : Nat) (hi : i ≤ 2 * P) (hn : n ≤ i) (hsp : (fs_, ls_, n) = spn (fun t9 => fsQ P wd fn gp fd gr (nI t9)) i), (2 * P - i) < n_22 → JJ p0 l e0 ({ frames := 3, cells := 0, slots := 0, locals := 69 }) s0 m0 ar0 be0 me0 c0 A0 G 6 0 0 (QI be0 ar0 s0 A0 G (tys3 cI cC cZ) (S := Unit) (fun (r : Int32) (u : Unit) => r = spFits P wd fn gp fd gr what) (fun _ => [(q, .inr (10, [.ref qtx, .int (nI ln), .int fa, .ref qlw, .ref qgp, .ref qhm, .ref qpcs, .ref qdl, .ref qdg, .ref qdh, .ref qdp, .int dr, .int tl, .ref qnw, .ref qps, .int (nI dn), .ref qim, .ref qisd, .ref qkp, .int sd, .ref qfd, .int (nI fn), .ref qbk, .int (nI en), .int (nI at_), .int (nI wr), .int pl, .int yd, .int wy, .int pce_, .ref qal, .ref qco])), (qlw, .inl (cI, 5, .inl lw)), (qgp, .inl (cI, 8, .inl gp)), (qfd, .inl (cI, 12, .inl fd))])) [(q, .inr (10, [.ref qtx, .int (nI ln), .int fa, .ref qlw, .ref qgp, .ref qhm, .ref qpcs, .ref qdl, .ref qdg, .ref qdh, .ref qdp, .int dr, .int tl, .ref qnw, .ref qps, .int (nI dn), .ref qim, .ref qisd, .ref qkp, .int sd, .ref qfd, .int (nI fn), .ref qbk, .int (nI en), .int (nI at_), .int (nI wr), .int pl, .int yd, .int wy, .int pce_, .ref qal, .ref qco])), (qlw, .inl (cI, 5, .inl lw)), (qgp, .inl (cI, 8, .inl gp)), (qfd, .inl (cI, 12, .inl fd))] 22 [(0, .ref q), (1, .int what), (2, .int (nI n)), (3, .int fs_), (4, .int ls_), (5, .int (nI i))] [] := by
      intro n_22
      induction n_22 with
      | zero => intro i fs_ ls_ n hi hn hsp hm_22; exact absurd hm_22 (Nat.not_lt_zero _)
      | succ n_22 ih_22 =>
        intro i fs_ ls_ n hi hn hsp hm_22
        refine J_iload (pc := 22) X 5 dX10_fits_22 rfl ?_
        refine J_iconst (pc := 24) X 2 dX10_fits_24 (by decide) ?_
        refine J_aload_n (pc := 25) X 0 dX10_fits_25 rfl ?_
        refine J_get (pc := 26) X clX10 0 3 rfl (by decide) g892 rfl dX10_fits_26 ?_
        refine J_iconst (pc := 29) X 0 dX10_fits_29 (by decide) ?_
        refine J_iald (pc := 30) X 1 0 0 rfl rfl rfl (by decide) (by decide) dX10_fits_30 ?_
        refine J_top (y := nI P) hl0 ?_
        refine J_imul (pc := 31) X dX10_fits_31 ?_
        refine J_top (y := nI (2 * P)) (n_mul (x := 2) (y := P) rfl rfl (by omega)) ?_
        refine J_icmp_ge (pc := 32) X 74 dX10_fits_32 (by decide) (fun c_5 => ?_) (fun c_5 => ?_)
        · have c_5 : 2 * P ≤ i := n_le_of (a := 2 * P) (b := i) (by omega) (by omega) c_5
          refine J_iload_n (pc := 74) X 1 dX10_fits_74 rfl ?_
          refine J_if_ne (pc := 75) X 82 dX10_fits_75 (by decide) (fun c_6 => ?_) (fun c_6 => ?_)
          · skip
            refine J_iload_n (pc := 82) X 1 dX10_fits_82 rfl ?_
            refine J_iconst (pc := 83) X 1 dX10_fits_83 (by decide) ?_
            refine J_icmp_ne (pc := 84) X 91 dX10_fits_84 (by decide) (fun c_7 => ?_) (fun c_7 => ?_)
            · skip
              refine J_iload (pc := 91) X 4 dX10_fits_91 rfl ?_
              refine J_iret (pc := 93) X hr () dX10_fits_93 ?_ rfl
              rw [spFits, if_pos hwhat, show 2 * P = i from by omega, ← hsp]
              simp [pickF, c_4, c_5, c_6, c_7]
            · skip
              refine J_iload_n (pc := 87) X 3 dX10_fits_87 rfl ?_
              refine J_goto (pc := 88) X 93 dX10_fits_88 (by decide) ?_
              refine J_iret (pc := 93) X hr () dX10_fits_93 ?_ rfl
              rw [spFits, if_pos hwhat, show 2 * P = i from by omega, ← hsp]
              simp [pickF, c_4, c_5, c_6, c_7]
          · skip
            refine J_iload_n (pc := 78) X 2 dX10_fits_78 rfl ?_
            refine J_goto (pc := 79) X 93 dX10_fits_79 (by decide) ?_
            refine J_iret (pc := 93) X hr () dX10_fits_93 ?_ rfl
            rw [spFits, if_pos hwhat, show 2 * P = i from by omega, ← hsp]
            simp [pickF, c_4, c_5, c_6]
        · have c_5 : i < 2 * P := n_nle_of (a := 2 * P) (b := i) (by omega) (by omega) c_5
          refine J_aload_n (pc := 35) X 0 dX10_fits_35 rfl ?_
          refine J_aload_n (pc := 36) X 0 dX10_fits_36 rfl ?_
          refine J_get (pc := 37) X clX10 0 3 rfl (by decide) g892 rfl dX10_fits_37 ?_
          refine J_iconst (pc := 40) X 1 dX10_fits_40 (by decide) ?_
          refine J_iald (pc := 41) X 1 0 1 rfl rfl rfl (by decide) (by decide) dX10_fits_41 ?_
          refine J_top (y := gr) hl1 ?_
          refine J_iload (pc := 42) X 5 dX10_fits_42 rfl ?_
          refine J_callR (pc := 44) (As := [.int gr, .int (nI i)]) (rest := []) X mtX10_isSoBy g1240 [0, 1, 2, 3] 0 (kX10_isSoBy l G cI cC cZ q qtx qlw qgp qhm qpcs qdl qdg qdh qdp qnw qps qim qisd qkp qfd qbk qal qco ln fa dr dn sd fn en at_ wr pl yd wy pce_ tl lw gp fd P gr wd g wk gr (nI i) (by first | assumption | omega) (by first | assumption | omega) (by first | assumption | omega) (by first | assumption | omega) (by first | assumption | omega) (by first | assumption | omega) (by first | assumption | omega) (by first | assumption | omega) (by first | assumption | omega) (by first | assumption | omega) (by first | assumption | omega) (by first | assumption | omega) (by first | assumption | omega)) ⟨Nat.le_of_ble_eq_true rfl, Nat.le_of_ble_eq_true rfl⟩ rfl rfl rfl (by decide) rfl rfl rfl rfl rfl (Nat.le_of_ble_eq_true rfl) (Nat.zero_le _) (Nat.zero_le _) dX10_fits_44 (fun r_8 u_9 w_10 => ?_)
          try dsimp only at w_10
          subst w_10
          refine J_bif_eq (pc := 47) X 68 dX10_fits_47 (by decide) (fun c_11 => ?_) (fun c_11 => ?_)
          · skip
            refine J_iinc (pc := 68) X (nI (i + 1)) 5 [(5, .int (nI (i + 1))), (0, .ref q), (1, .int what), (2, .int (nI n)), (3, .int fs_), (4, .int ls_)] dX10_fits_68 rfl (n_add (x := i) (y := 1) rfl rfl (by omega)) (by decide) rfl ?_
            refine J_goto (pc := 71) X 22 dX10_fits_71 (by decide) ?_
            refine J_loc [1, 2, 3, 4, 5, 0] (lv2 := [(0, .ref q), (1, .int what), (2, .int (nI n)), (3, .int fs_), (4, .int ls_), (5, .int (nI (i + 1)))]) rfl ?_
            exact ih_22  (i + 1) fs_ ls_ n (by first | assumption | omega | simp_all) (by first | assumption | omega | simp_all) (by first | exact spn_out hsp (by assumption) | exact (by have z := spn_in hsp (by assumption); rw [if_pos (by assumption)] at z; exact z) | exact (by have z := spn_in hsp (by assumption); rw [if_neg (by assumption)] at z; exact z)) (by omega)
          · skip
            refine J_iload_n (pc := 50) X 2 dX10_fits_50 rfl ?_
            refine J_if_ne (pc := 51) X 59 dX10_fits_51 (by decide) (fun c_12 => ?_) (fun c_12 => ?_)
            · have c_12 : ¬ n = 0 := n_ne_of (a := n) (b := 0) (by omega) (by omega) c_12
              refine J_iload_n (pc := 59) X 3 dX10_fits_59 rfl ?_
              refine J_istore_n (pc := 60) X [(3, .int fs_), (0, .ref q), (1, .int what), (2, .int (nI n)), (4, .int ls_), (5, .int (nI i))] dX10_fits_60 (by decide) rfl ?_
              refine J_iload (pc := 61) X 5 dX10_fits_61 rfl ?_
              refine J_istore (pc := 63) X [(4, .int (nI i)), (3, .int fs_), (0, .ref q), (1, .int what), (2, .int (nI n)), (5, .int (nI i))] dX10_fits_63 (by decide) rfl ?_
              refine J_iinc (pc := 65) X (nI (n + 1)) 4 [(2, .int (nI (n + 1))), (4, .int (nI i)), (3, .int fs_), (0, .ref q), (1, .int what), (5, .int (nI i))] dX10_fits_65 rfl (n_add (x := n) (y := 1) rfl rfl (by omega)) (by decide) rfl ?_
              refine J_iinc (pc := 68) X (nI (i + 1)) 5 [(5, .int (nI (i + 1))), (2, .int (nI (n + 1))), (4, .int (nI i)), (3, .int fs_), (0, .ref q), (1, .int what)] dX10_fits_68 rfl (n_add (x := i) (y := 1) rfl rfl (by omega)) (by decide) rfl ?_
              refine J_goto (pc := 71) X 22 dX10_fits_71 (by decide) ?_
              refine J_loc [4, 5, 1, 3, 2, 0] (lv2 := [(0, .ref q), (1, .int what), (2, .int (nI (n + 1))), (3, .int fs_), (4, .int (nI i)), (5, .int (nI (i + 1)))]) rfl ?_
              exact ih_22  (i + 1) fs_ (nI i) (n + 1) (by first | assumption | omega | simp_all) (by first | assumption | omega | simp_all) (by first | exact spn_out hsp (by assumption) | exact (by have z := spn_in hsp (by assumption); rw [if_pos (by assumption)] at z; exact z) | exact (by have z := spn_in hsp (by assumption); rw [if_neg (by assumption)] at z; exact z)) (by omega)
            · have c_12 : n = 0 := n_eq_of (a := n) (b := 0) (by omega) (by omega) c_12
              refine J_iload (pc := 54) X 5 dX10_fits_54 rfl ?_
              refine J_goto (pc := 56) X 60 dX10_fits_56 (by decide) ?_
              refine J_istore_n (pc := 60) X [(3, .int (nI i)), (0, .ref q), (1, .int what), (2, .int (nI n)), (4, .int ls_), (5, .int (nI i))] dX10_fits_60 (by decide) rfl ?_
              refine J_iload (pc := 61) X 5 dX10_fits_61 rfl ?_
              refine J_istore (pc := 63) X [(4, .int (nI i)), (3, .int (nI i)), (0, .ref q), (1, .int what), (2, .int (nI n)), (5, .int (nI i))] dX10_fits_63 (by decide) rfl ?_
              refine J_iinc (pc := 65) X (nI (n + 1)) 4 [(2, .int (nI (n + 1))), (4, .int (nI i)), (3, .int (nI i)), (0, .ref q), (1, .int what), (5, .int (nI i))] dX10_fits_65 rfl (n_add (x := n) (y := 1) rfl rfl (by omega)) (by decide) rfl ?_
              refine J_iinc (pc := 68) X (nI (i + 1)) 5 [(5, .int (nI (i + 1))), (2, .int (nI (n + 1))), (4, .int (nI i)), (3, .int (nI i)), (0, .ref q), (1, .int what)] dX10_fits_68 rfl (n_add (x := i) (y := 1) rfl rfl (by omega)) (by decide) rfl ?_
              refine J_goto (pc := 71) X 22 dX10_fits_71 (by decide) ?_
              refine J_loc [4, 5, 1, 3, 2, 0] (lv2 := [(0, .ref q), (1, .int what), (2, .int (nI (n + 1))), (3, .int (nI i)), (4, .int (nI i)), (5, .int (nI (i + 1)))]) rfl ?_
              exact ih_22  (i + 1) (nI i) (nI i) (n + 1) (by first | assumption | omega | simp_all) (by first | assumption | omega | simp_all) (by first | exact spn_out hsp (by assumption) | exact (by have z := spn_in hsp (by assumption); rw [if_pos (by assumption)] at z; exact z) | exact (by have z := spn_in hsp (by assumption); rw [if_neg (by assumption)] at z; exact z)) (by omega)
    refine J_loc [4, 5, 3, 2, 1, 0] (lv2 := [(0, .ref q), (1, .int what), (2, .int 0), (3, .int (-1)), (4, .int (-1)), (5, .int 0)]) rfl ?_
    exact L_22 _  0 (-1) (-1) 0 (by first | assumption | omega | simp_all) (by first | assumption | omega | simp_all) rfl (Nat.lt_succ_self _)
  · skip
    refine J_ldc (pc := 9) X g993 dX10_fits_9 ?_
    refine J_iret (pc := 11) X hr () dX10_fits_11 ?_ rfl
    exact (if_neg (by assumption)).symm
set_option maxRecDepth 100000 in
set_option maxHeartbeats 600000 in
theorem kX10_growths (l : Launch) (G : va_G) (cI cC cZ : ClassId) (q : Nat) (qtx : Nat) (qlw : Nat) (qgp : Nat) (qhm : Nat) (qpcs : Nat) (qdl : Nat) (qdg : Nat) (qdh : Nat) (qdp : Nat) (qnw : Nat) (qps : Nat) (qim : Nat) (qisd : Nat) (qkp : Nat) (qfd : Nat) (qbk : Nat) (qal : Nat) (qco : Nat) (ln : Nat) (fa : Int32) (dr : Int32) (dn : Nat) (sd : Int32) (fn : Nat) (en : Nat) (at_ : Nat) (wr : Nat) (pl : Int32) (yd : Int32) (wy : Int32) (pce_ : Int32) (tl : Int32) (lw : Nat → Int32) (gp : Nat → Int32) (fd : Nat → Int32) (P : Nat) (gr : Int32) (wd : Nat) (g : Nat) (wk : Nat) (hPl : P ≤ 60) (hg : g ≤ 8) (hwk : wk ≤ 4) (hwd : wd ≤ 50) (hl0 : lw 0 = nI P) (hl1 : lw 1 = gr) (hl2 : lw 2 = nI wd) (hl3 : lw 3 = nI g) (hl4 : lw 4 = nI wk) (hwd0 : 0 < g → 0 < wd) (hf : fn ≤ 6) (hfd : okFd g fn fd) : CI l G (tys3 cI cC cZ) yX10_growths cX10_growths 5 (some .int) ({ frames := 3, cells := 0, slots := 0, locals := 69 }) [.ref q] [(q, .inr (10, [.ref qtx, .int (nI ln), .int fa, .ref qlw, .ref qgp, .ref qhm, .ref qpcs, .ref qdl, .ref qdg, .ref qdh, .ref qdp, .int dr, .int tl, .ref qnw, .ref qps, .int (nI dn), .ref qim, .ref qisd, .ref qkp, .int sd, .ref qfd, .int (nI fn), .ref qbk, .int (nI en), .int (nI at_), .int (nI wr), .int pl, .int yd, .int wy, .int pce_, .ref qal, .ref qco])), (qlw, .inl (cI, 5, .inl lw)), (qgp, .inl (cI, 8, .inl gp)), (qfd, .inl (cI, 12, .inl fd))] (S := Unit) (fun (r : Int32) (u : Unit) => r = grTo P wd fn gp fd 30) (fun _ => [(q, .inr (10, [.ref qtx, .int (nI ln), .int fa, .ref qlw, .ref qgp, .ref qhm, .ref qpcs, .ref qdl, .ref qdg, .ref qdh, .ref qdp, .int dr, .int tl, .ref qnw, .ref qps, .int (nI dn), .ref qim, .ref qisd, .ref qkp, .int sd, .ref qfd, .int (nI fn), .ref qbk, .int (nI en), .int (nI at_), .int (nI wr), .int pl, .int yd, .int wy, .int pce_, .ref qal, .ref qco])), (qlw, .inl (cI, 5, .inl lw)), (qgp, .inl (cI, 8, .inl gp)), (qfd, .inl (cI, 12, .inl fd))]) := by
  refine CI.intro (by decide) (Nat.le_of_ble_eq_true rfl) ?_
  intro p0 e0 s0 m0 ar0 be0 me0 c0 A0 X hr
  refine J_iconst (pc := 0) X 0 dX10_growths_0 (by decide) ?_
  refine J_istore_n (pc := 1) X [(1, .int 0), (0, .ref q)] dX10_growths_1 (by decide) rfl ?_
  refine J_iconst (pc := 2) X 0 dX10_growths_2 (by decide) ?_
  refine J_istore_n (pc := 3) X [(2, .int 0), (1, .int 0), (0, .ref q)] dX10_growths_3 (by decide) rfl ?_
  have L_4 : ∀ (n_4 : Nat) (gI : Nat) (set_ : Int32) (hgI : gI ≤ 30) (hset : set_ = grTo P wd fn gp fd gI), (30 - gI) < n_4 → JJ p0 l e0 ({ frames := 3, cells := 0, slots := 0, locals := 69 }) s0 m0 ar0 be0 me0 c0 A0 G 5 0 0 (QI be0 ar0 s0 A0 G (tys3 cI cC cZ) (S := Unit) (fun (r : Int32) (u : Unit) => r = grTo P wd fn gp fd 30) (fun _ => [(q, .inr (10, [.ref qtx, .int (nI ln), .int fa, .ref qlw, .ref qgp, .ref qhm, .ref qpcs, .ref qdl, .ref qdg, .ref qdh, .ref qdp, .int dr, .int tl, .ref qnw, .ref qps, .int (nI dn), .ref qim, .ref qisd, .ref qkp, .int sd, .ref qfd, .int (nI fn), .ref qbk, .int (nI en), .int (nI at_), .int (nI wr), .int pl, .int yd, .int wy, .int pce_, .ref qal, .ref qco])), (qlw, .inl (cI, 5, .inl lw)), (qgp, .inl (cI, 8, .inl gp)), (qfd, .inl (cI, 12, .inl fd))])) [(q, .inr (10, [.ref qtx, .int (nI ln), .int fa, .ref qlw, .ref qgp, .ref qhm, .ref qpcs, .ref qdl, .ref qdg, .ref qdh, .ref qdp, .int dr, .int tl, .ref qnw, .ref qps, .int (nI dn), .ref qim, .ref qisd, .ref qkp, .int sd, .ref qfd, .int (nI fn), .ref qbk, .int (nI en), .int (nI at_), .int (nI wr), .int pl, .int yd, .int wy, .int pce_, .ref qal, .ref qco])), (qlw, .inl (cI, 5, .inl lw)), (qgp, .inl (cI, 8, .inl gp)), (qfd, .inl (cI, 12, .inl fd))] 4 [(0, .ref q), (1, .int set_), (2, .int (nI gI))] [] := by
    intro n_4
    induction n_4 with
    | zero => intro gI set_ hgI hset hm_4; exact absurd hm_4 (Nat.not_lt_zero _)
    | succ n_4 ih_4 =>
      intro gI set_ hgI hset hm_4
      refine J_iload_n (pc := 4) X 2 dX10_growths_4 rfl ?_
      refine J_bipush (pc := 5) X 30 dX10_growths_5 (by decide) ?_
      refine J_icmp_ge (pc := 7) X 74 dX10_growths_7 (by decide) (fun c_1 => ?_) (fun c_1 => ?_)
      · have c_1 : 30 ≤ gI := n_le_of (a := 30) (b := gI) (by omega) (by omega) c_1
        refine J_iload_n (pc := 74) X 1 dX10_growths_74 rfl ?_
        refine J_iret (pc := 75) X hr () dX10_growths_75 ?_ rfl
        exact hset.trans (congrArg (grTo P wd fn gp fd) (by omega))
      · have c_1 : gI < 30 := n_nle_of (a := 30) (b := gI) (by omega) (by omega) c_1
        refine J_iconst (pc := 10) X 0 dX10_growths_10 (by decide) ?_
        refine J_istore_n (pc := 11) X [(3, .int 0), (0, .ref q), (1, .int set_), (2, .int (nI gI))] dX10_growths_11 (by decide) rfl ?_
        refine J_iconst (pc := 12) X 0 dX10_growths_12 (by decide) ?_
        refine J_istore (pc := 13) X [(4, .int 0), (3, .int 0), (0, .ref q), (1, .int set_), (2, .int (nI gI))] dX10_growths_13 (by decide) rfl ?_
        have L_15 : ∀ (n_15 : Nat) (t : Nat) (is_ : Int32) (ht : t ≤ 2 * P) (his : is_ = bI (exB (fun t9 => fsQ P wd fn gp fd (nI gI) (nI t9)) t = true)), (2 * P - t) < n_15 → JJ p0 l e0 ({ frames := 3, cells := 0, slots := 0, locals := 69 }) s0 m0 ar0 be0 me0 c0 A0 G 5 0 0 (QI be0 ar0 s0 A0 G (tys3 cI cC cZ) (S := Unit) (fun (r : Int32) (u : Unit) => r = grTo P wd fn gp fd 30) (fun _ => [(q, .inr (10, [.ref qtx, .int (nI ln), .int fa, .ref qlw, .ref qgp, .ref qhm, .ref qpcs, .ref qdl, .ref qdg, .ref qdh, .ref qdp, .int dr, .int tl, .ref qnw, .ref qps, .int (nI dn), .ref qim, .ref qisd, .ref qkp, .int sd, .ref qfd, .int (nI fn), .ref qbk, .int (nI en), .int (nI at_), .int (nI wr), .int pl, .int yd, .int wy, .int pce_, .ref qal, .ref qco])), (qlw, .inl (cI, 5, .inl lw)), (qgp, .inl (cI, 8, .inl gp)), (qfd, .inl (cI, 12, .inl fd))])) [(q, .inr (10, [.ref qtx, .int (nI ln), .int fa, .ref qlw, .ref qgp, .ref qhm, .ref qpcs, .ref qdl, .ref qdg, .ref qdh, .ref qdp, .int dr, .int tl, .ref qnw, .ref qps, .int (nI dn), .ref qim, .ref qisd, .ref qkp, .int sd, .ref qfd, .int (nI fn), .ref qbk, .int (nI en), .int (nI at_), .int (nI wr), .int pl, .int yd, .int wy, .int pce_, .ref qal, .ref qco])), (qlw, .inl (cI, 5, .inl lw)), (qgp, .inl (cI, 8, .inl gp)), (qfd, .inl (cI, 12, .inl fd))] 15 [(0, .ref q), (1, .int set_), (2, .int (nI gI)), (3, .int is_), (4, .int (nI t))] [] := by
          intro n_15
          induction n_15 with
          | zero => intro t is_ ht his hm_15; exact absurd hm_15 (Nat.not_lt_zero _)
          | succ n_15 ih_15 =>
            intro t is_ ht his hm_15
            refine J_iload (pc := 15) X 4 dX10_growths_15 rfl ?_
            refine J_iconst (pc := 17) X 2 dX10_growths_17 (by decide) ?_
            refine J_aload_n (pc := 18) X 0 dX10_growths_18 rfl ?_
            refine J_get (pc := 19) X clX10 0 3 rfl (by decide) g892 rfl dX10_growths_19 ?_
            refine J_iconst (pc := 22) X 0 dX10_growths_22 (by decide) ?_
            refine J_iald (pc := 23) X 1 0 0 rfl rfl rfl (by decide) (by decide) dX10_growths_23 ?_
            refine J_top (y := nI P) hl0 ?_
            refine J_imul (pc := 24) X dX10_growths_24 ?_
            refine J_top (y := nI (2 * P)) (n_mul (x := 2) (y := P) rfl rfl (by omega)) ?_
            refine J_icmp_ge (pc := 25) X 54 dX10_growths_25 (by decide) (fun c_2 => ?_) (fun c_2 => ?_)
            · have c_2 : 2 * P ≤ t := n_le_of (a := 2 * P) (b := t) (by omega) (by omega) c_2
              refine J_iload_n (pc := 54) X 1 dX10_growths_54 rfl ?_
              refine J_iload_n (pc := 55) X 3 dX10_growths_55 rfl ?_
              refine J_if_eq (pc := 56) X 65 dX10_growths_56 (by decide) (fun c_3 => ?_) (fun c_3 => ?_)
              · skip
                refine J_iconst (pc := 65) X 0 dX10_growths_65 (by decide) ?_
                refine J_ior (pc := 66) X dX10_growths_66 ?_
                refine J_istore_n (pc := 67) X [(1, .int (set_ ||| 0)), (0, .ref q), (2, .int (nI gI)), (3, .int is_), (4, .int (nI t))] dX10_growths_67 (by decide) rfl ?_
                refine J_iinc (pc := 68) X (nI (gI + 1)) 2 [(2, .int (nI (gI + 1))), (1, .int (set_ ||| 0)), (0, .ref q), (3, .int is_), (4, .int (nI t))] dX10_growths_68 rfl (n_add (x := gI) (y := 1) rfl rfl (by omega)) (by decide) rfl ?_
                refine J_goto (pc := 71) X 4 dX10_growths_71 (by decide) ?_
                refine J_loc [2, 1, 0] (lv2 := [(0, .ref q), (1, .int (set_ ||| 0)), (2, .int (nI (gI + 1)))]) rfl ?_
                exact ih_4  (gI + 1) (set_ ||| 0) (by first | assumption | omega | simp_all) (by first | exact gr_in hset his (by omega) (by assumption) | exact gr_out hset his (by omega) (by assumption)) (by omega)
              · skip
                refine J_iconst (pc := 59) X 1 dX10_growths_59 (by decide) ?_
                refine J_iload_n (pc := 60) X 2 dX10_growths_60 rfl ?_
                refine J_ishl (pc := 61) X dX10_growths_61 ?_
                refine J_goto (pc := 62) X 66 dX10_growths_62 (by decide) ?_
                refine J_ior (pc := 66) X dX10_growths_66 ?_
                refine J_istore_n (pc := 67) X [(1, .int (set_ ||| (1 <<< ((nI gI) &&& 31)))), (0, .ref q), (2, .int (nI gI)), (3, .int is_), (4, .int (nI t))] dX10_growths_67 (by decide) rfl ?_
                refine J_iinc (pc := 68) X (nI (gI + 1)) 2 [(2, .int (nI (gI + 1))), (1, .int (set_ ||| (1 <<< ((nI gI) &&& 31)))), (0, .ref q), (3, .int is_), (4, .int (nI t))] dX10_growths_68 rfl (n_add (x := gI) (y := 1) rfl rfl (by omega)) (by decide) rfl ?_
                refine J_goto (pc := 71) X 4 dX10_growths_71 (by decide) ?_
                refine J_loc [2, 1, 0] (lv2 := [(0, .ref q), (1, .int (set_ ||| (1 <<< ((nI gI) &&& 31)))), (2, .int (nI (gI + 1)))]) rfl ?_
                exact ih_4  (gI + 1) (set_ ||| (1 <<< ((nI gI) &&& 31))) (by first | assumption | omega | simp_all) (by first | exact gr_in hset his (by omega) (by assumption) | exact gr_out hset his (by omega) (by assumption)) (by omega)
            · have c_2 : t < 2 * P := n_nle_of (a := 2 * P) (b := t) (by omega) (by omega) c_2
              refine J_iload_n (pc := 28) X 3 dX10_growths_28 rfl ?_
              refine J_if_ne (pc := 29) X 42 dX10_growths_29 (by decide) (fun c_4 => ?_) (fun c_4 => ?_)
              · skip
                refine J_iconst (pc := 42) X 1 dX10_growths_42 (by decide) ?_
                refine J_goto (pc := 43) X 47 dX10_growths_43 (by decide) ?_
                refine J_istore_n (pc := 47) X [(3, .int 1), (0, .ref q), (1, .int set_), (2, .int (nI gI)), (4, .int (nI t))] dX10_growths_47 (by decide) rfl ?_
                refine J_iinc (pc := 48) X (nI (t + 1)) 4 [(4, .int (nI (t + 1))), (3, .int 1), (0, .ref q), (1, .int set_), (2, .int (nI gI))] dX10_growths_48 rfl (n_add (x := t) (y := 1) rfl rfl (by omega)) (by decide) rfl ?_
                refine J_goto (pc := 51) X 15 dX10_growths_51 (by decide) ?_
                refine J_loc [2, 3, 4, 1, 0] (lv2 := [(0, .ref q), (1, .int set_), (2, .int (nI gI)), (3, .int 1), (4, .int (nI (t + 1)))]) rfl ?_
                exact ih_15  (t + 1) 1 (by first | assumption | omega | simp_all) (by first | exact ex_1 his (by assumption) | exact ex_2 (Q := (fun t9 => fsQ P wd fn gp fd (nI gI) (nI t9))) (by assumption) | exact ex_3 (Q := (fun t9 => fsQ P wd fn gp fd (nI gI) (nI t9))) his (by assumption) (by assumption)) (by omega)
              · skip
                refine J_aload_n (pc := 32) X 0 dX10_growths_32 rfl ?_
                refine J_iload_n (pc := 33) X 2 dX10_growths_33 rfl ?_
                refine J_iload (pc := 34) X 4 dX10_growths_34 rfl ?_
                refine J_callR (pc := 36) (As := [.int (nI gI), .int (nI t)]) (rest := []) X mtX10_isSoBy g1240 [0, 1, 2, 3] 0 (kX10_isSoBy l G cI cC cZ q qtx qlw qgp qhm qpcs qdl qdg qdh qdp qnw qps qim qisd qkp qfd qbk qal qco ln fa dr dn sd fn en at_ wr pl yd wy pce_ tl lw gp fd P gr wd g wk (nI gI) (nI t) (by first | assumption | omega) (by first | assumption | omega) (by first | assumption | omega) (by first | assumption | omega) (by first | assumption | omega) (by first | assumption | omega) (by first | assumption | omega) (by first | assumption | omega) (by first | assumption | omega) (by first | assumption | omega) (by first | assumption | omega) (by first | assumption | omega) (by first | assumption | omega)) ⟨Nat.le_of_ble_eq_true rfl, Nat.le_of_ble_eq_true rfl⟩ rfl rfl rfl (by decide) rfl rfl rfl rfl rfl (Nat.le_of_ble_eq_true rfl) (Nat.zero_le _) (Nat.zero_le _) dX10_growths_36 (fun r_5 u_6 w_7 => ?_)
                try dsimp only at w_7
                subst w_7
                refine J_bif_eq (pc := 39) X 46 dX10_growths_39 (by decide) (fun c_8 => ?_) (fun c_8 => ?_)
                · skip
                  refine J_iconst (pc := 46) X 0 dX10_growths_46 (by decide) ?_
                  refine J_istore_n (pc := 47) X [(3, .int 0), (0, .ref q), (1, .int set_), (2, .int (nI gI)), (4, .int (nI t))] dX10_growths_47 (by decide) rfl ?_
                  refine J_iinc (pc := 48) X (nI (t + 1)) 4 [(4, .int (nI (t + 1))), (3, .int 0), (0, .ref q), (1, .int set_), (2, .int (nI gI))] dX10_growths_48 rfl (n_add (x := t) (y := 1) rfl rfl (by omega)) (by decide) rfl ?_
                  refine J_goto (pc := 51) X 15 dX10_growths_51 (by decide) ?_
                  refine J_loc [2, 3, 4, 1, 0] (lv2 := [(0, .ref q), (1, .int set_), (2, .int (nI gI)), (3, .int 0), (4, .int (nI (t + 1)))]) rfl ?_
                  exact ih_15  (t + 1) 0 (by first | assumption | omega | simp_all) (by first | exact ex_1 his (by assumption) | exact ex_2 (Q := (fun t9 => fsQ P wd fn gp fd (nI gI) (nI t9))) (by assumption) | exact ex_3 (Q := (fun t9 => fsQ P wd fn gp fd (nI gI) (nI t9))) his (by assumption) (by assumption)) (by omega)
                · skip
                  refine J_iconst (pc := 42) X 1 dX10_growths_42 (by decide) ?_
                  refine J_goto (pc := 43) X 47 dX10_growths_43 (by decide) ?_
                  refine J_istore_n (pc := 47) X [(3, .int 1), (0, .ref q), (1, .int set_), (2, .int (nI gI)), (4, .int (nI t))] dX10_growths_47 (by decide) rfl ?_
                  refine J_iinc (pc := 48) X (nI (t + 1)) 4 [(4, .int (nI (t + 1))), (3, .int 1), (0, .ref q), (1, .int set_), (2, .int (nI gI))] dX10_growths_48 rfl (n_add (x := t) (y := 1) rfl rfl (by omega)) (by decide) rfl ?_
                  refine J_goto (pc := 51) X 15 dX10_growths_51 (by decide) ?_
                  refine J_loc [2, 3, 4, 1, 0] (lv2 := [(0, .ref q), (1, .int set_), (2, .int (nI gI)), (3, .int 1), (4, .int (nI (t + 1)))]) rfl ?_
                  exact ih_15  (t + 1) 1 (by first | assumption | omega | simp_all) (by first | exact ex_1 his (by assumption) | exact ex_2 (Q := (fun t9 => fsQ P wd fn gp fd (nI gI) (nI t9))) (by assumption) | exact ex_3 (Q := (fun t9 => fsQ P wd fn gp fd (nI gI) (nI t9))) his (by assumption) (by assumption)) (by omega)
        refine J_loc [2, 3, 4, 1, 0] (lv2 := [(0, .ref q), (1, .int set_), (2, .int (nI gI)), (3, .int 0), (4, .int 0)]) rfl ?_
        exact L_15 _  0 0 (by first | assumption | omega | simp_all) (ex_0 (Q := (fun t9 => fsQ P wd fn gp fd (nI gI) (nI t9)))) (Nat.lt_succ_self _)
  refine J_loc [2, 1, 0] (lv2 := [(0, .ref q), (1, .int 0), (2, .int 0)]) rfl ?_
  exact L_4 _  0 0 (by first | assumption | omega | simp_all) rfl (Nat.lt_succ_self _)
