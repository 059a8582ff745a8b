set_option maxRecDepth 100000 in
set_option maxHeartbeats 600000 in
theorem kX10_met (l : Launch) (G : va_G) (cI cC cZ : ClassId) (q : Nat) (qtx : Nat) (qlw : Nat) (qgp : Nat) (qhm : Nat) (qpcs : Nat) (qdl : Nat) (qdg : Nat) (qdh : Nat) (qdp : Nat) (qnw : Nat) (qps : Nat) (qim : Nat) (qisd : Nat) (qkp : Nat) (qfd : Nat) (qbk : Nat) (qal : Nat) (qco : Nat) (ln : Nat) (fa : Int32) (dr : Int32) (dn : Nat) (sd : Int32) (fn : Nat) (en : Nat) (at_ : Nat) (wr : Nat) (pl : Int32) (yd : Int32) (wy : Int32) (pce_ : Int32) (tl : Int32) (lw : Nat → Int32) (fd : Nat → Int32) (P : Nat) (gr : Int32) (wd : Nat) (g : Nat) (wk : Nat) (k : Int32) (n : Int32) (hPl : P ≤ 60) (hg : g ≤ 8) (hwk : wk ≤ 4) (hwd : wd ≤ 50) (hl0 : lw 0 = nI P) (hl1 : lw 1 = gr) (hl2 : lw 2 = nI wd) (hl3 : lw 3 = nI g) (hl4 : lw 4 = nI wk) (hf : fn ≤ 6) : CI l G (tys3 cI cC cZ) yX10_met cX10_met 3 (some .int) ({ frames := 2, cells := 0, slots := 0, locals := 43 }) [.ref q, .int k, .int n] [(q, .inr (10, [.ref qtx, .int (nI ln), .int fa, .ref qlw, .ref qgp, .ref qhm, .ref qpcs, .ref qdl, .ref qdg, .ref qdh, .ref qdp, .int dr, .int tl, .ref qnw, .ref qps, .int (nI dn), .ref qim, .ref qisd, .ref qkp, .int sd, .ref qfd, .int (nI fn), .ref qbk, .int (nI en), .int (nI at_), .int (nI wr), .int pl, .int yd, .int wy, .int pce_, .ref qal, .ref qco])), (qlw, .inl (cI, 5, .inl lw)), (qfd, .inl (cI, 12, .inl fd))] (S := Nat × (Nat → Int32)) (fun (r : Int32) (u : Nat × (Nat → Int32)) => r = spMet g fn k n ∧ (¬ spMet g fn k n < 0 → u.1 = fn + 1 ∧ u.2 = upd (upd fd (2 * fn) k) (2 * fn + 1) n) ∧ (spMet g fn k n < 0 → u.1 = fn ∧ u.2 = fd)) (fun (u : Nat × (Nat → Int32)) => [(q, .inr (10, [.ref qtx, .int (nI ln), .int fa, .ref qlw, .ref qgp, .ref qhm, .ref qpcs, .ref qdl, .ref qdg, .ref qdh, .ref qdp, .int dr, .int tl, .ref qnw, .ref qps, .int (nI dn), .ref qim, .ref qisd, .ref qkp, .int sd, .ref qfd, .int (nI u.1), .ref qbk, .int (nI en), .int (nI at_), .int (nI wr), .int pl, .int yd, .int wy, .int pce_, .ref qal, .ref qco])), (qlw, .inl (cI, 5, .inl lw)), (qfd, .inl (cI, 12, .inl u.2))]) := by
  refine CI.intro (by decide) (Nat.le_of_ble_eq_true rfl) ?_
  intro p0 e0 s0 m0 ar0 be0 me0 c0 A0 X hr
  refine J_aload_n (pc := 0) X 0 dX10_met_0 rfl ?_
  refine J_iload_n (pc := 1) X 1 dX10_met_1 rfl ?_
  refine J_callR (pc := 2) (As := [.int k]) (rest := []) X mtX10_isGap g1062 [0, 1] 0 (kX10_isGap l G cI cC cZ q qtx qlw qgp qhm qpcs qdl qdg qdh qdp qnw qps qim qisd qkp qfd qbk qal qco ln fa dr dn sd fn en at_ wr pl yd wy pce_ tl lw P gr wd g wk k (by first | assumption | omega) (by first | assumption | omega) (by first | assumption | omega) (by first | assumption | omega) (by first | assumption | omega) (by first | assumption | omega) (by first | assumption | omega) (by first | assumption | omega) (by first | assumption | omega)) ⟨Nat.le_of_ble_eq_true rfl, Nat.le_of_ble_eq_true rfl⟩ rfl rfl rfl (by decide) rfl rfl rfl rfl rfl (Nat.le_of_ble_eq_true rfl) (Nat.zero_le _) (Nat.zero_le _) dX10_met_2 (fun r_1 u_2 w_3 => ?_)
  try dsimp only at w_3
  subst w_3
  refine J_bif_ne (pc := 5) X 11 dX10_met_5 (by decide) (fun c_4 => ?_) (fun c_4 => ?_)
  · skip
    obtain ⟨kn, hkn, rfl⟩ := inB_ex (by omega) c_4
    refine J_iload_n (pc := 11) X 2 dX10_met_11 rfl ?_
    refine J_iconst (pc := 12) X 0 dX10_met_12 (by decide) ?_
    refine J_sipush (pc := 13) X 999 dX10_met_13 (by decide) ?_
    refine J_callS (pc := 16) (As := [.int n, .int 0, .int 999]) (rest := []) X mtX10_in g990 [] (kX10_in l G cI cC cZ n 0 999 ) ⟨Nat.le_of_ble_eq_true rfl, Nat.le_of_ble_eq_true rfl⟩ rfl rfl rfl (by decide) rfl rfl (Nat.le_of_ble_eq_true rfl) (Nat.zero_le _) (Nat.zero_le _) dX10_met_16 (fun r_5 u_6 w_7 => ?_)
    try dsimp only at w_7
    subst w_7
    refine J_bif_ne (pc := 19) X 25 dX10_met_19 (by decide) (fun c_8 => ?_) (fun c_8 => ?_)
    · skip
      refine J_aload_n (pc := 25) X 0 dX10_met_25 rfl ?_
      refine J_get (pc := 26) X clX10 0 21 rfl (by decide) g910 rfl dX10_met_26 ?_
      refine J_bipush (pc := 29) X 6 dX10_met_29 (by decide) ?_
      refine J_icmp_ne (pc := 31) X 37 dX10_met_31 (by decide) (fun c_9 => ?_) (fun c_9 => ?_)
      · have c_9 : ¬ fn = 6 := n_ne_of (a := fn) (b := 6) (by omega) (by omega) c_9
        refine J_aload_n (pc := 37) X 0 dX10_met_37 rfl ?_
        refine J_get (pc := 38) X clX10 0 20 rfl (by decide) g909 rfl dX10_met_38 ?_
        refine J_iconst (pc := 41) X 2 dX10_met_41 (by decide) ?_
        refine J_aload_n (pc := 42) X 0 dX10_met_42 rfl ?_
        refine J_get (pc := 43) X clX10 0 21 rfl (by decide) g910 rfl dX10_met_43 ?_
        refine J_imul (pc := 46) X dX10_met_46 ?_
        refine J_top (y := nI (2 * fn)) (n_mul (x := 2) (y := fn) rfl rfl (by omega)) ?_
        refine J_iload_n (pc := 47) X 1 dX10_met_47 rfl ?_
        refine J_iast (pc := 48) X 2 0 (2 * fn) [(q, .inr (10, [.ref qtx, .int (nI ln), .int fa, .ref qlw, .ref qgp, .ref qhm, .ref qpcs, .ref qdl, .ref qdg, .ref qdh, .ref qdp, .int dr, .int tl, .ref qnw, .ref qps, .int (nI dn), .ref qim, .ref qisd, .ref qkp, .int sd, .ref qfd, .int (nI fn), .ref qbk, .int (nI en), .int (nI at_), .int (nI wr), .int pl, .int yd, .int wy, .int pce_, .ref qal, .ref qco])), (qlw, .inl (cI, 5, .inl lw)), (qfd, .inl (cI, 12, .inl (upd fd (2 * fn) (nI kn))))] rfl rfl rfl (by omega) (by decide) rfl dX10_met_48 ?_
        refine J_aload_n (pc := 49) X 0 dX10_met_49 rfl ?_
        refine J_get (pc := 50) X clX10 0 20 rfl (by decide) g909 rfl dX10_met_50 ?_
        refine J_iconst (pc := 53) X 2 dX10_met_53 (by decide) ?_
        refine J_aload_n (pc := 54) X 0 dX10_met_54 rfl ?_
        refine J_get (pc := 55) X clX10 0 21 rfl (by decide) g910 rfl dX10_met_55 ?_
        refine J_imul (pc := 58) X dX10_met_58 ?_
        refine J_top (y := nI (2 * fn)) (n_mul (x := 2) (y := fn) rfl rfl (by omega)) ?_
        refine J_iconst (pc := 59) X 1 dX10_met_59 (by decide) ?_
        refine J_iadd (pc := 60) X dX10_met_60 ?_
        refine J_top (y := nI (2 * fn + 1)) (n_add (x := 2 * fn) (y := 1) rfl rfl (by omega)) ?_
        refine J_iload_n (pc := 61) X 2 dX10_met_61 rfl ?_
        refine J_iast (pc := 62) X 2 0 (2 * fn + 1) [(q, .inr (10, [.ref qtx, .int (nI ln), .int fa, .ref qlw, .ref qgp, .ref qhm, .ref qpcs, .ref qdl, .ref qdg, .ref qdh, .ref qdp, .int dr, .int tl, .ref qnw, .ref qps, .int (nI dn), .ref qim, .ref qisd, .ref qkp, .int sd, .ref qfd, .int (nI fn), .ref qbk, .int (nI en), .int (nI at_), .int (nI wr), .int pl, .int yd, .int wy, .int pce_, .ref qal, .ref qco])), (qlw, .inl (cI, 5, .inl lw)), (qfd, .inl (cI, 12, .inl (upd (upd fd (2 * fn) (nI kn)) (2 * fn + 1) n)))] rfl rfl rfl (by omega) (by decide) rfl dX10_met_62 ?_
        refine J_aload_n (pc := 63) X 0 dX10_met_63 rfl ?_
        refine J_dup (pc := 64) X dX10_met_64 rfl ?_
        refine J_get (pc := 65) X clX10 0 21 rfl (by decide) g910 rfl dX10_met_65 ?_
        refine J_iconst (pc := 68) X 1 dX10_met_68 (by decide) ?_
        refine J_iadd (pc := 69) X dX10_met_69 ?_
        refine J_top (y := nI (fn + 1)) (n_add (x := fn) (y := 1) rfl rfl (by omega)) ?_
        refine J_put (pc := 70) X clX10 0 21 [(q, .inr (10, [.ref qtx, .int (nI ln), .int fa, .ref qlw, .ref qgp, .ref qhm, .ref qpcs, .ref qdl, .ref qdg, .ref qdh, .ref qdp, .int dr, .int tl, .ref qnw, .ref qps, .int (nI dn), .ref qim, .ref qisd, .ref qkp, .int sd, .ref qfd, .int (nI (fn + 1)), .ref qbk, .int (nI en), .int (nI at_), .int (nI wr), .int pl, .int yd, .int wy, .int pce_, .ref qal, .ref qco])), (qlw, .inl (cI, 5, .inl lw)), (qfd, .inl (cI, 12, .inl (upd (upd fd (2 * fn) (nI kn)) (2 * fn + 1) n)))] rfl (by decide) g910 rfl rfl rfl (Nat.le_of_ble_eq_true rfl) rfl dX10_met_70 ?_
        refine J_aload_n (pc := 73) X 0 dX10_met_73 rfl ?_
        refine J_get (pc := 74) X clX10 0 21 rfl (by decide) g910 rfl dX10_met_74 ?_
        refine J_iret (pc := 77) X hr ((fn + 1), (upd (upd fd (2 * fn) (nI kn)) (2 * fn + 1) n)) dX10_met_77 ?_ rfl
        have hz : spMet g fn (nI kn) n = nI (fn + 1) := by rw [spMet, if_pos ((inB_nI (n := g) (j := kn) (by omega)).mpr hkn), if_pos (by assumption), if_neg (by assumption)]
        rw [hz]
        exact ⟨rfl, fun _ => ⟨rfl, rfl⟩, fun h => absurd h (nI_pos (by omega))⟩
      · have c_9 : fn = 6 := n_eq_of (a := fn) (b := 6) (by omega) (by omega) c_9
        refine J_ldc (pc := 34) X g994 dX10_met_34 ?_
        refine J_iret (pc := 36) X hr (fn, fd) dX10_met_36 ?_ rfl
        have hz : spMet g fn (nI kn) n = -1000000004 := by rw [spMet, if_pos ((inB_nI (n := g) (j := kn) (by omega)).mpr hkn), if_pos (by assumption), if_pos (by assumption)]
        rw [hz]
        exact ⟨rfl, fun h => absurd h (by decide), fun _ => ⟨rfl, rfl⟩⟩
    · skip
      refine J_ldc (pc := 22) X g993 dX10_met_22 ?_
      refine J_iret (pc := 24) X hr (fn, fd) dX10_met_24 ?_ rfl
      have hz : spMet g fn (nI kn) n = -1000000002 := by rw [spMet, if_pos ((inB_nI (n := g) (j := kn) (by omega)).mpr hkn), if_neg (by assumption)]
      rw [hz]
      exact ⟨rfl, fun h => absurd h (by decide), fun _ => ⟨rfl, rfl⟩⟩
  · skip
    refine J_ldc (pc := 8) X g1066 dX10_met_8 ?_
    refine J_iret (pc := 10) X hr (fn, fd) dX10_met_10 ?_ rfl
    have hz : spMet g fn k n = -1000000001 := if_neg (by assumption)
    rw [hz]
    exact ⟨rfl, fun h => absurd h (by decide), fun _ => ⟨rfl, rfl⟩⟩
set_option maxRecDepth 100000 in
set_option maxHeartbeats 600000 in
theorem kX10_write (l : Launch) (G : va_G) (cI cC cZ : ClassId) (q : Nat) (qtx : Nat) (qlw : Nat) (qgp : Nat) (qhm : Nat) (qpcs : Nat) (qdl : Nat) (qdg : Nat) (qdh : Nat) (qdp : Nat) (qnw : Nat) (qps : Nat) (qim : Nat) (qisd : Nat) (qkp : Nat) (qfd : Nat) (qbk : Nat) (qal : Nat) (qco : Nat) (ln : Nat) (fa : Int32) (dr : Int32) (dn : Nat) (sd : Int32) (fn : Nat) (en : Nat) (at_ : Nat) (wr : Nat) (pl : Int32) (yd : Int32) (wy : Int32) (pce_ : Int32) (tl : Int32) (lw : Nat → Int32) (bk : Nat → Int32) (P : Nat) (gr : Int32) (wd : Nat) (g : Nat) (wk : Nat) (hs : Nat) (w : Int32) (h : Int32) (hPl : P ≤ 60) (hg : g ≤ 8) (hwk : wk ≤ 4) (hwd : wd ≤ 50) (hl0 : lw 0 = nI P) (hl1 : lw 1 = gr) (hl2 : lw 2 = nI wd) (hl3 : lw 3 = nI g) (hl4 : lw 4 = nI wk) (hhs : (g = 0 ∧ hs = 0) ∨ (0 < g ∧ hs = g + 1)) (he : en ≤ 20) : CI l G (tys3 cI cC cZ) yX10_write cX10_write 3 (some .int) ({ frames := 2, cells := 0, slots := 0, locals := 43 }) [.ref q, .int w, .int h] [(q, .inr (10, [.ref qtx, .int (nI ln), .int fa, .ref qlw, .ref qgp, .ref qhm, .ref qpcs, .ref qdl, .ref qdg, .ref qdh, .ref qdp, .int dr, .int tl, .ref qnw, .ref qps, .int (nI dn), .ref qim, .ref qisd, .ref qkp, .int sd, .ref qfd, .int (nI fn), .ref qbk, .int (nI en), .int (nI at_), .int (nI wr), .int pl, .int yd, .int wy, .int pce_, .ref qal, .ref qco])), (qlw, .inl (cI, 5, .inl lw)), (qbk, .inl (cI, 40, .inl bk))] (S := Nat × (Nat → Int32)) (fun (r : Int32) (u : Nat × (Nat → Int32)) => r = spWrite wk hs en w h ∧ (¬ spWrite wk hs en w h < 0 → u.1 = en + 1 ∧ u.2 = upd (upd bk (2 * en) w) (2 * en + 1) h) ∧ (spWrite wk hs en w h < 0 → u.1 = en ∧ u.2 = bk)) (fun (u : Nat × (Nat → Int32)) => [(q, .inr (10, [.ref qtx, .int (nI ln), .int fa, .ref qlw, .ref qgp, .ref qhm, .ref qpcs, .ref qdl, .ref qdg, .ref qdh, .ref qdp, .int dr, .int tl, .ref qnw, .ref qps, .int (nI dn), .ref qim, .ref qisd, .ref qkp, .int sd, .ref qfd, .int (nI fn), .ref qbk, .int (nI u.1), .int (nI at_), .int (nI wr), .int pl, .int yd, .int wy, .int pce_, .ref qal, .ref qco])), (qlw, .inl (cI, 5, .inl lw)), (qbk, .inl (cI, 40, .inl u.2))]) := by
  refine CI.intro (by decide) (Nat.le_of_ble_eq_true rfl) ?_
  intro p0 e0 s0 m0 ar0 be0 me0 c0 A0 X hr
  refine J_aload_n (pc := 0) X 0 dX10_write_0 rfl ?_
  refine J_iload_n (pc := 1) X 1 dX10_write_1 rfl ?_
  refine J_callR (pc := 2) (As := [.int w]) (rest := []) X mtX10_isWalker g1086 [0, 1] 0 (kX10_isWalker l G cI cC cZ q qtx qlw qgp qhm qpcs qdl qdg qdh qdp qnw qps qim qisd qkp qfd qbk qal qco ln fa dr dn sd fn en at_ wr pl yd wy pce_ tl lw P gr wd g wk w (by first | assumption | omega) (by first | assumption | omega) (by first | assumption | omega) (by first | assumption | omega) (by first | assumption | omega) (by first | assumption | omega) (by first | assumption | omega) (by first | assumption | omega) (by first | assumption | omega)) ⟨Nat.le_of_ble_eq_true rfl, Nat.le_of_ble_eq_true rfl⟩ rfl rfl rfl (by decide) rfl rfl rfl rfl rfl (Nat.le_of_ble_eq_true rfl) (Nat.zero_le _) (Nat.zero_le _) dX10_write_2 (fun r_1 u_2 w_3 => ?_)
  try dsimp only at w_3
  subst w_3
  refine J_bif_eq (pc := 5) X 16 dX10_write_5 (by decide) (fun c_4 => ?_) (fun c_4 => ?_)
  · skip
    refine J_ldc (pc := 16) X g1066 dX10_write_16 ?_
    refine J_iret (pc := 18) X hr (en, bk) dX10_write_18 ?_ rfl
    have hz : spWrite wk hs en w h = -1000000001 := if_neg (fun z => by first | exact absurd z.1 (by assumption) | exact absurd z.2 (by assumption))
    rw [hz]
    exact ⟨rfl, fun h => absurd h (by decide), fun _ => ⟨rfl, rfl⟩⟩
  · skip
    obtain ⟨wn, hwn, rfl⟩ := inB_ex (by omega) c_4
    refine J_aload_n (pc := 8) X 0 dX10_write_8 rfl ?_
    refine J_iload_n (pc := 9) X 2 dX10_write_9 rfl ?_
    refine J_callR (pc := 10) (As := [.int h]) (rest := []) X mtX10_isHouse g1175 [0, 1] 0 (kX10_isHouse l G cI cC cZ q qtx qlw qgp qhm qpcs qdl qdg qdh qdp qnw qps qim qisd qkp qfd qbk qal qco ln fa dr dn sd fn en at_ wr pl yd wy pce_ tl lw P gr wd g wk h hs (by first | assumption | omega) (by first | assumption | omega) (by first | assumption | omega) (by first | assumption | omega) (by first | assumption | omega) (by first | assumption | omega) (by first | assumption | omega) (by first | assumption | omega) (by first | assumption | omega) (by first | assumption | omega)) ⟨Nat.le_of_ble_eq_true rfl, Nat.le_of_ble_eq_true rfl⟩ rfl rfl rfl (by decide) rfl rfl rfl rfl rfl (Nat.le_of_ble_eq_true rfl) (Nat.zero_le _) (Nat.zero_le _) dX10_write_10 (fun r_5 u_6 w_7 => ?_)
    try dsimp only at w_7
    subst w_7
    refine J_bif_ne (pc := 13) X 19 dX10_write_13 (by decide) (fun c_8 => ?_) (fun c_8 => ?_)
    · skip
      obtain ⟨hn, hhn, rfl⟩ := inB_ex (by omega) c_8
      refine J_aload_n (pc := 19) X 0 dX10_write_19 rfl ?_
      refine J_get (pc := 20) X clX10 0 23 rfl (by decide) g912 rfl dX10_write_20 ?_
      refine J_bipush (pc := 23) X 20 dX10_write_23 (by decide) ?_
      refine J_icmp_ne (pc := 25) X 31 dX10_write_25 (by decide) (fun c_9 => ?_) (fun c_9 => ?_)
      · have c_9 : ¬ en = 20 := n_ne_of (a := en) (b := 20) (by omega) (by omega) c_9
        refine J_aload_n (pc := 31) X 0 dX10_write_31 rfl ?_
        refine J_get (pc := 32) X clX10 0 22 rfl (by decide) g911 rfl dX10_write_32 ?_
        refine J_iconst (pc := 35) X 2 dX10_write_35 (by decide) ?_
        refine J_aload_n (pc := 36) X 0 dX10_write_36 rfl ?_
        refine J_get (pc := 37) X clX10 0 23 rfl (by decide) g912 rfl dX10_write_37 ?_
        refine J_imul (pc := 40) X dX10_write_40 ?_
        refine J_top (y := nI (2 * en)) (n_mul (x := 2) (y := en) rfl rfl (by omega)) ?_
        refine J_iload_n (pc := 41) X 1 dX10_write_41 rfl ?_
        refine J_iast (pc := 42) X 2 0 (2 * en) [(q, .inr (10, [.ref qtx, .int (nI ln), .int fa, .ref qlw, .ref qgp, .ref qhm, .ref qpcs, .ref qdl, .ref qdg, .ref qdh, .ref qdp, .int dr, .int tl, .ref qnw, .ref qps, .int (nI dn), .ref qim, .ref qisd, .ref qkp, .int sd, .ref qfd, .int (nI fn), .ref qbk, .int (nI en), .int (nI at_), .int (nI wr), .int pl, .int yd, .int wy, .int pce_, .ref qal, .ref qco])), (qlw, .inl (cI, 5, .inl lw)), (qbk, .inl (cI, 40, .inl (upd bk (2 * en) (nI wn))))] rfl rfl rfl (by omega) (by decide) rfl dX10_write_42 ?_
        refine J_aload_n (pc := 43) X 0 dX10_write_43 rfl ?_
        refine J_get (pc := 44) X clX10 0 22 rfl (by decide) g911 rfl dX10_write_44 ?_
        refine J_iconst (pc := 47) X 2 dX10_write_47 (by decide) ?_
        refine J_aload_n (pc := 48) X 0 dX10_write_48 rfl ?_
        refine J_get (pc := 49) X clX10 0 23 rfl (by decide) g912 rfl dX10_write_49 ?_
        refine J_imul (pc := 52) X dX10_write_52 ?_
        refine J_top (y := nI (2 * en)) (n_mul (x := 2) (y := en) rfl rfl (by omega)) ?_
        refine J_iconst (pc := 53) X 1 dX10_write_53 (by decide) ?_
        refine J_iadd (pc := 54) X dX10_write_54 ?_
        refine J_top (y := nI (2 * en + 1)) (n_add (x := 2 * en) (y := 1) rfl rfl (by omega)) ?_
        refine J_iload_n (pc := 55) X 2 dX10_write_55 rfl ?_
        refine J_iast (pc := 56) X 2 0 (2 * en + 1) [(q, .inr (10, [.ref qtx, .int (nI ln), .int fa, .ref qlw, .ref qgp, .ref qhm, .ref qpcs, .ref qdl, .ref qdg, .ref qdh, .ref qdp, .int dr, .int tl, .ref qnw, .ref qps, .int (nI dn), .ref qim, .ref qisd, .ref qkp, .int sd, .ref qfd, .int (nI fn), .ref qbk, .int (nI en), .int (nI at_), .int (nI wr), .int pl, .int yd, .int wy, .int pce_, .ref qal, .ref qco])), (qlw, .inl (cI, 5, .inl lw)), (qbk, .inl (cI, 40, .inl (upd (upd bk (2 * en) (nI wn)) (2 * en + 1) (nI hn))))] rfl rfl rfl (by omega) (by decide) rfl dX10_write_56 ?_
        refine J_aload_n (pc := 57) X 0 dX10_write_57 rfl ?_
        refine J_dup (pc := 58) X dX10_write_58 rfl ?_
        refine J_get (pc := 59) X clX10 0 23 rfl (by decide) g912 rfl dX10_write_59 ?_
        refine J_iconst (pc := 62) X 1 dX10_write_62 (by decide) ?_
        refine J_iadd (pc := 63) X dX10_write_63 ?_
        refine J_top (y := nI (en + 1)) (n_add (x := en) (y := 1) rfl rfl (by omega)) ?_
        refine J_put (pc := 64) X clX10 0 23 [(q, .inr (10, [.ref qtx, .int (nI ln), .int fa, .ref qlw, .ref qgp, .ref qhm, .ref qpcs, .ref qdl, .ref qdg, .ref qdh, .ref qdp, .int dr, .int tl, .ref qnw, .ref qps, .int (nI dn), .ref qim, .ref qisd, .ref qkp, .int sd, .ref qfd, .int (nI fn), .ref qbk, .int (nI (en + 1)), .int (nI at_), .int (nI wr), .int pl, .int yd, .int wy, .int pce_, .ref qal, .ref qco])), (qlw, .inl (cI, 5, .inl lw)), (qbk, .inl (cI, 40, .inl (upd (upd bk (2 * en) (nI wn)) (2 * en + 1) (nI hn))))] rfl (by decide) g912 rfl rfl rfl (Nat.le_of_ble_eq_true rfl) rfl dX10_write_64 ?_
        refine J_aload_n (pc := 67) X 0 dX10_write_67 rfl ?_
        refine J_get (pc := 68) X clX10 0 23 rfl (by decide) g912 rfl dX10_write_68 ?_
        refine J_iret (pc := 71) X hr ((en + 1), (upd (upd bk (2 * en) (nI wn)) (2 * en + 1) (nI hn))) dX10_write_71 ?_ rfl
        have hz : spWrite wk hs en (nI wn) (nI hn) = nI (en + 1) := by rw [spWrite, if_pos ⟨(inB_nI (n := wk) (j := wn) (by omega)).mpr hwn, (inB_nI (n := hs) (j := hn) (by omega)).mpr hhn⟩, if_neg (by assumption)]
        rw [hz]
        exact ⟨rfl, fun _ => ⟨rfl, rfl⟩, fun h => absurd h (nI_pos (by omega))⟩
      · have c_9 : en = 20 := n_eq_of (a := en) (b := 20) (by omega) (by omega) c_9
        refine J_ldc (pc := 28) X g994 dX10_write_28 ?_
        refine J_iret (pc := 30) X hr (en, bk) dX10_write_30 ?_ rfl
        have hz : spWrite wk hs en (nI wn) (nI hn) = -1000000004 := by rw [spWrite, if_pos ⟨(inB_nI (n := wk) (j := wn) (by omega)).mpr hwn, (inB_nI (n := hs) (j := hn) (by omega)).mpr hhn⟩, if_pos (by assumption)]
        rw [hz]
        exact ⟨rfl, fun h => absurd h (by decide), fun _ => ⟨rfl, rfl⟩⟩
    · skip
      refine J_ldc (pc := 16) X g1066 dX10_write_16 ?_
      refine J_iret (pc := 18) X hr (en, bk) dX10_write_18 ?_ rfl
      have hz : spWrite wk hs en (nI wn) h = -1000000001 := if_neg (fun z => by first | exact absurd z.1 (by assumption) | exact absurd z.2 (by assumption))
      rw [hz]
      exact ⟨rfl, fun h => absurd h (by decide), fun _ => ⟨rfl, rfl⟩⟩
set_option maxRecDepth 100000 in
set_option maxHeartbeats 600000 in
theorem kX10_judge (l : Launch) (G : va_G) (cI cC cZ : ClassId) (q : Nat) (qtx : Nat) (qlw : Nat) (qgp : Nat) (qhm : Nat) (qpcs : Nat) (qdl : Nat) (qdg : Nat) (qdh : Nat) (qdp : Nat) (qnw : Nat) (qps : Nat) (qim : Nat) (qisd : Nat) (qkp : Nat) (qfd : Nat) (qbk : Nat) (qal : Nat) (qco : Nat) (ln : Nat) (fa : Int32) (dr : Int32) (dn : Nat) (sd : Int32) (fn : Nat) (en : Nat) (at_ : Nat) (wr : Nat) (pl : Int32) (yd : Int32) (wy : Int32) (pce_ : Int32) (tl : Int32) (nw : Nat → Int32) (bk : Nat → Int32) (wk : Nat) (hwk : wk ≤ 4) (he : en ≤ 20) (hbk : okBk wk en bk) : CI l G (tys3 cI cC cZ) yX10_judge cX10_judge 2 (some .int) ({ frames := 0, cells := 0, slots := 0, locals := 0 }) [.ref q] [(q, .inr (10, [.ref qtx, .int (nI ln), .int fa, .ref qlw, .ref qgp, .ref qhm, .ref qpcs, .ref qdl, .ref qdg, .ref qdh, .ref qdp, .int dr, .int tl, .ref qnw, .ref qps, .int (nI dn), .ref qim, .ref qisd, .ref qkp, .int sd, .ref qfd, .int (nI fn), .ref qbk, .int (nI en), .int (nI at_), .int (nI wr), .int pl, .int yd, .int wy, .int pce_, .ref qal, .ref qco])), (qnw, .inl (cI, 14, .inl nw)), (qbk, .inl (cI, 40, .inl bk))] (S := Unit) (fun (r : Int32) (u : Unit) => r = fstN (bkQ nw bk) en 0) (fun _ => [(q, .inr (10, [.ref qtx, .int (nI ln), .int fa, .ref qlw, .ref qgp, .ref qhm, .ref qpcs, .ref qdl, .ref qdg, .ref qdh, .ref qdp, .int dr, .int tl, .ref qnw, .ref qps, .int (nI dn), .ref qim, .ref qisd, .ref qkp, .int sd, .ref qfd, .int (nI fn), .ref qbk, .int (nI en), .int (nI at_), .int (nI wr), .int pl, .int yd, .int wy, .int pce_, .ref qal, .ref qco])), (qnw, .inl (cI, 14, .inl nw)), (qbk, .inl (cI, 40, .inl bk))]) := by
  refine CI.intro (by decide) (Nat.le_of_ble_eq_true rfl) ?_
  intro p0 e0 s0 m0 ar0 be0 me0 c0 A0 X hr
  refine J_iconst (pc := 0) X 0 dX10_judge_0 (by decide) ?_
  refine J_istore_n (pc := 1) X [(1, .int 0), (0, .ref q)] dX10_judge_1 (by decide) rfl ?_
  have L_2 : ∀ (n_2 : Nat) (i : Nat) (hi : i ≤ en) (hf : fstN (bkQ nw bk) (en - i) i = fstN (bkQ nw bk) en 0), (en - i) < n_2 → JJ p0 l e0 ({ frames := 0, cells := 0, slots := 0, locals := 0 }) s0 m0 ar0 be0 me0 c0 A0 G 2 0 0 (QI be0 ar0 s0 A0 G (tys3 cI cC cZ) (S := Unit) (fun (r : Int32) (u : Unit) => r = fstN (bkQ nw bk) en 0) (fun _ => [(q, .inr (10, [.ref qtx, .int (nI ln), .int fa, .ref qlw, .ref qgp, .ref qhm, .ref qpcs, .ref qdl, .ref qdg, .ref qdh, .ref qdp, .int dr, .int tl, .ref qnw, .ref qps, .int (nI dn), .ref qim, .ref qisd, .ref qkp, .int sd, .ref qfd, .int (nI fn), .ref qbk, .int (nI en), .int (nI at_), .int (nI wr), .int pl, .int yd, .int wy, .int pce_, .ref qal, .ref qco])), (qnw, .inl (cI, 14, .inl nw)), (qbk, .inl (cI, 40, .inl bk))])) [(q, .inr (10, [.ref qtx, .int (nI ln), .int fa, .ref qlw, .ref qgp, .ref qhm, .ref qpcs, .ref qdl, .ref qdg, .ref qdh, .ref qdp, .int dr, .int tl, .ref qnw, .ref qps, .int (nI dn), .ref qim, .ref qisd, .ref qkp, .int sd, .ref qfd, .int (nI fn), .ref qbk, .int (nI en), .int (nI at_), .int (nI wr), .int pl, .int yd, .int wy, .int pce_, .ref qal, .ref qco])), (qnw, .inl (cI, 14, .inl nw)), (qbk, .inl (cI, 40, .inl bk))] 2 [(0, .ref q), (1, .int (nI i))] [] := by
    intro n_2
    induction n_2 with
    | zero => intro i hi hf hm_2; exact absurd hm_2 (Nat.not_lt_zero _)
    | succ n_2 ih_2 =>
      intro i hi hf hm_2
      refine J_iload_n (pc := 2) X 1 dX10_judge_2 rfl ?_
      refine J_aload_n (pc := 3) X 0 dX10_judge_3 rfl ?_
      refine J_get (pc := 4) X clX10 0 23 rfl (by decide) g912 rfl dX10_judge_4 ?_
      refine J_icmp_ge (pc := 7) X 48 dX10_judge_7 (by decide) (fun c_1 => ?_) (fun c_1 => ?_)
      · have c_1 : en ≤ i := n_le_of (a := en) (b := i) (by omega) (by omega) c_1
        refine J_iconst (pc := 48) X (-1) dX10_judge_48 (by decide) ?_
        refine J_iret (pc := 49) X hr () dX10_judge_49 ?_ rfl
        exact fst_out hf (by omega)
      · have c_1 : i < en := n_nle_of (a := en) (b := i) (by omega) (by omega) c_1
        obtain ⟨bw, bh, hbw1, hbw, hbh1, hbh⟩ := hbk i (by omega)
        refine J_aload_n (pc := 10) X 0 dX10_judge_10 rfl ?_
        refine J_get (pc := 11) X clX10 0 13 rfl (by decide) g902 rfl dX10_judge_11 ?_
        refine J_iconst (pc := 14) X 2 dX10_judge_14 (by decide) ?_
        refine J_iconst (pc := 15) X 3 dX10_judge_15 (by decide) ?_
        refine J_aload_n (pc := 16) X 0 dX10_judge_16 rfl ?_
        refine J_get (pc := 17) X clX10 0 22 rfl (by decide) g911 rfl dX10_judge_17 ?_
        refine J_iconst (pc := 20) X 2 dX10_judge_20 (by decide) ?_
        refine J_iload_n (pc := 21) X 1 dX10_judge_21 rfl ?_
        refine J_imul (pc := 22) X dX10_judge_22 ?_
        refine J_top (y := nI (2 * i)) (n_mul (x := 2) (y := i) rfl rfl (by omega)) ?_
        refine J_iald (pc := 23) X 2 0 (2 * i) rfl rfl rfl (by omega) (by decide) dX10_judge_23 ?_
        refine J_top (y := nI bw) hbw ?_
        refine J_imul (pc := 24) X dX10_judge_24 ?_
        refine J_top (y := nI (3 * bw)) (n_mul (x := 3) (y := bw) rfl rfl (by omega)) ?_
        refine J_iadd (pc := 25) X dX10_judge_25 ?_
        refine J_top (y := nI (3 * bw + 2)) (n_add (x := 2) (y := 3 * bw) rfl rfl (by omega)) ?_
        refine J_iald (pc := 26) X 1 0 (3 * bw + 2) rfl rfl rfl (by omega) (by decide) dX10_judge_26 ?_
        refine J_aload_n (pc := 27) X 0 dX10_judge_27 rfl ?_
        refine J_get (pc := 28) X clX10 0 22 rfl (by decide) g911 rfl dX10_judge_28 ?_
        refine J_iconst (pc := 31) X 2 dX10_judge_31 (by decide) ?_
        refine J_iload_n (pc := 32) X 1 dX10_judge_32 rfl ?_
        refine J_imul (pc := 33) X dX10_judge_33 ?_
        refine J_top (y := nI (2 * i)) (n_mul (x := 2) (y := i) rfl rfl (by omega)) ?_
        refine J_iconst (pc := 34) X 1 dX10_judge_34 (by decide) ?_
        refine J_iadd (pc := 35) X dX10_judge_35 ?_
        refine J_top (y := nI (2 * i + 1)) (n_add (x := 2 * i) (y := 1) rfl rfl (by omega)) ?_
        refine J_iald (pc := 36) X 2 0 (2 * i + 1) rfl rfl rfl (by omega) (by decide) dX10_judge_36 ?_
        refine J_icmp_eq (pc := 37) X 42 dX10_judge_37 (by decide) (fun c_2 => ?_) (fun c_2 => ?_)
        · skip
          refine J_iinc (pc := 42) X (nI (i + 1)) 1 [(1, .int (nI (i + 1))), (0, .ref q)] dX10_judge_42 rfl (n_add (x := i) (y := 1) rfl rfl (by omega)) (by decide) rfl ?_
          refine J_goto (pc := 45) X 2 dX10_judge_45 (by decide) ?_
          refine J_loc [1, 0] (lv2 := [(0, .ref q), (1, .int (nI (i + 1)))]) rfl ?_
          exact ih_2  (i + 1) (by first | assumption | omega | simp_all) (fst_on hf (by omega) (by show ¬ ¬ _; rw [hbw, nI_clamp (by omega)]; exact not_not_intro (by assumption))) (by omega)
        · skip
          refine J_iload_n (pc := 40) X 1 dX10_judge_40 rfl ?_
          refine J_iret (pc := 41) X hr () dX10_judge_41 ?_ rfl
          exact fst_in hf (by omega) (by show ¬ _; rw [hbw, nI_clamp (by omega)]; assumption)
  refine J_loc [1, 0] (lv2 := [(0, .ref q), (1, .int 0)]) rfl ?_
  exact L_2 _  0 (by first | assumption | omega | simp_all) rfl (Nat.lt_succ_self _)
