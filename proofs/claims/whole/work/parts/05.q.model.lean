set_option maxRecDepth 100000 in
set_option maxHeartbeats 600000 in
theorem kX10_look (l : Launch) (G : va_G) (cI cC cZ : ClassId) (q : Nat) (qtx : Nat) (qlw : Nat) (qgp : Nat) (qhm : Nat) (qpcs : Nat) (qdl : Nat) (qdg : Nat) (qdh : Nat) (qdp : Nat) (qnw : Nat) (qps : Nat) (qim : Nat) (qisd : Nat) (qkp : Nat) (qfd : Nat) (qbk : Nat) (qal : Nat) (qco : Nat) (ln : Nat) (fa : Int32) (dr : Int32) (dn : Nat) (sd : Int32) (fn : Nat) (en : Nat) (at_ : Nat) (wr : Nat) (pl : Int32) (yd : Int32) (wy : Int32) (pce_ : Int32) (tl : Int32) (tx : Nat → Int32) (hln : ln ≤ 200) (hat : at_ ≤ ln) : CI l G (tys3 cI cC cZ) yX10_look cX10_look 1 (some .int) ({ frames := 0, cells := 0, slots := 0, locals := 0 }) [.ref q] [(q, .inr (10, [.ref qtx, .int (nI ln), .int fa, .ref qlw, .ref qgp, .ref qhm, .ref qpcs, .ref qdl, .ref qdg, .ref qdh, .ref qdp, .int dr, .int tl, .ref qnw, .ref qps, .int (nI dn), .ref qim, .ref qisd, .ref qkp, .int sd, .ref qfd, .int (nI fn), .ref qbk, .int (nI en), .int (nI at_), .int (nI wr), .int pl, .int yd, .int wy, .int pce_, .ref qal, .ref qco])), (qtx, .inl (cI, 200, .inl tx))] (S := Unit) (fun (r : Int32) (u : Unit) => r = lk tx ln at_) (fun _ => [(q, .inr (10, [.ref qtx, .int (nI ln), .int fa, .ref qlw, .ref qgp, .ref qhm, .ref qpcs, .ref qdl, .ref qdg, .ref qdh, .ref qdp, .int dr, .int tl, .ref qnw, .ref qps, .int (nI dn), .ref qim, .ref qisd, .ref qkp, .int sd, .ref qfd, .int (nI fn), .ref qbk, .int (nI en), .int (nI at_), .int (nI wr), .int pl, .int yd, .int wy, .int pce_, .ref qal, .ref qco])), (qtx, .inl (cI, 200, .inl tx))]) := by
  refine CI.intro (by decide) (Nat.le_of_ble_eq_true rfl) ?_
  intro p0 e0 s0 m0 ar0 be0 me0 c0 A0 X hr
  refine J_aload_n (pc := 0) X 0 dX10_look_0 rfl ?_
  refine J_get (pc := 1) X clX10 0 24 rfl (by decide) g913 rfl dX10_look_1 ?_
  refine J_aload_n (pc := 4) X 0 dX10_look_4 rfl ?_
  refine J_get (pc := 5) X clX10 0 1 rfl (by decide) g890 rfl dX10_look_5 ?_
  refine J_icmp_ge (pc := 8) X 23 dX10_look_8 (by decide) (fun c_1 => ?_) (fun c_1 => ?_)
  · have c_1 : ln ≤ at_ := n_le_of (a := ln) (b := at_) (by omega) (by omega) c_1
    refine J_iconst (pc := 23) X (-1) dX10_look_23 (by decide) ?_
    refine J_iret (pc := 24) X hr () dX10_look_24 ?_ rfl
    first | exact (if_pos (by assumption)).symm | exact (if_neg (by omega)).symm
  · have c_1 : at_ < ln := n_nle_of (a := ln) (b := at_) (by omega) (by omega) c_1
    refine J_aload_n (pc := 11) X 0 dX10_look_11 rfl ?_
    refine J_get (pc := 12) X clX10 0 0 rfl (by decide) g889 rfl dX10_look_12 ?_
    refine J_aload_n (pc := 15) X 0 dX10_look_15 rfl ?_
    refine J_get (pc := 16) X clX10 0 24 rfl (by decide) g913 rfl dX10_look_16 ?_
    refine J_iald (pc := 19) X 1 0 at_ rfl rfl rfl (by omega) (by decide) dX10_look_19 ?_
    refine J_goto (pc := 20) X 24 dX10_look_20 (by decide) ?_
    refine J_iret (pc := 24) X hr () dX10_look_24 ?_ rfl
    first | exact (if_pos (by assumption)).symm | exact (if_neg (by omega)).symm
set_option maxRecDepth 100000 in
set_option maxHeartbeats 600000 in
theorem kX10_fails (l : Launch) (G : va_G) (cI cC cZ : ClassId) (q : Nat) (qtx : Nat) (qlw : Nat) (qgp : Nat) (qhm : Nat) (qpcs : Nat) (qdl : Nat) (qdg : Nat) (qdh : Nat) (qdp : Nat) (qnw : Nat) (qps : Nat) (qim : Nat) (qisd : Nat) (qkp : Nat) (qfd : Nat) (qbk : Nat) (qal : Nat) (qco : Nat) (ln : Nat) (fa : Int32) (dr : Int32) (dn : Nat) (sd : Int32) (fn : Nat) (en : Nat) (at_ : Nat) (wr : Nat) (pl : Int32) (yd : Int32) (wy : Int32) (pce_ : Int32) (tl : Int32) (f : Nat) (hwr : wr ≤ 4) (hf : f ≤ 4) : CV l G (tys3 cI cC cZ) yX10_fails cX10_fails 2 ({ frames := 0, cells := 0, slots := 0, locals := 0 }) [.ref q, .int (nI f)] [(q, .inr (10, [.ref qtx, .int (nI ln), .int fa, .ref qlw, .ref qgp, .ref qhm, .ref qpcs, .ref qdl, .ref qdg, .ref qdh, .ref qdp, .int dr, .int tl, .ref qnw, .ref qps, .int (nI dn), .ref qim, .ref qisd, .ref qkp, .int sd, .ref qfd, .int (nI fn), .ref qbk, .int (nI en), .int (nI at_), .int (nI wr), .int pl, .int yd, .int wy, .int pce_, .ref qal, .ref qco]))] (S := Nat) (fun (u : Nat) => (wr = 0 ∧ u = f) ∨ (¬ wr = 0 ∧ u = wr)) (fun (u : Nat) => [(q, .inr (10, [.ref qtx, .int (nI ln), .int fa, .ref qlw, .ref qgp, .ref qhm, .ref qpcs, .ref qdl, .ref qdg, .ref qdh, .ref qdp, .int dr, .int tl, .ref qnw, .ref qps, .int (nI dn), .ref qim, .ref qisd, .ref qkp, .int sd, .ref qfd, .int (nI fn), .ref qbk, .int (nI en), .int (nI at_), .int (nI u), .int pl, .int yd, .int wy, .int pce_, .ref qal, .ref qco]))]) := by
  refine CV.intro (by decide) (Nat.le_of_ble_eq_true rfl) ?_
  intro p0 e0 s0 m0 ar0 be0 me0 c0 A0 X hr
  refine J_aload_n (pc := 0) X 0 dX10_fails_0 rfl ?_
  refine J_aload_n (pc := 1) X 0 dX10_fails_1 rfl ?_
  refine J_get (pc := 2) X clX10 0 25 rfl (by decide) g914 rfl dX10_fails_2 ?_
  refine J_if_ne (pc := 5) X 12 dX10_fails_5 (by decide) (fun c_1 => ?_) (fun c_1 => ?_)
  · have c_1 : ¬ wr = 0 := n_ne_of (a := wr) (b := 0) (by omega) (by omega) c_1
    refine J_aload_n (pc := 12) X 0 dX10_fails_12 rfl ?_
    refine J_get (pc := 13) X clX10 0 25 rfl (by decide) g914 rfl dX10_fails_13 ?_
    refine J_put (pc := 16) X clX10 0 25 [(q, .inr (10, [.ref qtx, .int (nI ln), .int fa, .ref qlw, .ref qgp, .ref qhm, .ref qpcs, .ref qdl, .ref qdg, .ref qdh, .ref qdp, .int dr, .int tl, .ref qnw, .ref qps, .int (nI dn), .ref qim, .ref qisd, .ref qkp, .int sd, .ref qfd, .int (nI fn), .ref qbk, .int (nI en), .int (nI at_), .int (nI wr), .int pl, .int yd, .int wy, .int pce_, .ref qal, .ref qco]))] rfl (by decide) g914 rfl rfl rfl (Nat.le_of_ble_eq_true rfl) rfl dX10_fails_16 ?_
    refine J_vret (pc := 19) X hr wr dX10_fails_19 ?_ rfl
    omega
  · have c_1 : wr = 0 := n_eq_of (a := wr) (b := 0) (by omega) (by omega) c_1
    refine J_iload_n (pc := 8) X 1 dX10_fails_8 rfl ?_
    refine J_goto (pc := 9) X 16 dX10_fails_9 (by decide) ?_
    refine J_put (pc := 16) X clX10 0 25 [(q, .inr (10, [.ref qtx, .int (nI ln), .int fa, .ref qlw, .ref qgp, .ref qhm, .ref qpcs, .ref qdl, .ref qdg, .ref qdh, .ref qdp, .int dr, .int tl, .ref qnw, .ref qps, .int (nI dn), .ref qim, .ref qisd, .ref qkp, .int sd, .ref qfd, .int (nI fn), .ref qbk, .int (nI en), .int (nI at_), .int (nI f), .int pl, .int yd, .int wy, .int pce_, .ref qal, .ref qco]))] rfl (by decide) g914 rfl rfl rfl (Nat.le_of_ble_eq_true rfl) rfl dX10_fails_16 ?_
    refine J_vret (pc := 19) X hr f dX10_fails_19 ?_ rfl
    omega
set_option maxRecDepth 100000 in
set_option maxHeartbeats 600000 in
theorem kX10_skips (l : Launch) (G : va_G) (cI cC cZ : ClassId) (q : Nat) (qtx : Nat) (qlw : Nat) (qgp : Nat) (qhm : Nat) (qpcs : Nat) (qdl : Nat) (qdg : Nat) (qdh : Nat) (qdp : Nat) (qnw : Nat) (qps : Nat) (qim : Nat) (qisd : Nat) (qkp : Nat) (qfd : Nat) (qbk : Nat) (qal : Nat) (qco : Nat) (ln : Nat) (fa : Int32) (dr : Int32) (dn : Nat) (sd : Int32) (fn : Nat) (en : Nat) (at_ : Nat) (wr : Nat) (pl : Int32) (yd : Int32) (wy : Int32) (pce_ : Int32) (tl : Int32) (tx : Nat → Int32) (hln : ln ≤ 200) (hat : at_ ≤ ln) (hwr : wr ≤ 4) : CV l G (tys3 cI cC cZ) yX10_skips cX10_skips 1 ({ frames := 1, cells := 0, slots := 0, locals := 20 }) [.ref q] [(q, .inr (10, [.ref qtx, .int (nI ln), .int fa, .ref qlw, .ref qgp, .ref qhm, .ref qpcs, .ref qdl, .ref qdg, .ref qdh, .ref qdp, .int dr, .int tl, .ref qnw, .ref qps, .int (nI dn), .ref qim, .ref qisd, .ref qkp, .int sd, .ref qfd, .int (nI fn), .ref qbk, .int (nI en), .int (nI at_), .int (nI wr), .int pl, .int yd, .int wy, .int pce_, .ref qal, .ref qco])), (qtx, .inl (cI, 200, .inl tx))] (S := Nat) (fun (u : Nat) => u = skS tx ln wr at_ ∧ u ≤ ln) (fun (u : Nat) => [(q, .inr (10, [.ref qtx, .int (nI ln), .int fa, .ref qlw, .ref qgp, .ref qhm, .ref qpcs, .ref qdl, .ref qdg, .ref qdh, .ref qdp, .int dr, .int tl, .ref qnw, .ref qps, .int (nI dn), .ref qim, .ref qisd, .ref qkp, .int sd, .ref qfd, .int (nI fn), .ref qbk, .int (nI en), .int (nI u), .int (nI wr), .int pl, .int yd, .int wy, .int pce_, .ref qal, .ref qco])), (qtx, .inl (cI, 200, .inl tx))]) := by
  refine CV.intro (by decide) (Nat.le_of_ble_eq_true rfl) ?_
  intro p0 e0 s0 m0 ar0 be0 me0 c0 A0 X hr
  have L_0 : ∀ (n_0 : Nat) (i : Nat) (hi : i ≤ ln) (hs : skF tx ln (ln - i) i = sk tx ln at_) (hw : wr = 0 ∨ i = at_), (ln - i) < n_0 → JJ p0 l e0 ({ frames := 1, cells := 0, slots := 0, locals := 20 }) s0 m0 ar0 be0 me0 c0 A0 G 1 0 0 (QV be0 ar0 s0 A0 G (tys3 cI cC cZ) (S := Nat) (fun (u : Nat) => u = skS tx ln wr at_ ∧ u ≤ ln) (fun (u : Nat) => [(q, .inr (10, [.ref qtx, .int (nI ln), .int fa, .ref qlw, .ref qgp, .ref qhm, .ref qpcs, .ref qdl, .ref qdg, .ref qdh, .ref qdp, .int dr, .int tl, .ref qnw, .ref qps, .int (nI dn), .ref qim, .ref qisd, .ref qkp, .int sd, .ref qfd, .int (nI fn), .ref qbk, .int (nI en), .int (nI u), .int (nI wr), .int pl, .int yd, .int wy, .int pce_, .ref qal, .ref qco])), (qtx, .inl (cI, 200, .inl tx))])) [(q, .inr (10, [.ref qtx, .int (nI ln), .int fa, .ref qlw, .ref qgp, .ref qhm, .ref qpcs, .ref qdl, .ref qdg, .ref qdh, .ref qdp, .int dr, .int tl, .ref qnw, .ref qps, .int (nI dn), .ref qim, .ref qisd, .ref qkp, .int sd, .ref qfd, .int (nI fn), .ref qbk, .int (nI en), .int (nI i), .int (nI wr), .int pl, .int yd, .int wy, .int pce_, .ref qal, .ref qco])), (qtx, .inl (cI, 200, .inl tx))] 0 [(0, .ref q)] [] := by
    intro n_0
    induction n_0 with
    | zero => intro i hi hs hw hm_0; exact absurd hm_0 (Nat.not_lt_zero _)
    | succ n_0 ih_0 =>
      intro i hi hs hw hm_0
      refine J_aload_n (pc := 0) X 0 dX10_skips_0 rfl ?_
      refine J_get (pc := 1) X clX10 0 25 rfl (by decide) g914 rfl dX10_skips_1 ?_
      refine J_if_ne (pc := 4) X 29 dX10_skips_4 (by decide) (fun c_1 => ?_) (fun c_1 => ?_)
      · have c_1 : ¬ wr = 0 := n_ne_of (a := wr) (b := 0) (by omega) (by omega) c_1
        refine J_vret (pc := 29) X hr i dX10_skips_29 ?_ rfl
        refine ⟨?_, hi⟩
        first | (rw [skS_t (by omega), ← hs, sk_stop (by assumption)]; done) | (rw [skS_f (by omega)]; omega)
      · have c_1 : wr = 0 := n_eq_of (a := wr) (b := 0) (by omega) (by omega) c_1
        refine J_aload_n (pc := 7) X 0 dX10_skips_7 rfl ?_
        refine J_callR (pc := 8) (As := []) (rest := []) X mtX10_look g1003 [0, 1] 0 (kX10_look l G cI cC cZ q qtx qlw qgp qhm qpcs qdl qdg qdh qdp qnw qps qim qisd qkp qfd qbk qal qco ln fa dr dn sd fn en i wr pl yd wy pce_ tl tx (by first | assumption | omega) (by first | assumption | omega)) ⟨Nat.le_of_ble_eq_true rfl, Nat.le_of_ble_eq_true rfl⟩ rfl rfl rfl (by decide) rfl rfl rfl rfl rfl (Nat.le_of_ble_eq_true rfl) (Nat.zero_le _) (Nat.zero_le _) dX10_skips_8 (fun r_2 u_3 w_4 => ?_)
        try dsimp only at w_4
        subst w_4
        refine J_bipush (pc := 11) X 32 dX10_skips_11 (by decide) ?_
        refine J_icmp_ne (pc := 13) X 29 dX10_skips_13 (by decide) (fun c_5 => ?_) (fun c_5 => ?_)
        · skip
          refine J_vret (pc := 29) X hr i dX10_skips_29 ?_ rfl
          refine ⟨?_, hi⟩
          first | (rw [skS_t (by omega), ← hs, sk_stop (by assumption)]; done) | (rw [skS_f (by omega)]; omega)
        · skip
          have hlt9 : i + 1 ≤ ln := lk_lt (tx := tx) (by assumption) (by decide)
          refine J_aload_n (pc := 16) X 0 dX10_skips_16 rfl ?_
          refine J_dup (pc := 17) X dX10_skips_17 rfl ?_
          refine J_get (pc := 18) X clX10 0 24 rfl (by decide) g913 rfl dX10_skips_18 ?_
          refine J_iconst (pc := 21) X 1 dX10_skips_21 (by decide) ?_
          refine J_iadd (pc := 22) X dX10_skips_22 ?_
          refine J_top (y := nI (i + 1)) (n_add (x := i) (y := 1) rfl rfl (by omega)) ?_
          refine J_put (pc := 23) X clX10 0 24 [(q, .inr (10, [.ref qtx, .int (nI ln), .int fa, .ref qlw, .ref qgp, .ref qhm, .ref qpcs, .ref qdl, .ref qdg, .ref qdh, .ref qdp, .int dr, .int tl, .ref qnw, .ref qps, .int (nI dn), .ref qim, .ref qisd, .ref qkp, .int sd, .ref qfd, .int (nI fn), .ref qbk, .int (nI en), .int (nI (i + 1)), .int (nI wr), .int pl, .int yd, .int wy, .int pce_, .ref qal, .ref qco])), (qtx, .inl (cI, 200, .inl tx))] rfl (by decide) g913 rfl rfl rfl (Nat.le_of_ble_eq_true rfl) rfl dX10_skips_23 ?_
          refine J_goto (pc := 26) X 0 dX10_skips_26 (by decide) ?_
          refine J_loc [0] (lv2 := [(0, .ref q)]) rfl ?_
          exact ih_0  (i + 1) hlt9 (sk_go hs (by assumption)) (by first | assumption | omega | simp_all) (by omega)
  refine J_loc [0] (lv2 := [(0, .ref q)]) rfl ?_
  exact L_0 _  at_ (by first | assumption | omega | simp_all) rfl (by first | assumption | omega | simp_all) (Nat.lt_succ_self _)
set_option maxRecDepth 100000 in
set_option maxHeartbeats 600000 in
theorem kX10_word (l : Launch) (G : va_G) (cI cC cZ : ClassId) (q : Nat) (qtx : Nat) (qlw : Nat) (qgp : Nat) (qhm : Nat) (qpcs : Nat) (qdl : Nat) (qdg : Nat) (qdh : Nat) (qdp : Nat) (qnw : Nat) (qps : Nat) (qim : Nat) (qisd : Nat) (qkp : Nat) (qfd : Nat) (qbk : Nat) (qal : Nat) (qco : Nat) (ln : Nat) (fa : Int32) (dr : Int32) (dn : Nat) (sd : Int32) (fn : Nat) (en : Nat) (at_ : Nat) (wr : Nat) (pl : Int32) (yd : Int32) (wy : Int32) (pce_ : Int32) (tl : Int32) (tx : Nat → Int32) (cl : Int32) (hln : ln ≤ 200) (hat : at_ ≤ ln) (hwr : wr ≤ 4) (hcl : ¬ cl = -1) : CV l G (tys3 cI cC cZ) yX10_word cX10_word 2 ({ frames := 2, cells := 0, slots := 0, locals := 40 }) [.ref q, .int cl] [(q, .inr (10, [.ref qtx, .int (nI ln), .int fa, .ref qlw, .ref qgp, .ref qhm, .ref qpcs, .ref qdl, .ref qdg, .ref qdh, .ref qdp, .int dr, .int tl, .ref qnw, .ref qps, .int (nI dn), .ref qim, .ref qisd, .ref qkp, .int sd, .ref qfd, .int (nI fn), .ref qbk, .int (nI en), .int (nI at_), .int (nI wr), .int pl, .int yd, .int wy, .int pce_, .ref qal, .ref qco])), (qtx, .inl (cI, 200, .inl tx))] (S := Nat × Nat) (fun (u : Nat × Nat) => (u.1, u.2) = wdS tx ln cl at_ wr ∧ u.1 ≤ ln ∧ u.2 ≤ 4) (fun (u : Nat × Nat) => [(q, .inr (10, [.ref qtx, .int (nI ln), .int fa, .ref qlw, .ref qgp, .ref qhm, .ref qpcs, .ref qdl, .ref qdg, .ref qdh, .ref qdp, .int dr, .int tl, .ref qnw, .ref qps, .int (nI dn), .ref qim, .ref qisd, .ref qkp, .int sd, .ref qfd, .int (nI fn), .ref qbk, .int (nI en), .int (nI u.1), .int (nI u.2), .int pl, .int yd, .int wy, .int pce_, .ref qal, .ref qco])), (qtx, .inl (cI, 200, .inl tx))]) := by
  refine CV.intro (by decide) (Nat.le_of_ble_eq_true rfl) ?_
  intro p0 e0 s0 m0 ar0 be0 me0 c0 A0 X hr
  refine J_aload_n (pc := 0) X 0 dX10_word_0 rfl ?_
  refine J_callV (pc := 1) (As := []) (rest := []) X mtX10_skips g999 [0, 1] [] [0, 1] 0 (fun u => [(q, .inr (10, [.ref qtx, .int (nI ln), .int fa, .ref qlw, .ref qgp, .ref qhm, .ref qpcs, .ref qdl, .ref qdg, .ref qdh, .ref qdp, .int dr, .int tl, .ref qnw, .ref qps, .int (nI dn), .ref qim, .ref qisd, .ref qkp, .int sd, .ref qfd, .int (nI fn), .ref qbk, .int (nI en), .int (nI u), .int (nI wr), .int pl, .int yd, .int wy, .int pce_, .ref qal, .ref qco])), (qtx, .inl (cI, 200, .inl tx))]) (kX10_skips l G cI cC cZ q qtx qlw qgp qhm qpcs qdl qdg qdh qdp qnw qps qim qisd qkp qfd qbk qal qco ln fa dr dn sd fn en at_ wr pl yd wy pce_ tl tx (by first | assumption | omega) (by first | assumption | omega) (by first | assumption | omega)) ⟨Nat.le_of_ble_eq_true rfl, Nat.le_of_ble_eq_true rfl⟩ rfl rfl rfl (by decide) (wr := []) rfl (by decide) (by decide) (fun _ => rfl) (by decide) rfl rfl rfl rfl rfl (Nat.le_of_ble_eq_true rfl) (Nat.zero_le _) (Nat.zero_le _) dX10_word_1 (fun u_2 w_3 => ?_)
  obtain ⟨at2_u_2, rfl⟩ : ∃ z, z = u_2 := ⟨_, rfl⟩
  try dsimp only at w_3
  obtain ⟨hk1, hk2⟩ := w_3
  refine J_aload_n (pc := 4) X 0 dX10_word_4 rfl ?_
  refine J_get (pc := 5) X clX10 0 25 rfl (by decide) g914 rfl dX10_word_5 ?_
  refine J_if_ne (pc := 8) X 37 dX10_word_8 (by decide) (fun c_4 => ?_) (fun c_4 => ?_)
  · have c_4 : ¬ wr = 0 := n_ne_of (a := wr) (b := 0) (by omega) (by omega) c_4
    refine J_vret (pc := 37) X hr (at2_u_2, wr) dX10_word_37 ?_ rfl
    first | (rw [wdS, if_neg (by omega)]; rw [skS_f (by omega)] at hk1; exact ⟨by rw [hk1], by omega, by omega⟩) | (rw [wdS, if_pos (by omega)]; rw [skS_t (by omega)] at hk1; rw [← hk1]; first | exact ⟨by rw [if_pos (by assumption), show wr = 0 from by omega], by have := lk_lt (tx := tx) (by assumption) hcl; omega, by omega⟩ | exact ⟨by rw [if_neg (by assumption)]; exact congrArg (Prod.mk _) (by omega), by omega, by omega⟩)
  · have c_4 : wr = 0 := n_eq_of (a := wr) (b := 0) (by omega) (by omega) c_4
    refine J_aload_n (pc := 11) X 0 dX10_word_11 rfl ?_
    refine J_callR (pc := 12) (As := []) (rest := []) X mtX10_look g1003 [0, 1] 0 (kX10_look l G cI cC cZ q qtx qlw qgp qhm qpcs qdl qdg qdh qdp qnw qps qim qisd qkp qfd qbk qal qco ln fa dr dn sd fn en at2_u_2 wr pl yd wy pce_ tl tx (by first | assumption | omega) (by first | assumption | omega)) ⟨Nat.le_of_ble_eq_true rfl, Nat.le_of_ble_eq_true rfl⟩ rfl rfl rfl (by decide) rfl rfl rfl rfl rfl (Nat.le_of_ble_eq_true rfl) (Nat.zero_le _) (Nat.zero_le _) dX10_word_12 (fun r_5 u_6 w_7 => ?_)
    try dsimp only at w_7
    subst w_7
    refine J_iload_n (pc := 15) X 1 dX10_word_15 rfl ?_
    refine J_icmp_ne (pc := 16) X 32 dX10_word_16 (by decide) (fun c_8 => ?_) (fun c_8 => ?_)
    · skip
      refine J_aload_n (pc := 32) X 0 dX10_word_32 rfl ?_
      refine J_iconst (pc := 33) X 1 dX10_word_33 (by decide) ?_
      refine J_callV (pc := 34) (As := [.int 1]) (rest := []) X mtX10_fails g1015 [0] [1] [1, 0] 0 (fun u => [(q, .inr (10, [.ref qtx, .int (nI ln), .int fa, .ref qlw, .ref qgp, .ref qhm, .ref qpcs, .ref qdl, .ref qdg, .ref qdh, .ref qdp, .int dr, .int tl, .ref qnw, .ref qps, .int (nI dn), .ref qim, .ref qisd, .ref qkp, .int sd, .ref qfd, .int (nI fn), .ref qbk, .int (nI en), .int (nI at2_u_2), .int (nI u), .int pl, .int yd, .int wy, .int pce_, .ref qal, .ref qco])), (qtx, .inl (cI, 200, .inl tx))]) (kX10_fails l G cI cC cZ q qtx qlw qgp qhm qpcs qdl qdg qdh qdp qnw qps qim qisd qkp qfd qbk qal qco ln fa dr dn sd fn en at2_u_2 wr pl yd wy pce_ tl 1 (by first | assumption | omega) (by first | assumption | omega)) ⟨Nat.le_of_ble_eq_true rfl, Nat.le_of_ble_eq_true rfl⟩ rfl rfl rfl (by decide) (wr := [(qtx, .inl (cI, 200, .inl tx))]) rfl (by decide) (by decide) (fun _ => rfl) (by decide) rfl rfl rfl rfl rfl (Nat.le_of_ble_eq_true rfl) (Nat.zero_le _) (Nat.zero_le _) dX10_word_34 (fun u_10 w_11 => ?_)
      obtain ⟨wr2_u_10, rfl⟩ : ∃ z, z = u_10 := ⟨_, rfl⟩
      try dsimp only at w_11
      have hfw := w_11
      refine J_vret (pc := 37) X hr (at2_u_2, wr2_u_10) dX10_word_37 ?_ rfl
      first | (rw [wdS, if_neg (by omega)]; rw [skS_f (by omega)] at hk1; exact ⟨by rw [hk1], by omega, by omega⟩) | (rw [wdS, if_pos (by omega)]; rw [skS_t (by omega)] at hk1; rw [← hk1]; first | exact ⟨by rw [if_pos (by assumption), show wr = 0 from by omega], by have := lk_lt (tx := tx) (by assumption) hcl; omega, by omega⟩ | exact ⟨by rw [if_neg (by assumption)]; exact congrArg (Prod.mk _) (by omega), by omega, by omega⟩)
    · skip
      refine J_aload_n (pc := 19) X 0 dX10_word_19 rfl ?_
      refine J_dup (pc := 20) X dX10_word_20 rfl ?_
      refine J_get (pc := 21) X clX10 0 24 rfl (by decide) g913 rfl dX10_word_21 ?_
      refine J_iconst (pc := 24) X 1 dX10_word_24 (by decide) ?_
      refine J_iadd (pc := 25) X dX10_word_25 ?_
      refine J_top (y := nI (at2_u_2 + 1)) (n_add (x := at2_u_2) (y := 1) rfl rfl (by omega)) ?_
      refine J_put (pc := 26) X clX10 0 24 [(q, .inr (10, [.ref qtx, .int (nI ln), .int fa, .ref qlw, .ref qgp, .ref qhm, .ref qpcs, .ref qdl, .ref qdg, .ref qdh, .ref qdp, .int dr, .int tl, .ref qnw, .ref qps, .int (nI dn), .ref qim, .ref qisd, .ref qkp, .int sd, .ref qfd, .int (nI fn), .ref qbk, .int (nI en), .int (nI (at2_u_2 + 1)), .int (nI wr), .int pl, .int yd, .int wy, .int pce_, .ref qal, .ref qco])), (qtx, .inl (cI, 200, .inl tx))] rfl (by decide) g913 rfl rfl rfl (Nat.le_of_ble_eq_true rfl) rfl dX10_word_26 ?_
      refine J_goto (pc := 29) X 37 dX10_word_29 (by decide) ?_
      refine J_vret (pc := 37) X hr ((at2_u_2 + 1), wr) dX10_word_37 ?_ rfl
      first | (rw [wdS, if_neg (by omega)]; rw [skS_f (by omega)] at hk1; exact ⟨by rw [hk1], by omega, by omega⟩) | (rw [wdS, if_pos (by omega)]; rw [skS_t (by omega)] at hk1; rw [← hk1]; first | exact ⟨by rw [if_pos (by assumption), show wr = 0 from by omega], by have := lk_lt (tx := tx) (by assumption) hcl; omega, by omega⟩ | exact ⟨by rw [if_neg (by assumption)]; exact congrArg (Prod.mk _) (by omega), by omega, by omega⟩)
