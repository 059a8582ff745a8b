set_option maxRecDepth 100000 in
set_option maxHeartbeats 600000 in
theorem kX10_number (l : Launch) (G : va_G) (cI cC cZ : ClassId) (q : Nat) (qtx : Nat) (qlw : Nat) (qgp : Nat) (qhm : Nat) (qpcs : Nat) (qdl : Nat) (qdg : Nat) (qdh : Nat) (qdp : Nat) (qnw : Nat) (qps : Nat) (qim : Nat) (qisd : Nat) (qkp : Nat) (qfd : Nat) (qbk : Nat) (qal : Nat) (qco : Nat) (ln : Nat) (fa : Int32) (dr : Int32) (dn : Nat) (sd : Int32) (fn : Nat) (en : Nat) (at_ : Nat) (wr : Nat) (pl : Int32) (yd : Int32) (wy : Int32) (pce_ : Int32) (tl : Int32) (tx : Nat → Int32) (lo : Int32) (hi_ : Int32) (hln : ln ≤ 200) (hat : at_ ≤ ln) (hwr : wr ≤ 4) : CI l G (tys3 cI cC cZ) yX10_number cX10_number 5 (some .int) ({ frames := 2, cells := 0, slots := 0, locals := 40 }) [.ref q, .int lo, .int hi_] [(q, .inr (10, [.ref qtx, .int (nI ln), .int fa, .ref qlw, .ref qgp, .ref qhm, .ref qpcs, .ref qdl, .ref qdg, .ref qdh, .ref qdp, .int dr, .int tl, .ref qnw, .ref qps, .int (nI dn), .ref qim, .ref qisd, .ref qkp, .int sd, .ref qfd, .int (nI fn), .ref qbk, .int (nI en), .int (nI at_), .int (nI wr), .int pl, .int yd, .int wy, .int pce_, .ref qal, .ref qco])), (qtx, .inl (cI, 200, .inl tx))] (S := Nat × Nat) (fun (r : Int32) (u : Nat × Nat) => (u.1, u.2, r) = nmS tx ln lo hi_ at_ wr ∧ u.1 ≤ ln ∧ u.2 ≤ 4) (fun (u : Nat × Nat) => [(q, .inr (10, [.ref qtx, .int (nI ln), .int fa, .ref qlw, .ref qgp, .ref qhm, .ref qpcs, .ref qdl, .ref qdg, .ref qdh, .ref qdp, .int dr, .int tl, .ref qnw, .ref qps, .int (nI dn), .ref qim, .ref qisd, .ref qkp, .int sd, .ref qfd, .int (nI fn), .ref qbk, .int (nI en), .int (nI u.1), .int (nI u.2), .int pl, .int yd, .int wy, .int pce_, .ref qal, .ref qco])), (qtx, .inl (cI, 200, .inl tx))]) := by
  refine CI.intro (by decide) (Nat.le_of_ble_eq_true rfl) ?_
  intro p0 e0 s0 m0 ar0 be0 me0 c0 A0 X hr
  refine J_aload_n (pc := 0) X 0 dX10_number_0 rfl ?_
  refine J_callV (pc := 1) (As := []) (rest := []) X mtX10_skips g999 [0, 1] [] [0, 1] 0 (fun u => [(q, .inr (10, [.ref qtx, .int (nI ln), .int fa, .ref qlw, .ref qgp, .ref qhm, .ref qpcs, .ref qdl, .ref qdg, .ref qdh, .ref qdp, .int dr, .int tl, .ref qnw, .ref qps, .int (nI dn), .ref qim, .ref qisd, .ref qkp, .int sd, .ref qfd, .int (nI fn), .ref qbk, .int (nI en), .int (nI u), .int (nI wr), .int pl, .int yd, .int wy, .int pce_, .ref qal, .ref qco])), (qtx, .inl (cI, 200, .inl tx))]) (kX10_skips l G cI cC cZ q qtx qlw qgp qhm qpcs qdl qdg qdh qdp qnw qps qim qisd qkp qfd qbk qal qco ln fa dr dn sd fn en at_ wr pl yd wy pce_ tl tx (by first | assumption | omega) (by first | assumption | omega) (by first | assumption | omega)) ⟨Nat.le_of_ble_eq_true rfl, Nat.le_of_ble_eq_true rfl⟩ rfl rfl rfl (by decide) (wr := []) rfl (by decide) (by decide) (fun _ => rfl) (by decide) rfl rfl rfl rfl rfl (Nat.le_of_ble_eq_true rfl) (Nat.zero_le _) (Nat.zero_le _) dX10_number_1 (fun u_2 w_3 => ?_)
  obtain ⟨i1, rfl⟩ : ∃ z, z = u_2 := ⟨_, rfl⟩
  try dsimp only at w_3
  obtain ⟨hk1, hk2⟩ := w_3
  refine J_aload_n (pc := 4) X 0 dX10_number_4 rfl ?_
  refine J_get (pc := 5) X clX10 0 25 rfl (by decide) g914 rfl dX10_number_5 ?_
  refine J_if_eq (pc := 8) X 13 dX10_number_8 (by decide) (fun c_4 => ?_) (fun c_4 => ?_)
  · have c_4 : wr = 0 := n_eq_of (a := wr) (b := 0) (by omega) (by omega) c_4
    refine J_aload_n (pc := 13) X 0 dX10_number_13 rfl ?_
    refine J_callR (pc := 14) (As := []) (rest := []) X mtX10_look g1003 [0, 1] 0 (kX10_look l G cI cC cZ q qtx qlw qgp qhm qpcs qdl qdg qdh qdp qnw qps qim qisd qkp qfd qbk qal qco ln fa dr dn sd fn en i1 wr pl yd wy pce_ tl tx (by first | assumption | omega) (by first | assumption | omega)) ⟨Nat.le_of_ble_eq_true rfl, Nat.le_of_ble_eq_true rfl⟩ rfl rfl rfl (by decide) rfl rfl rfl rfl rfl (Nat.le_of_ble_eq_true rfl) (Nat.zero_le _) (Nat.zero_le _) dX10_number_14 (fun r_5 u_6 w_7 => ?_)
    try dsimp only at w_7
    subst w_7
    refine J_bipush (pc := 17) X 48 dX10_number_17 (by decide) ?_
    refine J_bipush (pc := 19) X 57 dX10_number_19 (by decide) ?_
    refine J_callS (pc := 21) (As := [.int (lk tx ln i1), .int 48, .int 57]) (rest := []) X mtX10_in g990 [] (kX10_in l G cI cC cZ (lk tx ln i1) 48 57 ) ⟨Nat.le_of_ble_eq_true rfl, Nat.le_of_ble_eq_true rfl⟩ rfl rfl rfl (by decide) rfl rfl (Nat.le_of_ble_eq_true rfl) (Nat.zero_le _) (Nat.zero_le _) dX10_number_21 (fun r_8 u_9 w_10 => ?_)
    try dsimp only at w_10
    subst w_10
    refine J_bif_ne (pc := 24) X 34 dX10_number_24 (by decide) (fun c_11 => ?_) (fun c_11 => ?_)
    · skip
      have hd0 := c_11
      refine J_aload_n (pc := 34) X 0 dX10_number_34 rfl ?_
      refine J_get (pc := 35) X clX10 0 24 rfl (by decide) g913 rfl dX10_number_35 ?_
      refine J_istore_n (pc := 38) X [(3, .int (nI i1)), (0, .ref q), (1, .int lo), (2, .int hi_)] dX10_number_38 (by decide) rfl ?_
      refine J_iconst (pc := 39) X 0 dX10_number_39 (by decide) ?_
      refine J_istore (pc := 40) X [(4, .int 0), (3, .int (nI i1)), (0, .ref q), (1, .int lo), (2, .int hi_)] dX10_number_40 (by decide) rfl ?_
      have L_42 : ∀ (n_42 : Nat) (i : Nat) (v : Int32) (hi : i ≤ ln) (hi2 : i1 ≤ i) (hs : scF tx ln i1 (ln - i) i v = sc tx ln i1), (ln - i) < n_42 → JJ p0 l e0 ({ frames := 2, cells := 0, slots := 0, locals := 40 }) s0 m0 ar0 be0 me0 c0 A0 G 5 0 0 (QI be0 ar0 s0 A0 G (tys3 cI cC cZ) (S := Nat × Nat) (fun (r : Int32) (u : Nat × Nat) => (u.1, u.2, r) = nmS tx ln lo hi_ at_ wr ∧ u.1 ≤ ln ∧ u.2 ≤ 4) (fun (u : Nat × Nat) => [(q, .inr (10, [.ref qtx, .int (nI ln), .int fa, .ref qlw, .ref qgp, .ref qhm, .ref qpcs, .ref qdl, .ref qdg, .ref qdh, .ref qdp, .int dr, .int tl, .ref qnw, .ref qps, .int (nI dn), .ref qim, .ref qisd, .ref qkp, .int sd, .ref qfd, .int (nI fn), .ref qbk, .int (nI en), .int (nI u.1), .int (nI u.2), .int pl, .int yd, .int wy, .int pce_, .ref qal, .ref qco])), (qtx, .inl (cI, 200, .inl tx))])) [(q, .inr (10, [.ref qtx, .int (nI ln), .int fa, .ref qlw, .ref qgp, .ref qhm, .ref qpcs, .ref qdl, .ref qdg, .ref qdh, .ref qdp, .int dr, .int tl, .ref qnw, .ref qps, .int (nI dn), .ref qim, .ref qisd, .ref qkp, .int sd, .ref qfd, .int (nI fn), .ref qbk, .int (nI en), .int (nI i), .int (nI wr), .int pl, .int yd, .int wy, .int pce_, .ref qal, .ref qco])), (qtx, .inl (cI, 200, .inl tx))] 42 [(0, .ref q), (1, .int lo), (2, .int hi_), (3, .int (nI i1)), (4, .int v)] [] := by
        intro n_42
        induction n_42 with
        | zero => intro i v hi hi2 hs hm_42; exact absurd hm_42 (Nat.not_lt_zero _)
        | succ n_42 ih_42 =>
          intro i v hi hi2 hs hm_42
          refine J_aload_n (pc := 42) X 0 dX10_number_42 rfl ?_
          refine J_callR (pc := 43) (As := []) (rest := []) X mtX10_look g1003 [0, 1] 0 (kX10_look l G cI cC cZ q qtx qlw qgp qhm qpcs qdl qdg qdh qdp qnw qps qim qisd qkp qfd qbk qal qco ln fa dr dn sd fn en i wr pl yd wy pce_ tl tx (by first | assumption | omega) (by first | assumption | omega)) ⟨Nat.le_of_ble_eq_true rfl, Nat.le_of_ble_eq_true rfl⟩ rfl rfl rfl (by decide) rfl rfl rfl rfl rfl (Nat.le_of_ble_eq_true rfl) (Nat.zero_le _) (Nat.zero_le _) dX10_number_43 (fun r_12 u_13 w_14 => ?_)
          try dsimp only at w_14
          subst w_14
          refine J_bipush (pc := 46) X 48 dX10_number_46 (by decide) ?_
          refine J_bipush (pc := 48) X 57 dX10_number_48 (by decide) ?_
          refine J_callS (pc := 50) (As := [.int (lk tx ln i), .int 48, .int 57]) (rest := []) X mtX10_in g990 [] (kX10_in l G cI cC cZ (lk tx ln i) 48 57 ) ⟨Nat.le_of_ble_eq_true rfl, Nat.le_of_ble_eq_true rfl⟩ rfl rfl rfl (by decide) rfl rfl (Nat.le_of_ble_eq_true rfl) (Nat.zero_le _) (Nat.zero_le _) dX10_number_50 (fun r_15 u_16 w_17 => ?_)
          try dsimp only at w_17
          subst w_17
          refine J_bif_eq (pc := 53) X 99 dX10_number_53 (by decide) (fun c_18 => ?_) (fun c_18 => ?_)
          · skip
            refine J_aload_n (pc := 99) X 0 dX10_number_99 rfl ?_
            refine J_get (pc := 100) X clX10 0 24 rfl (by decide) g913 rfl dX10_number_100 ?_
            refine J_iload_n (pc := 103) X 3 dX10_number_103 rfl ?_
            refine J_isub (pc := 104) X dX10_number_104 ?_
            refine J_top (y := nI (i - i1)) (n_sub (x := i) (y := i1) rfl rfl (by omega) (by omega)) ?_
            refine J_iconst (pc := 105) X 3 dX10_number_105 (by decide) ?_
            refine J_icmp_gt (pc := 106) X 119 dX10_number_106 (by decide) (fun c_19 => ?_) (fun c_19 => ?_)
            · have c_19 : 3 < i - i1 := n_lt_of (a := 3) (b := i - i1) (by omega) (by omega) c_19
              refine J_aload_n (pc := 119) X 0 dX10_number_119 rfl ?_
              refine J_iload_n (pc := 120) X 3 dX10_number_120 rfl ?_
              refine J_put (pc := 121) X clX10 0 24 [(q, .inr (10, [.ref qtx, .int (nI ln), .int fa, .ref qlw, .ref qgp, .ref qhm, .ref qpcs, .ref qdl, .ref qdg, .ref qdh, .ref qdp, .int dr, .int tl, .ref qnw, .ref qps, .int (nI dn), .ref qim, .ref qisd, .ref qkp, .int sd, .ref qfd, .int (nI fn), .ref qbk, .int (nI en), .int (nI i1), .int (nI wr), .int pl, .int yd, .int wy, .int pce_, .ref qal, .ref qco])), (qtx, .inl (cI, 200, .inl tx))] rfl (by decide) g913 rfl rfl rfl (Nat.le_of_ble_eq_true rfl) rfl dX10_number_121 ?_
              refine J_aload_n (pc := 124) X 0 dX10_number_124 rfl ?_
              refine J_iconst (pc := 125) X 2 dX10_number_125 (by decide) ?_
              refine J_callV (pc := 126) (As := [.int 2]) (rest := []) X mtX10_fails g1015 [0] [1] [1, 0] 0 (fun u => [(q, .inr (10, [.ref qtx, .int (nI ln), .int fa, .ref qlw, .ref qgp, .ref qhm, .ref qpcs, .ref qdl, .ref qdg, .ref qdh, .ref qdp, .int dr, .int tl, .ref qnw, .ref qps, .int (nI dn), .ref qim, .ref qisd, .ref qkp, .int sd, .ref qfd, .int (nI fn), .ref qbk, .int (nI en), .int (nI i1), .int (nI u), .int pl, .int yd, .int wy, .int pce_, .ref qal, .ref qco])), (qtx, .inl (cI, 200, .inl tx))]) (kX10_fails l G cI cC cZ q qtx qlw qgp qhm qpcs qdl qdg qdh qdp qnw qps qim qisd qkp qfd qbk qal qco ln fa dr dn sd fn en i1 wr pl yd wy pce_ tl 2 (by first | assumption | omega) (by first | assumption | omega)) ⟨Nat.le_of_ble_eq_true rfl, Nat.le_of_ble_eq_true rfl⟩ rfl rfl rfl (by decide) (wr := [(qtx, .inl (cI, 200, .inl tx))]) rfl (by decide) (by decide) (fun _ => rfl) (by decide) rfl rfl rfl rfl rfl (Nat.le_of_ble_eq_true rfl) (Nat.zero_le _) (Nat.zero_le _) dX10_number_126 (fun u_21 w_22 => ?_)
              obtain ⟨wr2, rfl⟩ : ∃ z, z = u_21 := ⟨_, rfl⟩
              try dsimp only at w_22
              have hfw := w_22
              refine J_iload (pc := 129) X 4 dX10_number_129 rfl ?_
              refine J_iret (pc := 131) X hr (i1, wr2) dX10_number_131 ?_ rfl
              rw [skS_t (by omega)] at hk1
              have hsc := sc_stop hs (by assumption)
              first | exact ⟨by rw [nm_2 (by omega) hk1 hd0 hsc (Or.inl (by omega)), show wr2 = 2 from by omega], by omega, by omega⟩ | exact ⟨by rw [nm_2 (by omega) hk1 hd0 hsc (Or.inr (by assumption)), show wr2 = 2 from by omega], by omega, by omega⟩ | exact ⟨by rw [nm_0 (by omega) hk1 hd0 hsc (by omega) (by assumption), show wr = 0 from by omega], by omega, by omega⟩
            · have c_19 : i - i1 ≤ 3 := n_nlt_of (a := 3) (b := i - i1) (by omega) (by omega) c_19
              refine J_iload (pc := 109) X 4 dX10_number_109 rfl ?_
              refine J_iload_n (pc := 111) X 1 dX10_number_111 rfl ?_
              refine J_iload_n (pc := 112) X 2 dX10_number_112 rfl ?_
              refine J_callS (pc := 113) (As := [.int v, .int lo, .int hi_]) (rest := []) X mtX10_in g990 [] (kX10_in l G cI cC cZ v lo hi_ ) ⟨Nat.le_of_ble_eq_true rfl, Nat.le_of_ble_eq_true rfl⟩ rfl rfl rfl (by decide) rfl rfl (Nat.le_of_ble_eq_true rfl) (Nat.zero_le _) (Nat.zero_le _) dX10_number_113 (fun r_23 u_24 w_25 => ?_)
              try dsimp only at w_25
              subst w_25
              refine J_bif_ne (pc := 116) X 129 dX10_number_116 (by decide) (fun c_26 => ?_) (fun c_26 => ?_)
              · skip
                refine J_iload (pc := 129) X 4 dX10_number_129 rfl ?_
                refine J_iret (pc := 131) X hr (i, wr) dX10_number_131 ?_ rfl
                rw [skS_t (by omega)] at hk1
                have hsc := sc_stop hs (by assumption)
                first | exact ⟨by rw [nm_2 (by omega) hk1 hd0 hsc (Or.inl (by omega)), show wr2 = 2 from by omega], by omega, by omega⟩ | exact ⟨by rw [nm_2 (by omega) hk1 hd0 hsc (Or.inr (by assumption)), show wr2 = 2 from by omega], by omega, by omega⟩ | exact ⟨by rw [nm_0 (by omega) hk1 hd0 hsc (by omega) (by assumption), show wr = 0 from by omega], by omega, by omega⟩
              · skip
                refine J_aload_n (pc := 119) X 0 dX10_number_119 rfl ?_
                refine J_iload_n (pc := 120) X 3 dX10_number_120 rfl ?_
                refine J_put (pc := 121) X clX10 0 24 [(q, .inr (10, [.ref qtx, .int (nI ln), .int fa, .ref qlw, .ref qgp, .ref qhm, .ref qpcs, .ref qdl, .ref qdg, .ref qdh, .ref qdp, .int dr, .int tl, .ref qnw, .ref qps, .int (nI dn), .ref qim, .ref qisd, .ref qkp, .int sd, .ref qfd, .int (nI fn), .ref qbk, .int (nI en), .int (nI i1), .int (nI wr), .int pl, .int yd, .int wy, .int pce_, .ref qal, .ref qco])), (qtx, .inl (cI, 200, .inl tx))] rfl (by decide) g913 rfl rfl rfl (Nat.le_of_ble_eq_true rfl) rfl dX10_number_121 ?_
                refine J_aload_n (pc := 124) X 0 dX10_number_124 rfl ?_
                refine J_iconst (pc := 125) X 2 dX10_number_125 (by decide) ?_
                refine J_callV (pc := 126) (As := [.int 2]) (rest := []) X mtX10_fails g1015 [0] [1] [1, 0] 0 (fun u => [(q, .inr (10, [.ref qtx, .int (nI ln), .int fa, .ref qlw, .ref qgp, .ref qhm, .ref qpcs, .ref qdl, .ref qdg, .ref qdh, .ref qdp, .int dr, .int tl, .ref qnw, .ref qps, .int (nI dn), .ref qim, .ref qisd, .ref qkp, .int sd, .ref qfd, .int (nI fn), .ref qbk, .int (nI en), .int (nI i1), .int (nI u), .int pl, .int yd, .int wy, .int pce_, .ref qal, .ref qco])), (qtx, .inl (cI, 200, .inl tx))]) (kX10_fails l G cI cC cZ q qtx qlw qgp qhm qpcs qdl qdg qdh qdp qnw qps qim qisd qkp qfd qbk qal qco ln fa dr dn sd fn en i1 wr pl yd wy pce_ tl 2 (by first | assumption | omega) (by first | assumption | omega)) ⟨Nat.le_of_ble_eq_true rfl, Nat.le_of_ble_eq_true rfl⟩ rfl rfl rfl (by decide) (wr := [(qtx, .inl (cI, 200, .inl tx))]) rfl (by decide) (by decide) (fun _ => rfl) (by decide) rfl rfl rfl rfl rfl (Nat.le_of_ble_eq_true rfl) (Nat.zero_le _) (Nat.zero_le _) dX10_number_126 (fun u_28 w_29 => ?_)
                obtain ⟨wr2, rfl⟩ : ∃ z, z = u_28 := ⟨_, rfl⟩
                try dsimp only at w_29
                have hfw := w_29
                refine J_iload (pc := 129) X 4 dX10_number_129 rfl ?_
                refine J_iret (pc := 131) X hr (i1, wr2) dX10_number_131 ?_ rfl
                rw [skS_t (by omega)] at hk1
                have hsc := sc_stop hs (by assumption)
                first | exact ⟨by rw [nm_2 (by omega) hk1 hd0 hsc (Or.inl (by omega)), show wr2 = 2 from by omega], by omega, by omega⟩ | exact ⟨by rw [nm_2 (by omega) hk1 hd0 hsc (Or.inr (by assumption)), show wr2 = 2 from by omega], by omega, by omega⟩ | exact ⟨by rw [nm_0 (by omega) hk1 hd0 hsc (by omega) (by assumption), show wr = 0 from by omega], by omega, by omega⟩
          · skip
            have hlt9 := dg_lt (tx := tx) c_18
            refine J_aload_n (pc := 56) X 0 dX10_number_56 rfl ?_
            refine J_get (pc := 57) X clX10 0 24 rfl (by decide) g913 rfl dX10_number_57 ?_
            refine J_iload_n (pc := 60) X 3 dX10_number_60 rfl ?_
            refine J_isub (pc := 61) X dX10_number_61 ?_
            refine J_top (y := nI (i - i1)) (n_sub (x := i) (y := i1) rfl rfl (by omega) (by omega)) ?_
            refine J_iconst (pc := 62) X 3 dX10_number_62 (by decide) ?_
            refine J_icmp_ge (pc := 63) X 82 dX10_number_63 (by decide) (fun c_30 => ?_) (fun c_30 => ?_)
            · have c_30 : 3 ≤ i - i1 := n_le_of (a := 3) (b := i - i1) (by omega) (by omega) c_30
              refine J_iload (pc := 82) X 4 dX10_number_82 rfl ?_
              refine J_istore (pc := 84) X [(4, .int v), (0, .ref q), (1, .int lo), (2, .int hi_), (3, .int (nI i1))] dX10_number_84 (by decide) rfl ?_
              refine J_aload_n (pc := 86) X 1 dX10_number_86 rfl ?_
              refine J_dup (pc := 87) X dX10_number_87 rfl ?_
              refine J_get (pc := 88) X clX10 0 24 rfl (by decide) g913 rfl dX10_number_88 ?_
              refine J_iconst (pc := 91) X 1 dX10_number_91 (by decide) ?_
              refine J_iadd (pc := 92) X dX10_number_92 ?_
              refine J_top (y := nI (i + 1)) (n_add (x := i) (y := 1) rfl rfl (by omega)) ?_
              refine J_put (pc := 93) X clX10 0 24 [(q, .inr (10, [.ref qtx, .int (nI ln), .int fa, .ref qlw, .ref qgp, .ref qhm, .ref qpcs, .ref qdl, .ref qdg, .ref qdh, .ref qdp, .int dr, .int tl, .ref qnw, .ref qps, .int (nI dn), .ref qim, .ref qisd, .ref qkp, .int sd, .ref qfd, .int (nI fn), .ref qbk, .int (nI en), .int (nI (i + 1)), .int (nI wr), .int pl, .int yd, .int wy, .int pce_, .ref qal, .ref qco])), (qtx, .inl (cI, 200, .inl tx))] rfl (by decide) g913 rfl rfl rfl (Nat.le_of_ble_eq_true rfl) rfl dX10_number_93 ?_
              refine J_goto (pc := 96) X 42 dX10_number_96 (by decide) ?_
              refine J_loc [1, 2, 3, 4, 0] (lv2 := [(0, .ref q), (1, .int lo), (2, .int hi_), (3, .int (nI i1)), (4, .int v)]) rfl ?_
              exact ih_42  (i + 1) v (by first | assumption | omega | simp_all) (by first | assumption | omega | simp_all) (sc_go hs (by assumption) (by first | exact (if_pos (by assumption)).symm | exact (if_neg (by omega)).symm)) (by omega)
            · have c_30 : i - i1 < 3 := n_nle_of (a := 3) (b := i - i1) (by omega) (by omega) c_30
              refine J_bipush (pc := 66) X 10 dX10_number_66 (by decide) ?_
              refine J_iload (pc := 68) X 4 dX10_number_68 rfl ?_
              refine J_imul (pc := 70) X dX10_number_70 ?_
              refine J_aload_n (pc := 71) X 0 dX10_number_71 rfl ?_
              refine J_callR (pc := 72) (As := []) (rest := [.int (10 * v)]) X mtX10_look g1003 [0, 1] 0 (kX10_look l G cI cC cZ q qtx qlw qgp qhm qpcs qdl qdg qdh qdp qnw qps qim qisd qkp qfd qbk qal qco ln fa dr dn sd fn en i wr pl yd wy pce_ tl tx (by first | assumption | omega) (by first | assumption | omega)) ⟨Nat.le_of_ble_eq_true rfl, Nat.le_of_ble_eq_true rfl⟩ rfl rfl rfl (by decide) rfl rfl rfl rfl rfl (Nat.le_of_ble_eq_true rfl) (Nat.zero_le _) (Nat.zero_le _) dX10_number_72 (fun r_31 u_32 w_33 => ?_)
              try dsimp only at w_33
              subst w_33
              refine J_iadd (pc := 75) X dX10_number_75 ?_
              refine J_bipush (pc := 76) X 48 dX10_number_76 (by decide) ?_
              refine J_isub (pc := 78) X dX10_number_78 ?_
              refine J_goto (pc := 79) X 84 dX10_number_79 (by decide) ?_
              refine J_istore (pc := 84) X [(4, .int (((10 * v) + (lk tx ln i)) - 48)), (0, .ref q), (1, .int lo), (2, .int hi_), (3, .int (nI i1))] dX10_number_84 (by decide) rfl ?_
              refine J_aload_n (pc := 86) X 1 dX10_number_86 rfl ?_
              refine J_dup (pc := 87) X dX10_number_87 rfl ?_
              refine J_get (pc := 88) X clX10 0 24 rfl (by decide) g913 rfl dX10_number_88 ?_
              refine J_iconst (pc := 91) X 1 dX10_number_91 (by decide) ?_
              refine J_iadd (pc := 92) X dX10_number_92 ?_
              refine J_top (y := nI (i + 1)) (n_add (x := i) (y := 1) rfl rfl (by omega)) ?_
              refine J_put (pc := 93) X clX10 0 24 [(q, .inr (10, [.ref qtx, .int (nI ln), .int fa, .ref qlw, .ref qgp, .ref qhm, .ref qpcs, .ref qdl, .ref qdg, .ref qdh, .ref qdp, .int dr, .int tl, .ref qnw, .ref qps, .int (nI dn), .ref qim, .ref qisd, .ref qkp, .int sd, .ref qfd, .int (nI fn), .ref qbk, .int (nI en), .int (nI (i + 1)), .int (nI wr), .int pl, .int yd, .int wy, .int pce_, .ref qal, .ref qco])), (qtx, .inl (cI, 200, .inl tx))] rfl (by decide) g913 rfl rfl rfl (Nat.le_of_ble_eq_true rfl) rfl dX10_number_93 ?_
              refine J_goto (pc := 96) X 42 dX10_number_96 (by decide) ?_
              refine J_loc [1, 2, 3, 4, 0] (lv2 := [(0, .ref q), (1, .int lo), (2, .int hi_), (3, .int (nI i1)), (4, .int (((10 * v) + (lk tx ln i)) - 48))]) rfl ?_
              exact ih_42  (i + 1) (((10 * v) + (lk tx ln i)) - 48) (by first | assumption | omega | simp_all) (by first | assumption | omega | simp_all) (sc_go hs (by assumption) (by first | exact (if_pos (by assumption)).symm | exact (if_neg (by omega)).symm)) (by omega)
      refine J_loc [2, 3, 4, 1, 0] (lv2 := [(0, .ref q), (1, .int lo), (2, .int hi_), (3, .int (nI i1)), (4, .int 0)]) rfl ?_
      exact L_42 _  i1 0 (by first | assumption | omega | simp_all) (by first | assumption | omega | simp_all) rfl (Nat.lt_succ_self _)
    · skip
      refine J_aload_n (pc := 27) X 0 dX10_number_27 rfl ?_
      refine J_iconst (pc := 28) X 1 dX10_number_28 (by decide) ?_
      refine J_callV (pc := 29) (As := [.int 1]) (rest := []) X mtX10_fails g1015 [0] [1] [1, 0] 0 (fun u => [(q, .inr (10, [.ref qtx, .int (nI ln), .int fa, .ref qlw, .ref qgp, .ref qhm, .ref qpcs, .ref qdl, .ref qdg, .ref qdh, .ref qdp, .int dr, .int tl, .ref qnw, .ref qps, .int (nI dn), .ref qim, .ref qisd, .ref qkp, .int sd, .ref qfd, .int (nI fn), .ref qbk, .int (nI en), .int (nI i1), .int (nI u), .int pl, .int yd, .int wy, .int pce_, .ref qal, .ref qco])), (qtx, .inl (cI, 200, .inl tx))]) (kX10_fails l G cI cC cZ q qtx qlw qgp qhm qpcs qdl qdg qdh qdp qnw qps qim qisd qkp qfd qbk qal qco ln fa dr dn sd fn en i1 wr pl yd wy pce_ tl 1 (by first | assumption | omega) (by first | assumption | omega)) ⟨Nat.le_of_ble_eq_true rfl, Nat.le_of_ble_eq_true rfl⟩ rfl rfl rfl (by decide) (wr := [(qtx, .inl (cI, 200, .inl tx))]) rfl (by decide) (by decide) (fun _ => rfl) (by decide) rfl rfl rfl rfl rfl (Nat.le_of_ble_eq_true rfl) (Nat.zero_le _) (Nat.zero_le _) dX10_number_29 (fun u_35 w_36 => ?_)
      obtain ⟨wr2, rfl⟩ : ∃ z, z = u_35 := ⟨_, rfl⟩
      try dsimp only at w_36
      have hfw := w_36
      refine J_iconst (pc := 32) X 0 dX10_number_32 (by decide) ?_
      refine J_iret (pc := 33) X hr (i1, wr2) dX10_number_33 ?_ rfl
      first | (rw [skS_f (by omega)] at hk1; exact ⟨by rw [nm_w (by omega), hk1], by omega, by omega⟩) | (rw [skS_t (by omega)] at hk1; exact ⟨by rw [nm_1 (by omega) hk1 (by assumption), show wr2 = 1 from by omega], by omega, by omega⟩)
  · have c_4 : ¬ wr = 0 := n_ne_of (a := wr) (b := 0) (by omega) (by omega) c_4
    refine J_iconst (pc := 11) X 0 dX10_number_11 (by decide) ?_
    refine J_iret (pc := 12) X hr (i1, wr) dX10_number_12 ?_ rfl
    first | (rw [skS_f (by omega)] at hk1; exact ⟨by rw [nm_w (by omega), hk1], by omega, by omega⟩) | (rw [skS_t (by omega)] at hk1; exact ⟨by rw [nm_1 (by omega) hk1 (by assumption), show wr2 = 1 from by omega], by omega, by omega⟩)
set_option maxRecDepth 100000 in
set_option maxHeartbeats 600000 in
theorem kX10_readsLaw (l : Launch) (G : va_G) (cI cC cZ : ClassId) (q : Nat) (qtx : Nat) (qlw : Nat) (qgp : Nat) (qhm : Nat) (qpcs : Nat) (qdl : Nat) (qdg : Nat) (qdh : Nat) (qdp : Nat) (qnw : Nat) (qps : Nat) (qim : Nat) (qisd : Nat) (qkp : Nat) (qfd : Nat) (qbk : Nat) (qal : Nat) (qco : Nat) (ln : Nat) (fa : Int32) (dr : Int32) (dn : Nat) (sd : Int32) (fn : Nat) (en : Nat) (at_ : Nat) (pl : Int32) (yd : Int32) (wy : Int32) (pce_ : Int32) (tl : Int32) (tx : Nat → Int32) (dl : Nat → Int32) (hln : ln ≤ 200) (hat : at_ < ln) : CV l G (tys3 cI cC cZ) yX10_readsLaw cX10_readsLaw 1 ({ frames := 3, cells := 0, slots := 0, locals := 64 }) [.ref q] [(q, .inr (10, [.ref qtx, .int (nI ln), .int fa, .ref qlw, .ref qgp, .ref qhm, .ref qpcs, .ref qdl, .ref qdg, .ref qdh, .ref qdp, .int dr, .int tl, .ref qnw, .ref qps, .int (nI dn), .ref qim, .ref qisd, .ref qkp, .int sd, .ref qfd, .int (nI fn), .ref qbk, .int (nI en), .int (nI at_), .int 0, .int pl, .int yd, .int wy, .int pce_, .ref qal, .ref qco])), (qtx, .inl (cI, 200, .inl tx)), (qdl, .inl (cI, 5, .inl dl))] (S := Nat × Nat × Int32 × (Nat → Int32)) (fun (u : Nat × Nat × Int32 × (Nat → Int32)) => (u.1, u.2.1, u.2.2.1, u.2.2.2) = rdLaw tx ln at_ tl dl ∧ u.1 ≤ ln ∧ u.2.1 ≤ 4) (fun (u : Nat × Nat × Int32 × (Nat → Int32)) => [(q, .inr (10, [.ref qtx, .int (nI ln), .int fa, .ref qlw, .ref qgp, .ref qhm, .ref qpcs, .ref qdl, .ref qdg, .ref qdh, .ref qdp, .int dr, .int u.2.2.1, .ref qnw, .ref qps, .int (nI dn), .ref qim, .ref qisd, .ref qkp, .int sd, .ref qfd, .int (nI fn), .ref qbk, .int (nI en), .int (nI u.1), .int (nI u.2.1), .int pl, .int yd, .int wy, .int pce_, .ref qal, .ref qco])), (qtx, .inl (cI, 200, .inl tx)), (qdl, .inl (cI, 5, .inl u.2.2.2))]) := by
  refine CV.intro (by decide) (Nat.le_of_ble_eq_true rfl) ?_
  intro p0 e0 s0 m0 ar0 be0 me0 c0 A0 X hr
  refine J_aload_n (pc := 0) X 0 dX10_readsLaw_0 rfl ?_
  refine J_get (pc := 1) X clX10 0 12 rfl (by decide) g901 rfl dX10_readsLaw_1 ?_
  refine J_if_eq (pc := 4) X 13 dX10_readsLaw_4 (by decide) (fun c_1 => ?_) (fun c_1 => ?_)
  · skip
    refine J_aload_n (pc := 13) X 0 dX10_readsLaw_13 rfl ?_
    refine J_dup (pc := 14) X dX10_readsLaw_14 rfl ?_
    refine J_get (pc := 15) X clX10 0 24 rfl (by decide) g913 rfl dX10_readsLaw_15 ?_
    refine J_iconst (pc := 18) X 1 dX10_readsLaw_18 (by decide) ?_
    refine J_iadd (pc := 19) X dX10_readsLaw_19 ?_
    refine J_top (y := nI (at_ + 1)) (n_add (x := at_) (y := 1) rfl rfl (by omega)) ?_
    refine J_put (pc := 20) X clX10 0 24 [(q, .inr (10, [.ref qtx, .int (nI ln), .int fa, .ref qlw, .ref qgp, .ref qhm, .ref qpcs, .ref qdl, .ref qdg, .ref qdh, .ref qdp, .int dr, .int tl, .ref qnw, .ref qps, .int (nI dn), .ref qim, .ref qisd, .ref qkp, .int sd, .ref qfd, .int (nI fn), .ref qbk, .int (nI en), .int (nI (at_ + 1)), .int 0, .int pl, .int yd, .int wy, .int pce_, .ref qal, .ref qco])), (qtx, .inl (cI, 200, .inl tx)), (qdl, .inl (cI, 5, .inl dl))] rfl (by decide) g913 rfl rfl rfl (Nat.le_of_ble_eq_true rfl) rfl dX10_readsLaw_20 ?_
    refine J_aload_n (pc := 23) X 0 dX10_readsLaw_23 rfl ?_
    refine J_iconst (pc := 24) X 1 dX10_readsLaw_24 (by decide) ?_
    refine J_put (pc := 25) X clX10 0 12 [(q, .inr (10, [.ref qtx, .int (nI ln), .int fa, .ref qlw, .ref qgp, .ref qhm, .ref qpcs, .ref qdl, .ref qdg, .ref qdh, .ref qdp, .int dr, .int 1, .ref qnw, .ref qps, .int (nI dn), .ref qim, .ref qisd, .ref qkp, .int sd, .ref qfd, .int (nI fn), .ref qbk, .int (nI en), .int (nI (at_ + 1)), .int 0, .int pl, .int yd, .int wy, .int pce_, .ref qal, .ref qco])), (qtx, .inl (cI, 200, .inl tx)), (qdl, .inl (cI, 5, .inl dl))] rfl (by decide) g901 rfl rfl rfl (Nat.le_of_ble_eq_true rfl) rfl dX10_readsLaw_25 ?_
    refine J_aload_n (pc := 28) X 0 dX10_readsLaw_28 rfl ?_
    refine J_get (pc := 29) X clX10 0 7 rfl (by decide) g896 rfl dX10_readsLaw_29 ?_
    refine J_iconst (pc := 32) X 0 dX10_readsLaw_32 (by decide) ?_
    refine J_aload_n (pc := 33) X 0 dX10_readsLaw_33 rfl ?_
    refine J_iconst (pc := 34) X 1 dX10_readsLaw_34 (by decide) ?_
    refine J_bipush (pc := 35) X 60 dX10_readsLaw_35 (by decide) ?_
    refine J_callI (pc := 37) (As := [.int 1, .int 60]) (rest := [.int 0, .ref qdl]) X mtX10_number g1019 [0, 1] [2] [1, 2, 0] 0 (fun u => [(q, .inr (10, [.ref qtx, .int (nI ln), .int fa, .ref qlw, .ref qgp, .ref qhm, .ref qpcs, .ref qdl, .ref qdg, .ref qdh, .ref qdp, .int dr, .int 1, .ref qnw, .ref qps, .int (nI dn), .ref qim, .ref qisd, .ref qkp, .int sd, .ref qfd, .int (nI fn), .ref qbk, .int (nI en), .int (nI u.1), .int (nI u.2), .int pl, .int yd, .int wy, .int pce_, .ref qal, .ref qco])), (qtx, .inl (cI, 200, .inl tx)), (qdl, .inl (cI, 5, .inl dl))]) (kX10_number l G cI cC cZ q qtx qlw qgp qhm qpcs qdl qdg qdh qdp qnw qps qim qisd qkp qfd qbk qal qco ln fa dr dn sd fn en (at_ + 1) 0 pl yd wy pce_ 1 tx 1 60 (by first | assumption | omega) (by first | assumption | omega) (by first | assumption | omega)) ⟨Nat.le_of_ble_eq_true rfl, Nat.le_of_ble_eq_true rfl⟩ rfl rfl rfl (by decide) (wr := [(qdl, .inl (cI, 5, .inl dl))]) rfl (by decide) (by decide) (fun _ => rfl) (by decide) rfl rfl rfl rfl rfl (Nat.le_of_ble_eq_true rfl) (Nat.zero_le _) (Nat.zero_le _) dX10_readsLaw_37 (fun v1 u_2 w_3 => ?_)
    obtain ⟨a1, e1⟩ := u_2
    try dsimp only at w_3
    obtain ⟨hn1, hb1, hc1⟩ := w_3
    refine J_iast (pc := 40) X 2 0 0 [(q, .inr (10, [.ref qtx, .int (nI ln), .int fa, .ref qlw, .ref qgp, .ref qhm, .ref qpcs, .ref qdl, .ref qdg, .ref qdh, .ref qdp, .int dr, .int 1, .ref qnw, .ref qps, .int (nI dn), .ref qim, .ref qisd, .ref qkp, .int sd, .ref qfd, .int (nI fn), .ref qbk, .int (nI en), .int (nI a1), .int (nI e1), .int pl, .int yd, .int wy, .int pce_, .ref qal, .ref qco])), (qtx, .inl (cI, 200, .inl tx)), (qdl, .inl (cI, 5, .inl (upd dl 0 v1)))] rfl rfl rfl (by decide) (by decide) rfl dX10_readsLaw_40 ?_
    refine J_aload_n (pc := 41) X 0 dX10_readsLaw_41 rfl ?_
    refine J_get (pc := 42) X clX10 0 7 rfl (by decide) g896 rfl dX10_readsLaw_42 ?_
    refine J_iconst (pc := 45) X 1 dX10_readsLaw_45 (by decide) ?_
    refine J_aload_n (pc := 46) X 0 dX10_readsLaw_46 rfl ?_
    refine J_iconst (pc := 47) X 0 dX10_readsLaw_47 (by decide) ?_
    refine J_bipush (pc := 48) X 40 dX10_readsLaw_48 (by decide) ?_
    refine J_callI (pc := 50) (As := [.int 0, .int 40]) (rest := [.int 1, .ref qdl]) X mtX10_number g1019 [0, 1] [2] [1, 2, 0] 0 (fun u => [(q, .inr (10, [.ref qtx, .int (nI ln), .int fa, .ref qlw, .ref qgp, .ref qhm, .ref qpcs, .ref qdl, .ref qdg, .ref qdh, .ref qdp, .int dr, .int 1, .ref qnw, .ref qps, .int (nI dn), .ref qim, .ref qisd, .ref qkp, .int sd, .ref qfd, .int (nI fn), .ref qbk, .int (nI en), .int (nI u.1), .int (nI u.2), .int pl, .int yd, .int wy, .int pce_, .ref qal, .ref qco])), (qtx, .inl (cI, 200, .inl tx)), (qdl, .inl (cI, 5, .inl (upd dl 0 v1)))]) (kX10_number l G cI cC cZ q qtx qlw qgp qhm qpcs qdl qdg qdh qdp qnw qps qim qisd qkp qfd qbk qal qco ln fa dr dn sd fn en a1 e1 pl yd wy pce_ 1 tx 0 40 (by first | assumption | omega) (by first | assumption | omega) (by first | assumption | omega)) ⟨Nat.le_of_ble_eq_true rfl, Nat.le_of_ble_eq_true rfl⟩ rfl rfl rfl (by decide) (wr := [(qdl, .inl (cI, 5, .inl (upd dl 0 v1)))]) rfl (by decide) (by decide) (fun _ => rfl) (by decide) rfl rfl rfl rfl rfl (Nat.le_of_ble_eq_true rfl) (Nat.zero_le _) (Nat.zero_le _) dX10_readsLaw_50 (fun v2 u_4 w_5 => ?_)
    obtain ⟨a2, e2⟩ := u_4
    try dsimp only at w_5
    obtain ⟨hn2, hb2, hc2⟩ := w_5
    refine J_iast (pc := 53) X 2 0 1 [(q, .inr (10, [.ref qtx, .int (nI ln), .int fa, .ref qlw, .ref qgp, .ref qhm, .ref qpcs, .ref qdl, .ref qdg, .ref qdh, .ref qdp, .int dr, .int 1, .ref qnw, .ref qps, .int (nI dn), .ref qim, .ref qisd, .ref qkp, .int sd, .ref qfd, .int (nI fn), .ref qbk, .int (nI en), .int (nI a2), .int (nI e2), .int pl, .int yd, .int wy, .int pce_, .ref qal, .ref qco])), (qtx, .inl (cI, 200, .inl tx)), (qdl, .inl (cI, 5, .inl (upd (upd dl 0 v1) 1 v2)))] rfl rfl rfl (by decide) (by decide) rfl dX10_readsLaw_53 ?_
    refine J_aload_n (pc := 54) X 0 dX10_readsLaw_54 rfl ?_
    refine J_get (pc := 55) X clX10 0 7 rfl (by decide) g896 rfl dX10_readsLaw_55 ?_
    refine J_iconst (pc := 58) X 2 dX10_readsLaw_58 (by decide) ?_
    refine J_aload_n (pc := 59) X 0 dX10_readsLaw_59 rfl ?_
    refine J_iconst (pc := 60) X 1 dX10_readsLaw_60 (by decide) ?_
    refine J_bipush (pc := 61) X 50 dX10_readsLaw_61 (by decide) ?_
    refine J_callI (pc := 63) (As := [.int 1, .int 50]) (rest := [.int 2, .ref qdl]) X mtX10_number g1019 [0, 1] [2] [1, 2, 0] 0 (fun u => [(q, .inr (10, [.ref qtx, .int (nI ln), .int fa, .ref qlw, .ref qgp, .ref qhm, .ref qpcs, .ref qdl, .ref qdg, .ref qdh, .ref qdp, .int dr, .int 1, .ref qnw, .ref qps, .int (nI dn), .ref qim, .ref qisd, .ref qkp, .int sd, .ref qfd, .int (nI fn), .ref qbk, .int (nI en), .int (nI u.1), .int (nI u.2), .int pl, .int yd, .int wy, .int pce_, .ref qal, .ref qco])), (qtx, .inl (cI, 200, .inl tx)), (qdl, .inl (cI, 5, .inl (upd (upd dl 0 v1) 1 v2)))]) (kX10_number l G cI cC cZ q qtx qlw qgp qhm qpcs qdl qdg qdh qdp qnw qps qim qisd qkp qfd qbk qal qco ln fa dr dn sd fn en a2 e2 pl yd wy pce_ 1 tx 1 50 (by first | assumption | omega) (by first | assumption | omega) (by first | assumption | omega)) ⟨Nat.le_of_ble_eq_true rfl, Nat.le_of_ble_eq_true rfl⟩ rfl rfl rfl (by decide) (wr := [(qdl, .inl (cI, 5, .inl (upd (upd dl 0 v1) 1 v2)))]) rfl (by decide) (by decide) (fun _ => rfl) (by decide) rfl rfl rfl rfl rfl (Nat.le_of_ble_eq_true rfl) (Nat.zero_le _) (Nat.zero_le _) dX10_readsLaw_63 (fun v3 u_6 w_7 => ?_)
    obtain ⟨a3, e3⟩ := u_6
    try dsimp only at w_7
    obtain ⟨hn3, hb3, hc3⟩ := w_7
    refine J_iast (pc := 66) X 2 0 2 [(q, .inr (10, [.ref qtx, .int (nI ln), .int fa, .ref qlw, .ref qgp, .ref qhm, .ref qpcs, .ref qdl, .ref qdg, .ref qdh, .ref qdp, .int dr, .int 1, .ref qnw, .ref qps, .int (nI dn), .ref qim, .ref qisd, .ref qkp, .int sd, .ref qfd, .int (nI fn), .ref qbk, .int (nI en), .int (nI a3), .int (nI e3), .int pl, .int yd, .int wy, .int pce_, .ref qal, .ref qco])), (qtx, .inl (cI, 200, .inl tx)), (qdl, .inl (cI, 5, .inl (upd (upd (upd dl 0 v1) 1 v2) 2 v3)))] rfl rfl rfl (by decide) (by decide) rfl dX10_readsLaw_66 ?_
    refine J_aload_n (pc := 67) X 0 dX10_readsLaw_67 rfl ?_
    refine J_bipush (pc := 68) X 59 dX10_readsLaw_68 (by decide) ?_
    refine J_callV (pc := 70) (As := [.int 59]) (rest := []) X mtX10_word g1023 [0, 1] [2] [1, 2, 0] 0 (fun u => [(q, .inr (10, [.ref qtx, .int (nI ln), .int fa, .ref qlw, .ref qgp, .ref qhm, .ref qpcs, .ref qdl, .ref qdg, .ref qdh, .ref qdp, .int dr, .int 1, .ref qnw, .ref qps, .int (nI dn), .ref qim, .ref qisd, .ref qkp, .int sd, .ref qfd, .int (nI fn), .ref qbk, .int (nI en), .int (nI u.1), .int (nI u.2), .int pl, .int yd, .int wy, .int pce_, .ref qal, .ref qco])), (qtx, .inl (cI, 200, .inl tx)), (qdl, .inl (cI, 5, .inl (upd (upd (upd dl 0 v1) 1 v2) 2 v3)))]) (kX10_word l G cI cC cZ q qtx qlw qgp qhm qpcs qdl qdg qdh qdp qnw qps qim qisd qkp qfd qbk qal qco ln fa dr dn sd fn en a3 e3 pl yd wy pce_ 1 tx 59 (by first | assumption | omega) (by first | assumption | omega) (by first | assumption | omega) (by decide)) ⟨Nat.le_of_ble_eq_true rfl, Nat.le_of_ble_eq_true rfl⟩ rfl rfl rfl (by decide) (wr := [(qdl, .inl (cI, 5, .inl (upd (upd (upd dl 0 v1) 1 v2) 2 v3)))]) rfl (by decide) (by decide) (fun _ => rfl) (by decide) rfl rfl rfl rfl rfl (Nat.le_of_ble_eq_true rfl) (Nat.zero_le _) (Nat.zero_le _) dX10_readsLaw_70 (fun u_9 w_10 => ?_)
    obtain ⟨a4, e4⟩ := u_9
    try dsimp only at w_10
    obtain ⟨hn4, hb4, hc4⟩ := w_10
    refine J_vret (pc := 73) X hr (a4, e4, 1, (upd (upd (upd dl 0 v1) 1 v2) 2 v3)) dX10_readsLaw_73 ?_ rfl
    exact ⟨rdLaw_t (by assumption) hn1 hn2 hn3 hn4, by omega, by omega⟩
  · skip
    refine J_aload_n (pc := 7) X 0 dX10_readsLaw_7 rfl ?_
    refine J_iconst (pc := 8) X 3 dX10_readsLaw_8 (by decide) ?_
    refine J_callV (pc := 9) (As := [.int 3]) (rest := []) X mtX10_fails g1015 [0] [1, 2] [2, 0, 1] 0 (fun u => [(q, .inr (10, [.ref qtx, .int (nI ln), .int fa, .ref qlw, .ref qgp, .ref qhm, .ref qpcs, .ref qdl, .ref qdg, .ref qdh, .ref qdp, .int dr, .int tl, .ref qnw, .ref qps, .int (nI dn), .ref qim, .ref qisd, .ref qkp, .int sd, .ref qfd, .int (nI fn), .ref qbk, .int (nI en), .int (nI at_), .int (nI u), .int pl, .int yd, .int wy, .int pce_, .ref qal, .ref qco])), (qtx, .inl (cI, 200, .inl tx)), (qdl, .inl (cI, 5, .inl dl))]) (kX10_fails l G cI cC cZ q qtx qlw qgp qhm qpcs qdl qdg qdh qdp qnw qps qim qisd qkp qfd qbk qal qco ln fa dr dn sd fn en at_ 0 pl yd wy pce_ tl 3 (by first | assumption | omega) (by first | assumption | omega)) ⟨Nat.le_of_ble_eq_true rfl, Nat.le_of_ble_eq_true rfl⟩ rfl rfl rfl (by decide) (wr := [(qtx, .inl (cI, 200, .inl tx)), (qdl, .inl (cI, 5, .inl dl))]) rfl (by decide) (by decide) (fun _ => rfl) (by decide) rfl rfl rfl rfl rfl (Nat.le_of_ble_eq_true rfl) (Nat.zero_le _) (Nat.zero_le _) dX10_readsLaw_9 (fun u_12 w_13 => ?_)
    obtain ⟨wr2, rfl⟩ : ∃ z, z = u_12 := ⟨_, rfl⟩
    try dsimp only at w_13
    have hfw := w_13
    refine J_vret (pc := 12) X hr (at_, wr2, tl, dl) dX10_readsLaw_12 ?_ rfl
    have hw3 : wr2 = 3 := by omega
    subst hw3
    exact ⟨(if_neg (by assumption)).symm, Nat.le_of_lt hat, Nat.le_of_ble_eq_true rfl⟩
