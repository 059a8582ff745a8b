set_option maxRecDepth 100000 in
set_option maxHeartbeats 600000 in
theorem kX9_go (l : Launch) (G : va_G) (cI cC cZ : ClassId) (qx : Nat) (q : Nat) (qq : Nat) (qr : Nat) (qs : Nat) (qt : Nat) (qpa : Nat) (qi : Nat) (ql : Nat) (qb : Nat) (qg : Nat) (qw : Nat) (qn : Nat) (qd : Nat) (qh : Nat) (qp : Nat) (P : Nat) (gr : Int32) (wd : Nat) (g : Nat) (wk : Nat) (fr : Int32) (dyr : Nat → Int32) (qsc : Nat) (c : Nat → Int32) (qpr : Nat) (o : Nat) (dn : Nat) (rw_ : Nat → Int32) (nw : Nat → Int32) (ps : Nat → Int32) (dy : Nat → Int32) (w : Int32) (wayx : Int32) (hPl : P ≤ 60) (hg : g ≤ 8) (hwk : wk ≤ 4) (hwd : wd ≤ 50) (hP0 : 0 < g → 0 < P) (hdy : ∀ k, k < g → dyr k = dy k) (hsc : scR c nw wk) (hok : okS g wk nw) (ho : o < 30) (hdn : dn ≤ 30) (hpr : paR rw_ o dn ps wk) : CI l G (tys3 cI cC cZ) yX9_go cX9_go 3 (some .int) ({ frames := 5, cells := 0, slots := 0, locals := 117 }) [.ref qx, .int w, .int wayx] [(qx, .inr (9, [.ref q, .ref qq, .ref qr, .ref qs, .ref qt, .ref qpa, .ref qi, .ref ql, .ref qb, .ref qg, .ref qw, .ref qn])), (q, .inr (5, [.int (nI P), .int gr, .int (nI wd), .int (nI g), .int (nI wk), .int fr, .ref qd, .ref qh, .ref qp])), (qd, .inl (cI, 8, .inl dyr)), (qs, .inr (7, [.ref qsc])), (qsc, .inl (cI, 18, .inl c)), (qpa, .inr (4, [.ref qpr, .int (nI o), .int (nI dn)])), (qpr, .inl (cI, 540, .inl rw_))] (S := (Nat → Int32) × Nat × Nat × (Nat → Int32)) (fun (r : Int32) (u : (Nat → Int32) × Nat × Nat × (Nat → Int32)) => r = (if goR wk nw w wayx = 0 then whN (fun k9 t9 => yG P (dy k9) gr t9) (goN (fun k9 t9 => yG P (dy k9) gr t9) nw w.toNatClampNeg wayx) w.toNatClampNeg else goR wk nw w wayx) ∧ (goR wk nw w wayx = 0 → scR u.1 (goN (fun k9 t9 => yG P (dy k9) gr t9) nw w.toNatClampNeg wayx) wk ∧ paR u.2.2.2 u.2.1 u.2.2.1 (pushF dn nw ps) wk ∧ u.2.1 < 30 ∧ ((dn < 30 ∧ u.2.2.1 = dn + 1) ∨ (dn = 30 ∧ u.2.2.1 = 30))) ∧ (¬ goR wk nw w wayx = 0 → u.1 = c ∧ u.2.1 = o ∧ u.2.2.1 = dn ∧ u.2.2.2 = rw_)) (fun (u : (Nat → Int32) × Nat × Nat × (Nat → Int32)) => [(qx, .inr (9, [.ref q, .ref qq, .ref qr, .ref qs, .ref qt, .ref qpa, .ref qi, .ref ql, .ref qb, .ref qg, .ref qw, .ref qn])), (q, .inr (5, [.int (nI P), .int gr, .int (nI wd), .int (nI g), .int (nI wk), .int fr, .ref qd, .ref qh, .ref qp])), (qd, .inl (cI, 8, .inl dyr)), (qs, .inr (7, [.ref qsc])), (qsc, .inl (cI, 18, .inl u.1)), (qpa, .inr (4, [.ref qpr, .int (nI u.2.1), .int (nI u.2.2.1)])), (qpr, .inl (cI, 540, .inl u.2.2.2))]) := by
  refine CI.intro (by decide) (Nat.le_of_ble_eq_true rfl) ?_
  intro p0 e0 s0 m0 ar0 be0 me0 c0 A0 X hr
  refine J_aload_n (pc := 0) X 0 dX9_go_0 rfl ?_
  refine J_get (pc := 1) X clX9 0 0 rfl (by decide) g241 rfl dX9_go_1 ?_
  refine J_iload_n (pc := 4) X 1 dX9_go_4 rfl ?_
  refine J_callR (pc := 5) (As := [.int w]) (rest := []) X mtX5_hasWalker g511 [1] 0 (kX5_hasWalker l G cI cC cZ q qd qh qp P gr wd g wk fr w (by first | assumption | omega) (by first | assumption | omega) (by first | assumption | omega) (by first | assumption | omega)) ⟨Nat.le_of_ble_eq_true rfl, Nat.le_of_ble_eq_true rfl⟩ rfl rfl rfl (by decide) rfl rfl rfl rfl rfl (Nat.le_of_ble_eq_true rfl) (Nat.zero_le _) (Nat.zero_le _) dX9_go_5 (fun r_1 u_2 w_3 => ?_)
  try dsimp only at w_3
  subst w_3
  refine J_bif_ne (pc := 8) X 14 dX9_go_8 (by decide) (fun c_4 => ?_) (fun c_4 => ?_)
  · skip
    obtain ⟨wn, hwn, rfl⟩ := inB_ex (by omega) c_4
    have hin9 := (inB_nI (n := wk) (j := wn) (by omega)).mpr hwn
    obtain ⟨pos, hpos, hpk⟩ := hok wn hwn
    have hpl := posOk_lt hg hpk
    have hpf := posF_of hpos hpl
    obtain ⟨q2, q3, q4, q5⟩ := scR_q hsc hwn hpos hpl
    refine J_iload_n (pc := 14) X 2 dX9_go_14 rfl ?_
    refine J_iconst (pc := 15) X 0 dX9_go_15 (by decide) ?_
    refine J_iconst (pc := 16) X 2 dX9_go_16 (by decide) ?_
    refine J_callS (pc := 17) (As := [.int wayx, .int 0, .int 2]) (rest := []) X mtX9_isWithin g282 [] (kX9_isWithin l G cI cC cZ wayx 0 2 ) ⟨Nat.le_of_ble_eq_true rfl, Nat.le_of_ble_eq_true rfl⟩ rfl rfl rfl (by decide) rfl rfl (Nat.le_of_ble_eq_true rfl) (Nat.zero_le _) (Nat.zero_le _) dX9_go_17 (fun r_5 u_6 w_7 => ?_)
    try dsimp only at w_7
    subst w_7
    refine J_bif_ne (pc := 20) X 26 dX9_go_20 (by decide) (fun c_8 => ?_) (fun c_8 => ?_)
    · skip
      by_cases hp : pos < 100
      · skip
        have k2 := q2.trans (hsN_t hp)
        have k3 := q3.trans (gpN_t hp)
        have hpg : pos ≤ g := by rcases hpk with z9 | z9 <;> omega
        refine J_aload_n (pc := 26) X 0 dX9_go_26 rfl ?_
        refine J_get (pc := 27) X clX9 0 3 rfl (by decide) g244 rfl dX9_go_27 ?_
        refine J_iload_n (pc := 30) X 1 dX9_go_30 rfl ?_
        refine J_callR (pc := 31) (As := [.int (nI wn)]) (rest := []) X mtX7_isInGap g563 [3, 4] 0 (kX7_isInGap l G cI cC cZ qs qsc c wn (by first | assumption | omega)) ⟨Nat.le_of_ble_eq_true rfl, Nat.le_of_ble_eq_true rfl⟩ rfl rfl rfl (by decide) rfl rfl rfl rfl rfl (Nat.le_of_ble_eq_true rfl) (Nat.zero_le _) (Nat.zero_le _) dX9_go_31 (fun r_9 u_10 w_11 => ?_)
        try dsimp only at w_11
        subst w_11
        refine J_top (y := (0 : Int32)) (bI_f (fun z9 => z9 k3)) ?_
        refine J_if_eq (pc := 34) X 45 dX9_go_34 (by decide) (fun c_12 => ?_) (fun c_12 => ?_)
        · have c_12 : 0 = 0 := n_eq_of (a := 0) (b := 0) (by omega) (by omega) c_12
          refine J_aload_n (pc := 45) X 0 dX9_go_45 rfl ?_
          refine J_get (pc := 46) X clX9 0 5 rfl (by decide) g246 rfl dX9_go_46 ?_
          refine J_aload_n (pc := 49) X 0 dX9_go_49 rfl ?_
          refine J_get (pc := 50) X clX9 0 3 rfl (by decide) g244 rfl dX9_go_50 ?_
          refine J_callV (pc := 53) (As := [.ref qs]) (rest := []) X mtX4_remember g565 [5, 6, 3, 4] [0, 1, 2] [0, 1, 2, 5, 6, 3, 4] 0 (fun u => [(qx, .inr (9, [.ref q, .ref qq, .ref qr, .ref qs, .ref qt, .ref qpa, .ref qi, .ref ql, .ref qb, .ref qg, .ref qw, .ref qn])), (q, .inr (5, [.int (nI P), .int gr, .int (nI wd), .int (nI g), .int (nI wk), .int fr, .ref qd, .ref qh, .ref qp])), (qd, .inl (cI, 8, .inl dyr)), (qs, .inr (7, [.ref qsc])), (qsc, .inl (cI, 18, .inl c)), (qpa, .inr (4, [.ref qpr, .int (nI u.1), .int (nI u.2.1)])), (qpr, .inl (cI, 540, .inl u.2.2))]) (kX4_remember l G cI cC cZ qpa qpr o dn rw_ qs qsc c nw ps wk (by first | assumption | omega) (by first | assumption | omega) (by first | assumption | omega) hpr hsc) ⟨Nat.le_of_ble_eq_true rfl, Nat.le_of_ble_eq_true rfl⟩ rfl rfl rfl (by decide) (wr := [(qx, .inr (9, [.ref q, .ref qq, .ref qr, .ref qs, .ref qt, .ref qpa, .ref qi, .ref ql, .ref qb, .ref qg, .ref qw, .ref qn])), (q, .inr (5, [.int (nI P), .int gr, .int (nI wd), .int (nI g), .int (nI wk), .int fr, .ref qd, .ref qh, .ref qp])), (qd, .inl (cI, 8, .inl dyr))]) rfl (by decide) (by decide) (fun _ => rfl) (by decide) rfl rfl rfl rfl rfl (Nat.le_of_ble_eq_true rfl) (Nat.zero_le _) (Nat.zero_le _) dX9_go_53 (fun u_14 w_15 => ?_)
          obtain ⟨oA, nA, rA⟩ := u_14
          try dsimp only at w_15
          have hrm := w_15
          refine J_aload_n (pc := 56) X 0 dX9_go_56 rfl ?_
          refine J_get (pc := 57) X clX9 0 3 rfl (by decide) g244 rfl dX9_go_57 ?_
          refine J_aload_n (pc := 60) X 0 dX9_go_60 rfl ?_
          refine J_get (pc := 61) X clX9 0 0 rfl (by decide) g241 rfl dX9_go_61 ?_
          refine J_iload_n (pc := 64) X 1 dX9_go_64 rfl ?_
          refine J_iload_n (pc := 65) X 2 dX9_go_65 rfl ?_
          refine J_callV (pc := 66) (As := [.ref q, .int (nI wn), .int wayx]) (rest := []) X mtX7_direct g580 [3, 4, 1, 2] [0, 5, 6] [0, 5, 6, 3, 4, 1, 2] 0 (fun u => [(qx, .inr (9, [.ref q, .ref qq, .ref qr, .ref qs, .ref qt, .ref qpa, .ref qi, .ref ql, .ref qb, .ref qg, .ref qw, .ref qn])), (q, .inr (5, [.int (nI P), .int gr, .int (nI wd), .int (nI g), .int (nI wk), .int fr, .ref qd, .ref qh, .ref qp])), (qd, .inl (cI, 8, .inl dyr)), (qs, .inr (7, [.ref qsc])), (qsc, .inl (cI, 18, .inl u)), (qpa, .inr (4, [.ref qpr, .int (nI oA), .int (nI nA)])), (qpr, .inl (cI, 540, .inl rA))]) (kX7_direct l G cI cC cZ qs qsc c q qd qh qp P gr wd g wk fr dyr wn pos nw dy wayx (by first | assumption | omega) (by first | assumption | omega) (by first | assumption | omega) (by first | assumption | omega) (by first | assumption | omega) (by first | assumption | omega) (by first | assumption | omega) hsc hpos hpk) ⟨Nat.le_of_ble_eq_true rfl, Nat.le_of_ble_eq_true rfl⟩ rfl rfl rfl (by decide) (wr := [(qx, .inr (9, [.ref q, .ref qq, .ref qr, .ref qs, .ref qt, .ref qpa, .ref qi, .ref ql, .ref qb, .ref qg, .ref qw, .ref qn])), (qpa, .inr (4, [.ref qpr, .int (nI oA), .int (nI nA)])), (qpr, .inl (cI, 540, .inl rA))]) rfl (by decide) (by decide) (fun _ => rfl) (by decide) rfl rfl rfl rfl rfl (Nat.le_of_ble_eq_true rfl) (Nat.zero_le _) (Nat.zero_le _) dX9_go_66 (fun u_17 w_18 => ?_)
          obtain ⟨cA, rfl⟩ : ∃ z, z = u_17 := ⟨_, rfl⟩
          try dsimp only at w_18
          have hdi := w_18
          refine J_aload_n (pc := 69) X 0 dX9_go_69 rfl ?_
          refine J_get (pc := 70) X clX9 0 3 rfl (by decide) g244 rfl dX9_go_70 ?_
          refine J_aload_n (pc := 73) X 0 dX9_go_73 rfl ?_
          refine J_get (pc := 74) X clX9 0 0 rfl (by decide) g241 rfl dX9_go_74 ?_
          refine J_iload_n (pc := 77) X 1 dX9_go_77 rfl ?_
          refine J_callR (pc := 78) (As := [.ref q, .int (nI wn)]) (rest := []) X mtX7_placeOf g539 [3, 4, 1, 2] 0 (kX7_placeOf l G cI cC cZ qs qsc cA q qd qh qp P gr wd g wk fr dyr wn pos (goN (fun k9 t9 => yG P (dy k9) gr t9) nw wn wayx) dy (by first | assumption | omega) (by first | assumption | omega) (by first | assumption | omega) (by first | assumption | omega) (by first | assumption | omega) (by first | assumption | omega) (by first | assumption | omega) hdi (goN_pos.trans hpos) hpk) ⟨Nat.le_of_ble_eq_true rfl, Nat.le_of_ble_eq_true rfl⟩ rfl rfl rfl (by decide) rfl rfl rfl rfl rfl (Nat.le_of_ble_eq_true rfl) (Nat.zero_le _) (Nat.zero_le _) dX9_go_78 (fun r_19 u_20 w_21 => ?_)
          try dsimp only at w_21
          subst w_21
          refine J_iret (pc := 81) X hr (cA, oA, nA, rA) dX9_go_81 ?_ rfl
          have hz : goR wk nw (nI wn) wayx = 0 := goR_0 hin9 (by omega) (by assumption) hpf (fun ⟨z1, z2⟩ => by first | omega | exact absurd z2 (by assumption))
          rw [hz, if_pos rfl, nI_clamp (by omega)]
          refine ⟨?_, fun _ => ⟨hdi, hrm.1, hrm.2.1, hrm.2.2.2⟩, fun h => absurd rfl h⟩
          rw [whN, posF_of (goN_pos.trans hpos) hpl]
        · have c_12 : ¬ 0 = 0 := n_ne_of (a := 0) (b := 0) (by omega) (by omega) c_12
          exfalso; omega
      · skip
        have k2 := q2.trans (hsN_f hp)
        have k3 := q3.trans (gpN_f hp)
        have hpg : 100 ≤ pos ∧ pos < 100 + g := by rcases hpk with z9 | z9 <;> omega
        refine J_aload_n (pc := 26) X 0 dX9_go_26 rfl ?_
        refine J_get (pc := 27) X clX9 0 3 rfl (by decide) g244 rfl dX9_go_27 ?_
        refine J_iload_n (pc := 30) X 1 dX9_go_30 rfl ?_
        refine J_callR (pc := 31) (As := [.int (nI wn)]) (rest := []) X mtX7_isInGap g563 [3, 4] 0 (kX7_isInGap l G cI cC cZ qs qsc c wn (by first | assumption | omega)) ⟨Nat.le_of_ble_eq_true rfl, Nat.le_of_ble_eq_true rfl⟩ rfl rfl rfl (by decide) rfl rfl rfl rfl rfl (Nat.le_of_ble_eq_true rfl) (Nat.zero_le _) (Nat.zero_le _) dX9_go_31 (fun r_22 u_23 w_24 => ?_)
        try dsimp only at w_24
        subst w_24
        refine J_top (y := (1 : Int32)) (bI_t (by rw [k3]; exact nI_ne_m1 (by omega))) ?_
        refine J_if_eq (pc := 34) X 45 dX9_go_34 (by decide) (fun c_25 => ?_) (fun c_25 => ?_)
        · have c_25 : 1 = 0 := n_eq_of (a := 1) (b := 0) (by omega) (by omega) c_25
          exfalso; omega
        · have c_25 : ¬ 1 = 0 := n_ne_of (a := 1) (b := 0) (by omega) (by omega) c_25
          refine J_iload_n (pc := 37) X 2 dX9_go_37 rfl ?_
          refine J_iconst (pc := 38) X 1 dX9_go_38 (by decide) ?_
          refine J_icmp_ne (pc := 39) X 45 dX9_go_39 (by decide) (fun c_26 => ?_) (fun c_26 => ?_)
          · skip
            refine J_aload_n (pc := 45) X 0 dX9_go_45 rfl ?_
            refine J_get (pc := 46) X clX9 0 5 rfl (by decide) g246 rfl dX9_go_46 ?_
            refine J_aload_n (pc := 49) X 0 dX9_go_49 rfl ?_
            refine J_get (pc := 50) X clX9 0 3 rfl (by decide) g244 rfl dX9_go_50 ?_
            refine J_callV (pc := 53) (As := [.ref qs]) (rest := []) X mtX4_remember g565 [5, 6, 3, 4] [0, 1, 2] [0, 1, 2, 5, 6, 3, 4] 0 (fun u => [(qx, .inr (9, [.ref q, .ref qq, .ref qr, .ref qs, .ref qt, .ref qpa, .ref qi, .ref ql, .ref qb, .ref qg, .ref qw, .ref qn])), (q, .inr (5, [.int (nI P), .int gr, .int (nI wd), .int (nI g), .int (nI wk), .int fr, .ref qd, .ref qh, .ref qp])), (qd, .inl (cI, 8, .inl dyr)), (qs, .inr (7, [.ref qsc])), (qsc, .inl (cI, 18, .inl c)), (qpa, .inr (4, [.ref qpr, .int (nI u.1), .int (nI u.2.1)])), (qpr, .inl (cI, 540, .inl u.2.2))]) (kX4_remember l G cI cC cZ qpa qpr o dn rw_ qs qsc c nw ps wk (by first | assumption | omega) (by first | assumption | omega) (by first | assumption | omega) hpr hsc) ⟨Nat.le_of_ble_eq_true rfl, Nat.le_of_ble_eq_true rfl⟩ rfl rfl rfl (by decide) (wr := [(qx, .inr (9, [.ref q, .ref qq, .ref qr, .ref qs, .ref qt, .ref qpa, .ref qi, .ref ql, .ref qb, .ref qg, .ref qw, .ref qn])), (q, .inr (5, [.int (nI P), .int gr, .int (nI wd), .int (nI g), .int (nI wk), .int fr, .ref qd, .ref qh, .ref qp])), (qd, .inl (cI, 8, .inl dyr))]) rfl (by decide) (by decide) (fun _ => rfl) (by decide) rfl rfl rfl rfl rfl (Nat.le_of_ble_eq_true rfl) (Nat.zero_le _) (Nat.zero_le _) dX9_go_53 (fun u_28 w_29 => ?_)
            obtain ⟨oA, nA, rA⟩ := u_28
            try dsimp only at w_29
            have hrm := w_29
            refine J_aload_n (pc := 56) X 0 dX9_go_56 rfl ?_
            refine J_get (pc := 57) X clX9 0 3 rfl (by decide) g244 rfl dX9_go_57 ?_
            refine J_aload_n (pc := 60) X 0 dX9_go_60 rfl ?_
            refine J_get (pc := 61) X clX9 0 0 rfl (by decide) g241 rfl dX9_go_61 ?_
            refine J_iload_n (pc := 64) X 1 dX9_go_64 rfl ?_
            refine J_iload_n (pc := 65) X 2 dX9_go_65 rfl ?_
            refine J_callV (pc := 66) (As := [.ref q, .int (nI wn), .int wayx]) (rest := []) X mtX7_direct g580 [3, 4, 1, 2] [0, 5, 6] [0, 5, 6, 3, 4, 1, 2] 0 (fun u => [(qx, .inr (9, [.ref q, .ref qq, .ref qr, .ref qs, .ref qt, .ref qpa, .ref qi, .ref ql, .ref qb, .ref qg, .ref qw, .ref qn])), (q, .inr (5, [.int (nI P), .int gr, .int (nI wd), .int (nI g), .int (nI wk), .int fr, .ref qd, .ref qh, .ref qp])), (qd, .inl (cI, 8, .inl dyr)), (qs, .inr (7, [.ref qsc])), (qsc, .inl (cI, 18, .inl u)), (qpa, .inr (4, [.ref qpr, .int (nI oA), .int (nI nA)])), (qpr, .inl (cI, 540, .inl rA))]) (kX7_direct l G cI cC cZ qs qsc c q qd qh qp P gr wd g wk fr dyr wn pos nw dy wayx (by first | assumption | omega) (by first | assumption | omega) (by first | assumption | omega) (by first | assumption | omega) (by first | assumption | omega) (by first | assumption | omega) (by first | assumption | omega) hsc hpos hpk) ⟨Nat.le_of_ble_eq_true rfl, Nat.le_of_ble_eq_true rfl⟩ rfl rfl rfl (by decide) (wr := [(qx, .inr (9, [.ref q, .ref qq, .ref qr, .ref qs, .ref qt, .ref qpa, .ref qi, .ref ql, .ref qb, .ref qg, .ref qw, .ref qn])), (qpa, .inr (4, [.ref qpr, .int (nI oA), .int (nI nA)])), (qpr, .inl (cI, 540, .inl rA))]) rfl (by decide) (by decide) (fun _ => rfl) (by decide) rfl rfl rfl rfl rfl (Nat.le_of_ble_eq_true rfl) (Nat.zero_le _) (Nat.zero_le _) dX9_go_66 (fun u_31 w_32 => ?_)
            obtain ⟨cA, rfl⟩ : ∃ z, z = u_31 := ⟨_, rfl⟩
            try dsimp only at w_32
            have hdi := w_32
            refine J_aload_n (pc := 69) X 0 dX9_go_69 rfl ?_
            refine J_get (pc := 70) X clX9 0 3 rfl (by decide) g244 rfl dX9_go_70 ?_
            refine J_aload_n (pc := 73) X 0 dX9_go_73 rfl ?_
            refine J_get (pc := 74) X clX9 0 0 rfl (by decide) g241 rfl dX9_go_74 ?_
            refine J_iload_n (pc := 77) X 1 dX9_go_77 rfl ?_
            refine J_callR (pc := 78) (As := [.ref q, .int (nI wn)]) (rest := []) X mtX7_placeOf g539 [3, 4, 1, 2] 0 (kX7_placeOf l G cI cC cZ qs qsc cA q qd qh qp P gr wd g wk fr dyr wn pos (goN (fun k9 t9 => yG P (dy k9) gr t9) nw wn wayx) dy (by first | assumption | omega) (by first | assumption | omega) (by first | assumption | omega) (by first | assumption | omega) (by first | assumption | omega) (by first | assumption | omega) (by first | assumption | omega) hdi (goN_pos.trans hpos) hpk) ⟨Nat.le_of_ble_eq_true rfl, Nat.le_of_ble_eq_true rfl⟩ rfl rfl rfl (by decide) rfl rfl rfl rfl rfl (Nat.le_of_ble_eq_true rfl) (Nat.zero_le _) (Nat.zero_le _) dX9_go_78 (fun r_33 u_34 w_35 => ?_)
            try dsimp only at w_35
            subst w_35
            refine J_iret (pc := 81) X hr (cA, oA, nA, rA) dX9_go_81 ?_ rfl
            have hz : goR wk nw (nI wn) wayx = 0 := goR_0 hin9 (by omega) (by assumption) hpf (fun ⟨z1, z2⟩ => by first | omega | exact absurd z2 (by assumption))
            rw [hz, if_pos rfl, nI_clamp (by omega)]
            refine ⟨?_, fun _ => ⟨hdi, hrm.1, hrm.2.1, hrm.2.2.2⟩, fun h => absurd rfl h⟩
            rw [whN, posF_of (goN_pos.trans hpos) hpl]
          · skip
            refine J_ldc (pc := 42) X g564 dX9_go_42 ?_
            refine J_iret (pc := 44) X hr (c, o, dn, rw_) dX9_go_44 ?_ rfl
            have hz : goR wk nw (nI wn) wayx = -1000000003 := by rw [goR, if_pos hin9, if_pos (by assumption), nI_clamp (by omega), hpf, if_pos ⟨by omega, by assumption⟩]
            rw [hz]
            exact ⟨rfl, fun h => absurd h (by decide), fun _ => ⟨rfl, rfl, rfl, rfl⟩⟩
    · skip
      refine J_ldc (pc := 23) X g285 dX9_go_23 ?_
      refine J_iret (pc := 25) X hr (c, o, dn, rw_) dX9_go_25 ?_ rfl
      have hz : goR wk nw (nI wn) wayx = -1000000002 := by rw [goR, if_pos hin9, if_neg (by assumption)]
      rw [hz]
      exact ⟨rfl, fun h => absurd h (by decide), fun _ => ⟨rfl, rfl, rfl, rfl⟩⟩
  · skip
    refine J_ldc (pc := 11) X g473 dX9_go_11 ?_
    refine J_iret (pc := 13) X hr (c, o, dn, rw_) dX9_go_13 ?_ rfl
    have hz : goR wk nw w wayx = -1000000001 := if_neg (by assumption)
    rw [hz]
    exact ⟨rfl, fun h => absurd h (by decide), fun _ => ⟨rfl, rfl, rfl, rfl⟩⟩
set_option maxRecDepth 100000 in
set_option maxHeartbeats 600000 in
theorem kX9_rope (l : Launch) (G : va_G) (cI cC cZ : ClassId) (qx : Nat) (q : Nat) (qq : Nat) (qr : Nat) (qs : Nat) (qt : Nat) (qpa : Nat) (qi : Nat) (ql : Nat) (qb : Nat) (qg : Nat) (qw : Nat) (qn : Nat) (qd : Nat) (qh : Nat) (qp : Nat) (P : Nat) (gr : Int32) (wd : Nat) (g : Nat) (wk : Nat) (fr : Int32) (qsc : Nat) (c : Nat → Int32) (qpr : Nat) (o : Nat) (dn : Nat) (rw_ : Nat → Int32) (nw : Nat → Int32) (ps : Nat → Int32) (k : Int32) (is_ : Int32) (hPl : P ≤ 60) (hg : g ≤ 8) (hwk : wk ≤ 4) (hwd : wd ≤ 50) (hsc : scR c nw wk) (ho : o < 30) (hdn : dn ≤ 30) (hpr : paR rw_ o dn ps wk) : CI l G (tys3 cI cC cZ) yX9_rope cX9_rope 4 (some .int) ({ frames := 3, cells := 0, slots := 0, locals := 61 }) [.ref qx, .int k, .int is_] [(qx, .inr (9, [.ref q, .ref qq, .ref qr, .ref qs, .ref qt, .ref qpa, .ref qi, .ref ql, .ref qb, .ref qg, .ref qw, .ref qn])), (q, .inr (5, [.int (nI P), .int gr, .int (nI wd), .int (nI g), .int (nI wk), .int fr, .ref qd, .ref qh, .ref qp])), (qs, .inr (7, [.ref qsc])), (qsc, .inl (cI, 18, .inl c)), (qpa, .inr (4, [.ref qpr, .int (nI o), .int (nI dn)])), (qpr, .inl (cI, 540, .inl rw_))] (S := (Nat → Int32) × Nat × Nat × (Nat → Int32)) (fun (r : Int32) (u : (Nat → Int32) × Nat × Nat × (Nat → Int32)) => r = (if inB k g then nw 1 >>> (k &&& 31) &&& 1 else -1000000001) ∧ (inB k g → scR u.1 (ropN nw k is_) wk ∧ paR u.2.2.2 u.2.1 u.2.2.1 (pushF dn nw ps) wk ∧ u.2.1 < 30 ∧ ((dn < 30 ∧ u.2.2.1 = dn + 1) ∨ (dn = 30 ∧ u.2.2.1 = 30))) ∧ (¬ inB k g → u.1 = c ∧ u.2.1 = o ∧ u.2.2.1 = dn ∧ u.2.2.2 = rw_)) (fun (u : (Nat → Int32) × Nat × Nat × (Nat → Int32)) => [(qx, .inr (9, [.ref q, .ref qq, .ref qr, .ref qs, .ref qt, .ref qpa, .ref qi, .ref ql, .ref qb, .ref qg, .ref qw, .ref qn])), (q, .inr (5, [.int (nI P), .int gr, .int (nI wd), .int (nI g), .int (nI wk), .int fr, .ref qd, .ref qh, .ref qp])), (qs, .inr (7, [.ref qsc])), (qsc, .inl (cI, 18, .inl u.1)), (qpa, .inr (4, [.ref qpr, .int (nI u.2.1), .int (nI u.2.2.1)])), (qpr, .inl (cI, 540, .inl u.2.2.2))]) := by
  refine CI.intro (by decide) (Nat.le_of_ble_eq_true rfl) ?_
  intro p0 e0 s0 m0 ar0 be0 me0 c0 A0 X hr
  refine J_aload_n (pc := 0) X 0 dX9_rope_0 rfl ?_
  refine J_get (pc := 1) X clX9 0 0 rfl (by decide) g241 rfl dX9_rope_1 ?_
  refine J_iload_n (pc := 4) X 1 dX9_rope_4 rfl ?_
  refine J_callR (pc := 5) (As := [.int k]) (rest := []) X mtX5_hasGap g469 [1] 0 (kX5_hasGap l G cI cC cZ q qd qh qp P gr wd g wk fr k (by first | assumption | omega) (by first | assumption | omega) (by first | assumption | omega) (by first | assumption | omega)) ⟨Nat.le_of_ble_eq_true rfl, Nat.le_of_ble_eq_true rfl⟩ rfl rfl rfl (by decide) rfl rfl rfl rfl rfl (Nat.le_of_ble_eq_true rfl) (Nat.zero_le _) (Nat.zero_le _) dX9_rope_5 (fun r_1 u_2 w_3 => ?_)
  try dsimp only at w_3
  subst w_3
  refine J_bif_ne (pc := 8) X 14 dX9_rope_8 (by decide) (fun c_4 => ?_) (fun c_4 => ?_)
  · skip
    obtain ⟨kn, hkn, rfl⟩ := inB_ex (by omega) c_4
    refine J_aload_n (pc := 14) X 0 dX9_rope_14 rfl ?_
    refine J_get (pc := 15) X clX9 0 3 rfl (by decide) g244 rfl dX9_rope_15 ?_
    refine J_iload_n (pc := 18) X 1 dX9_rope_18 rfl ?_
    refine J_callR (pc := 19) (As := [.int (nI kn)]) (rest := []) X mtX7_hasRope g503 [2, 3] 0 (kX7_hasRope l G cI cC cZ qs qsc c kn ) ⟨Nat.le_of_ble_eq_true rfl, Nat.le_of_ble_eq_true rfl⟩ rfl rfl rfl (by decide) rfl rfl rfl rfl rfl (Nat.le_of_ble_eq_true rfl) (Nat.zero_le _) (Nat.zero_le _) dX9_rope_19 (fun r_5 u_6 w_7 => ?_)
    try dsimp only at w_7
    subst w_7
    refine J_top (y := bI (hasR (nw 1) kn)) (by rw [hsc.2.1]) ?_
    refine J_bif_eq (pc := 22) X 29 dX9_rope_22 (by decide) (fun c_8 => ?_) (fun c_8 => ?_)
    · skip
      refine J_iconst (pc := 29) X 0 dX9_rope_29 (by decide) ?_
      refine J_istore_n (pc := 30) X [(3, .int 0), (0, .ref qx), (1, .int (nI kn)), (2, .int is_)] dX9_rope_30 (by decide) rfl ?_
      refine J_aload_n (pc := 31) X 1 dX9_rope_31 rfl ?_
      refine J_get (pc := 32) X clX9 0 5 rfl (by decide) g246 rfl dX9_rope_32 ?_
      refine J_aload_n (pc := 35) X 1 dX9_rope_35 rfl ?_
      refine J_get (pc := 36) X clX9 0 3 rfl (by decide) g244 rfl dX9_rope_36 ?_
      refine J_callV (pc := 39) (As := [.ref qs]) (rest := []) X mtX4_remember g565 [4, 5, 2, 3] [0, 1] [0, 1, 4, 5, 2, 3] 0 (fun u => [(qx, .inr (9, [.ref q, .ref qq, .ref qr, .ref qs, .ref qt, .ref qpa, .ref qi, .ref ql, .ref qb, .ref qg, .ref qw, .ref qn])), (q, .inr (5, [.int (nI P), .int gr, .int (nI wd), .int (nI g), .int (nI wk), .int fr, .ref qd, .ref qh, .ref qp])), (qs, .inr (7, [.ref qsc])), (qsc, .inl (cI, 18, .inl c)), (qpa, .inr (4, [.ref qpr, .int (nI u.1), .int (nI u.2.1)])), (qpr, .inl (cI, 540, .inl u.2.2))]) (kX4_remember l G cI cC cZ qpa qpr o dn rw_ qs qsc c nw ps wk (by first | assumption | omega) (by first | assumption | omega) (by first | assumption | omega) hpr hsc) ⟨Nat.le_of_ble_eq_true rfl, Nat.le_of_ble_eq_true rfl⟩ rfl rfl rfl (by decide) (wr := [(qx, .inr (9, [.ref q, .ref qq, .ref qr, .ref qs, .ref qt, .ref qpa, .ref qi, .ref ql, .ref qb, .ref qg, .ref qw, .ref qn])), (q, .inr (5, [.int (nI P), .int gr, .int (nI wd), .int (nI g), .int (nI wk), .int fr, .ref qd, .ref qh, .ref qp]))]) rfl (by decide) (by decide) (fun _ => rfl) (by decide) rfl rfl rfl rfl rfl (Nat.le_of_ble_eq_true rfl) (Nat.zero_le _) (Nat.zero_le _) dX9_rope_39 (fun u_10 w_11 => ?_)
      obtain ⟨oA, nA, rA⟩ := u_10
      try dsimp only at w_11
      have hrm := w_11
      refine J_aload_n (pc := 42) X 1 dX9_rope_42 rfl ?_
      refine J_get (pc := 43) X clX9 0 3 rfl (by decide) g244 rfl dX9_rope_43 ?_
      refine J_iload_n (pc := 46) X 2 dX9_rope_46 rfl ?_
      refine J_iload_n (pc := 47) X 3 dX9_rope_47 rfl ?_
      refine J_callV (pc := 48) (As := [.int (nI kn), .int is_]) (rest := []) X mtX7_layRope g589 [2, 3] [0, 1, 4, 5] [0, 1, 4, 5, 2, 3] 0 (fun u => [(qx, .inr (9, [.ref q, .ref qq, .ref qr, .ref qs, .ref qt, .ref qpa, .ref qi, .ref ql, .ref qb, .ref qg, .ref qw, .ref qn])), (q, .inr (5, [.int (nI P), .int gr, .int (nI wd), .int (nI g), .int (nI wk), .int fr, .ref qd, .ref qh, .ref qp])), (qs, .inr (7, [.ref qsc])), (qsc, .inl (cI, 18, .inl u)), (qpa, .inr (4, [.ref qpr, .int (nI oA), .int (nI nA)])), (qpr, .inl (cI, 540, .inl rA))]) (kX7_layRope l G cI cC cZ qs qsc c kn is_ ) ⟨Nat.le_of_ble_eq_true rfl, Nat.le_of_ble_eq_true rfl⟩ rfl rfl rfl (by decide) (wr := [(qx, .inr (9, [.ref q, .ref qq, .ref qr, .ref qs, .ref qt, .ref qpa, .ref qi, .ref ql, .ref qb, .ref qg, .ref qw, .ref qn])), (q, .inr (5, [.int (nI P), .int gr, .int (nI wd), .int (nI g), .int (nI wk), .int fr, .ref qd, .ref qh, .ref qp])), (qpa, .inr (4, [.ref qpr, .int (nI oA), .int (nI nA)])), (qpr, .inl (cI, 540, .inl rA))]) rfl (by decide) (by decide) (fun _ => rfl) (by decide) rfl rfl rfl rfl rfl (Nat.le_of_ble_eq_true rfl) (Nat.zero_le _) (Nat.zero_le _) dX9_rope_48 (fun u_13 w_14 => ?_)
      obtain ⟨cA, rfl⟩ : ∃ z, z = u_13 := ⟨_, rfl⟩
      try dsimp only at w_14
      have hla := w_14
      refine J_iload_n (pc := 51) X 0 dX9_rope_51 rfl ?_
      refine J_iret (pc := 52) X hr (cA, oA, nA, rA) dX9_rope_52 ?_ rfl
      have hin9 := (inB_nI (n := g) (j := kn) (by omega)).mpr hkn
      refine ⟨?_, fun _ => ⟨?_, hrm.1, hrm.2.1, hrm.2.2.2⟩, fun h => absurd hin9 h⟩
      · rw [if_pos hin9]; first | exact bit_t (by assumption) | exact bit_f (by assumption)
      · rw [hla, ropN, hsc.2.1]; exact rop_rel hsc
    · skip
      refine J_iconst (pc := 25) X 1 dX9_rope_25 (by decide) ?_
      refine J_goto (pc := 26) X 30 dX9_rope_26 (by decide) ?_
      refine J_istore_n (pc := 30) X [(3, .int 1), (0, .ref qx), (1, .int (nI kn)), (2, .int is_)] dX9_rope_30 (by decide) rfl ?_
      refine J_aload_n (pc := 31) X 1 dX9_rope_31 rfl ?_
      refine J_get (pc := 32) X clX9 0 5 rfl (by decide) g246 rfl dX9_rope_32 ?_
      refine J_aload_n (pc := 35) X 1 dX9_rope_35 rfl ?_
      refine J_get (pc := 36) X clX9 0 3 rfl (by decide) g244 rfl dX9_rope_36 ?_
      refine J_callV (pc := 39) (As := [.ref qs]) (rest := []) X mtX4_remember g565 [4, 5, 2, 3] [0, 1] [0, 1, 4, 5, 2, 3] 0 (fun u => [(qx, .inr (9, [.ref q, .ref qq, .ref qr, .ref qs, .ref qt, .ref qpa, .ref qi, .ref ql, .ref qb, .ref qg, .ref qw, .ref qn])), (q, .inr (5, [.int (nI P), .int gr, .int (nI wd), .int (nI g), .int (nI wk), .int fr, .ref qd, .ref qh, .ref qp])), (qs, .inr (7, [.ref qsc])), (qsc, .inl (cI, 18, .inl c)), (qpa, .inr (4, [.ref qpr, .int (nI u.1), .int (nI u.2.1)])), (qpr, .inl (cI, 540, .inl u.2.2))]) (kX4_remember l G cI cC cZ qpa qpr o dn rw_ qs qsc c nw ps wk (by first | assumption | omega) (by first | assumption | omega) (by first | assumption | omega) hpr hsc) ⟨Nat.le_of_ble_eq_true rfl, Nat.le_of_ble_eq_true rfl⟩ rfl rfl rfl (by decide) (wr := [(qx, .inr (9, [.ref q, .ref qq, .ref qr, .ref qs, .ref qt, .ref qpa, .ref qi, .ref ql, .ref qb, .ref qg, .ref qw, .ref qn])), (q, .inr (5, [.int (nI P), .int gr, .int (nI wd), .int (nI g), .int (nI wk), .int fr, .ref qd, .ref qh, .ref qp]))]) rfl (by decide) (by decide) (fun _ => rfl) (by decide) rfl rfl rfl rfl rfl (Nat.le_of_ble_eq_true rfl) (Nat.zero_le _) (Nat.zero_le _) dX9_rope_39 (fun u_16 w_17 => ?_)
      obtain ⟨oA, nA, rA⟩ := u_16
      try dsimp only at w_17
      have hrm := w_17
      refine J_aload_n (pc := 42) X 1 dX9_rope_42 rfl ?_
      refine J_get (pc := 43) X clX9 0 3 rfl (by decide) g244 rfl dX9_rope_43 ?_
      refine J_iload_n (pc := 46) X 2 dX9_rope_46 rfl ?_
      refine J_iload_n (pc := 47) X 3 dX9_rope_47 rfl ?_
      refine J_callV (pc := 48) (As := [.int (nI kn), .int is_]) (rest := []) X mtX7_layRope g589 [2, 3] [0, 1, 4, 5] [0, 1, 4, 5, 2, 3] 0 (fun u => [(qx, .inr (9, [.ref q, .ref qq, .ref qr, .ref qs, .ref qt, .ref qpa, .ref qi, .ref ql, .ref qb, .ref qg, .ref qw, .ref qn])), (q, .inr (5, [.int (nI P), .int gr, .int (nI wd), .int (nI g), .int (nI wk), .int fr, .ref qd, .ref qh, .ref qp])), (qs, .inr (7, [.ref qsc])), (qsc, .inl (cI, 18, .inl u)), (qpa, .inr (4, [.ref qpr, .int (nI oA), .int (nI nA)])), (qpr, .inl (cI, 540, .inl rA))]) (kX7_layRope l G cI cC cZ qs qsc c kn is_ ) ⟨Nat.le_of_ble_eq_true rfl, Nat.le_of_ble_eq_true rfl⟩ rfl rfl rfl (by decide) (wr := [(qx, .inr (9, [.ref q, .ref qq, .ref qr, .ref qs, .ref qt, .ref qpa, .ref qi, .ref ql, .ref qb, .ref qg, .ref qw, .ref qn])), (q, .inr (5, [.int (nI P), .int gr, .int (nI wd), .int (nI g), .int (nI wk), .int fr, .ref qd, .ref qh, .ref qp])), (qpa, .inr (4, [.ref qpr, .int (nI oA), .int (nI nA)])), (qpr, .inl (cI, 540, .inl rA))]) rfl (by decide) (by decide) (fun _ => rfl) (by decide) rfl rfl rfl rfl rfl (Nat.le_of_ble_eq_true rfl) (Nat.zero_le _) (Nat.zero_le _) dX9_rope_48 (fun u_19 w_20 => ?_)
      obtain ⟨cA, rfl⟩ : ∃ z, z = u_19 := ⟨_, rfl⟩
      try dsimp only at w_20
      have hla := w_20
      refine J_iload_n (pc := 51) X 0 dX9_rope_51 rfl ?_
      refine J_iret (pc := 52) X hr (cA, oA, nA, rA) dX9_rope_52 ?_ rfl
      have hin9 := (inB_nI (n := g) (j := kn) (by omega)).mpr hkn
      refine ⟨?_, fun _ => ⟨?_, hrm.1, hrm.2.1, hrm.2.2.2⟩, fun h => absurd hin9 h⟩
      · rw [if_pos hin9]; first | exact bit_t (by assumption) | exact bit_f (by assumption)
      · rw [hla, ropN, hsc.2.1]; exact rop_rel hsc
  · skip
    refine J_ldc (pc := 11) X g473 dX9_rope_11 ?_
    refine J_iret (pc := 13) X hr (c, o, dn, rw_) dX9_rope_13 ?_ rfl
    exact ⟨(if_neg (by assumption)).symm, fun h => absurd h (by assumption), fun _ => ⟨rfl, rfl, rfl, rfl⟩⟩
set_option maxRecDepth 100000 in
set_option maxHeartbeats 600000 in
theorem kX9_refusalOfMinutes (l : Launch) (G : va_G) (cI cC cZ : ClassId) (qx : Nat) (q : Nat) (qq : Nat) (qr : Nat) (qs : Nat) (qt : Nat) (qpa : Nat) (qi : Nat) (ql : Nat) (qb : Nat) (qg : Nat) (qw : Nat) (qn : Nat) (qd : Nat) (qh : Nat) (qp : Nat) (P : Nat) (gr : Int32) (wd : Nat) (g : Nat) (wk : Nat) (fr : Int32) (qsc : Nat) (c : Nat → Int32) (nw : Nat → Int32) (n : Int32) (hPl : P ≤ 60) (hg : g ≤ 8) (hwk : wk ≤ 4) (hwd : wd ≤ 50) (hsc : scR c nw wk) : CI l G (tys3 cI cC cZ) yX9_refusalOfMinutes cX9_refusalOfMinutes 2 (some .int) ({ frames := 1, cells := 0, slots := 0, locals := 22 }) [.ref qx, .int n] [(qx, .inr (9, [.ref q, .ref qq, .ref qr, .ref qs, .ref qt, .ref qpa, .ref qi, .ref ql, .ref qb, .ref qg, .ref qw, .ref qn])), (q, .inr (5, [.int (nI P), .int gr, .int (nI wd), .int (nI g), .int (nI wk), .int fr, .ref qd, .ref qh, .ref qp])), (qs, .inr (7, [.ref qsc])), (qsc, .inl (cI, 18, .inl c))] (S := Unit) (fun (r : Int32) (u : Unit) => r = barP n P (nw 0)) (fun _ => [(qx, .inr (9, [.ref q, .ref qq, .ref qr, .ref qs, .ref qt, .ref qpa, .ref qi, .ref ql, .ref qb, .ref qg, .ref qw, .ref qn])), (q, .inr (5, [.int (nI P), .int gr, .int (nI wd), .int (nI g), .int (nI wk), .int fr, .ref qd, .ref qh, .ref qp])), (qs, .inr (7, [.ref qsc])), (qsc, .inl (cI, 18, .inl c))]) := by
  refine CI.intro (by decide) (Nat.le_of_ble_eq_true rfl) ?_
  intro p0 e0 s0 m0 ar0 be0 me0 c0 A0 X hr
  refine J_iload_n (pc := 0) X 1 dX9_refusalOfMinutes_0 rfl ?_
  refine J_iconst (pc := 1) X 1 dX9_refusalOfMinutes_1 (by decide) ?_
  refine J_bipush (pc := 2) X 60 dX9_refusalOfMinutes_2 (by decide) ?_
  refine J_callS (pc := 4) (As := [.int n, .int 1, .int 60]) (rest := []) X mtX9_isWithin g282 [] (kX9_isWithin l G cI cC cZ n 1 60 ) ⟨Nat.le_of_ble_eq_true rfl, Nat.le_of_ble_eq_true rfl⟩ rfl rfl rfl (by decide) rfl rfl (Nat.le_of_ble_eq_true rfl) (Nat.zero_le _) (Nat.zero_le _) dX9_refusalOfMinutes_4 (fun r_1 u_2 w_3 => ?_)
  try dsimp only at w_3
  subst w_3
  refine J_bif_ne (pc := 7) X 13 dX9_refusalOfMinutes_7 (by decide) (fun c_4 => ?_) (fun c_4 => ?_)
  · skip
    refine J_aload_n (pc := 13) X 0 dX9_refusalOfMinutes_13 rfl ?_
    refine J_get (pc := 14) X clX9 0 0 rfl (by decide) g241 rfl dX9_refusalOfMinutes_14 ?_
    refine J_callR (pc := 17) (As := []) (rest := []) X mtX5_isTold g601 [1] 0 (kX5_isTold l G cI cC cZ q qd qh qp P gr wd g wk fr (by first | assumption | omega) (by first | assumption | omega) (by first | assumption | omega) (by first | assumption | omega)) ⟨Nat.le_of_ble_eq_true rfl, Nat.le_of_ble_eq_true rfl⟩ rfl rfl rfl (by decide) rfl rfl rfl rfl rfl (Nat.le_of_ble_eq_true rfl) (Nat.zero_le _) (Nat.zero_le _) dX9_refusalOfMinutes_17 (fun r_5 u_6 w_7 => ?_)
    try dsimp only at w_7
    subst w_7
    refine J_bif_ne (pc := 20) X 26 dX9_refusalOfMinutes_20 (by decide) (fun c_8 => ?_) (fun c_8 => ?_)
    · skip
      refine J_aload_n (pc := 26) X 0 dX9_refusalOfMinutes_26 rfl ?_
      refine J_get (pc := 27) X clX9 0 3 rfl (by decide) g244 rfl dX9_refusalOfMinutes_27 ?_
      refine J_callR (pc := 30) (As := []) (rest := []) X mtX7_clock g449 [2, 3] 0 (kX7_clock l G cI cC cZ qs qsc c ) ⟨Nat.le_of_ble_eq_true rfl, Nat.le_of_ble_eq_true rfl⟩ rfl rfl rfl (by decide) rfl rfl rfl rfl rfl (Nat.le_of_ble_eq_true rfl) (Nat.zero_le _) (Nat.zero_le _) dX9_refusalOfMinutes_30 (fun r_9 u_10 w_11 => ?_)
      try dsimp only at w_11
      subst w_11
      refine J_top (y := nw 0) hsc.1 ?_
      refine J_ldcw (pc := 33) X g602 dX9_refusalOfMinutes_33 ?_
      refine J_icmp_le (pc := 36) X 44 dX9_refusalOfMinutes_36 (by decide) (fun c_12 => ?_) (fun c_12 => ?_)
      · have c_12 := Int32.not_lt.mpr c_12
        refine J_iconst (pc := 44) X 0 dX9_refusalOfMinutes_44 (by decide) ?_
        refine J_iret (pc := 45) X hr () dX9_refusalOfMinutes_45 ?_ rfl
        simp [barP, c_4, c_8, c_12]
      · have c_12 := Int32.not_le.mp c_12
        refine J_ldc (pc := 39) X g294 dX9_refusalOfMinutes_39 ?_
        refine J_goto (pc := 41) X 45 dX9_refusalOfMinutes_41 (by decide) ?_
        refine J_iret (pc := 45) X hr () dX9_refusalOfMinutes_45 ?_ rfl
        simp [barP, c_4, c_8, c_12]
    · skip
      refine J_ldc (pc := 23) X g564 dX9_refusalOfMinutes_23 ?_
      refine J_iret (pc := 25) X hr () dX9_refusalOfMinutes_25 ?_ rfl
      simp [barP, c_4, c_8]
  · skip
    refine J_ldc (pc := 10) X g285 dX9_refusalOfMinutes_10 ?_
    refine J_iret (pc := 12) X hr () dX9_refusalOfMinutes_12 ?_ rfl
    simp [barP, c_4]
