set_option maxRecDepth 100000 in
set_option maxHeartbeats 600000 in
theorem kX9_rent (l : Launch) (G : va_G) (cI cC cZ : ClassId) (qx : Nat) (q : Nat) (qq : Nat) (qr : Nat) (qs : Nat) (qt : Nat) (qpa : Nat) (qi : Nat) (ql : Nat) (qb : Nat) (qg : Nat) (qw : Nat) (qn : Nat) (qd : Nat) (qh : Nat) (qp : Nat) (P : Nat) (gr : Int32) (wd : Nat) (g : Nat) (wk : Nat) (fr : Int32) (dyr : Nat → Int32) (qsc : Nat) (c : Nat → Int32) (nw : Nat → Int32) (dy : Nat → Int32) (n : Int32) (hPl : P ≤ 60) (hg : g ≤ 8) (hwk : wk ≤ 4) (hwd : wd ≤ 50) (hwd0 : 0 < g → 0 < wd) (hdy : ∀ k, k < g → dyr k = dy k) (hsc : scR c nw wk) : CI l G (tys3 cI cC cZ) yX9_rent cX9_rent 5 (some .int) ({ frames := 4, cells := 0, slots := 0, locals := 91 }) [.ref qx, .int n] [(qx, .inr (9, [.ref q, .ref qq, .ref qr, .ref qs, .ref qt, .ref qpa, .ref qi, .ref ql, .ref qb, .ref qg, .ref qw, .ref qn])), (q, .inr (5, [.int (nI P), .int gr, .int (nI wd), .int (nI g), .int (nI wk), .int fr, .ref qd, .ref qh, .ref qp])), (qd, .inl (cI, 8, .inl dyr)), (qs, .inr (7, [.ref qsc])), (qsc, .inl (cI, 18, .inl c))] (S := Unit) (fun (r : Int32) (u : Unit) => r = spRent g P wd dy gr (nw 0) n) (fun _ => [(qx, .inr (9, [.ref q, .ref qq, .ref qr, .ref qs, .ref qt, .ref qpa, .ref qi, .ref ql, .ref qb, .ref qg, .ref qw, .ref qn])), (q, .inr (5, [.int (nI P), .int gr, .int (nI wd), .int (nI g), .int (nI wk), .int fr, .ref qd, .ref qh, .ref qp])), (qd, .inl (cI, 8, .inl dyr)), (qs, .inr (7, [.ref qsc])), (qsc, .inl (cI, 18, .inl c))]) := by
  refine CI.intro (by decide) (Nat.le_of_ble_eq_true rfl) ?_
  intro p0 e0 s0 m0 ar0 be0 me0 c0 A0 X hr
  refine J_iload_n (pc := 0) X 1 dX9_rent_0 rfl ?_
  refine J_iconst (pc := 1) X 0 dX9_rent_1 (by decide) ?_
  refine J_bipush (pc := 2) X 120 dX9_rent_2 (by decide) ?_
  refine J_callS (pc := 4) (As := [.int n, .int 0, .int 120]) (rest := []) X mtX9_isWithin g282 [] (kX9_isWithin l G cI cC cZ n 0 120 ) ⟨Nat.le_of_ble_eq_true rfl, Nat.le_of_ble_eq_true rfl⟩ rfl rfl rfl (by decide) rfl rfl (Nat.le_of_ble_eq_true rfl) (Nat.zero_le _) (Nat.zero_le _) dX9_rent_4 (fun r_1 u_2 w_3 => ?_)
  try dsimp only at w_3
  subst w_3
  refine J_bif_ne (pc := 7) X 13 dX9_rent_7 (by decide) (fun c_4 => ?_) (fun c_4 => ?_)
  · skip
    have hwn9 := c_4
    obtain ⟨nn, hnn1, hnn2, rfl⟩ := wIn_ex 0 120 (by decide) (by decide) c_4
    refine J_aload_n (pc := 13) X 0 dX9_rent_13 rfl ?_
    refine J_get (pc := 14) X clX9 0 0 rfl (by decide) g241 rfl dX9_rent_14 ?_
    refine J_callR (pc := 17) (As := []) (rest := []) X mtX5_isTold g601 [1] 0 (kX5_isTold l G cI cC cZ q qd qh qp P gr wd g wk fr (by first | assumption | omega) (by first | assumption | omega) (by first | assumption | omega) (by first | assumption | omega)) ⟨Nat.le_of_ble_eq_true rfl, Nat.le_of_ble_eq_true rfl⟩ rfl rfl rfl (by decide) rfl rfl rfl rfl rfl (Nat.le_of_ble_eq_true rfl) (Nat.zero_le _) (Nat.zero_le _) dX9_rent_17 (fun r_5 u_6 w_7 => ?_)
    try dsimp only at w_7
    subst w_7
    refine J_bif_ne (pc := 20) X 26 dX9_rent_20 (by decide) (fun c_8 => ?_) (fun c_8 => ?_)
    · skip
      refine J_iconst (pc := 26) X 0 dX9_rent_26 (by decide) ?_
      refine J_istore_n (pc := 27) X [(2, .int 0), (0, .ref qx), (1, .int (nI nn))] dX9_rent_27 (by decide) rfl ?_
      refine J_iconst (pc := 28) X 0 dX9_rent_28 (by decide) ?_
      refine J_istore_n (pc := 29) X [(3, .int 0), (2, .int 0), (0, .ref qx), (1, .int (nI nn))] dX9_rent_29 (by decide) rfl ?_
      have L_30 : ∀ (n_30 : Nat) (i : Nat) (sm : Int32) (hi : i ≤ nn) (hsum : sm = sumI (fun i9 => sumI (fun k9 => nH wd (yG P (dy k9) gr (nw 0 + nI i9))) g) i), (nn - i) < n_30 → JJ p0 l e0 ({ frames := 4, cells := 0, slots := 0, locals := 91 }) s0 m0 ar0 be0 me0 c0 A0 G 5 0 0 (QI be0 ar0 s0 A0 G (tys3 cI cC cZ) (S := Unit) (fun (r : Int32) (u : Unit) => r = spRent g P wd dy gr (nw 0) (nI nn)) (fun _ => [(qx, .inr (9, [.ref q, .ref qq, .ref qr, .ref qs, .ref qt, .ref qpa, .ref qi, .ref ql, .ref qb, .ref qg, .ref qw, .ref qn])), (q, .inr (5, [.int (nI P), .int gr, .int (nI wd), .int (nI g), .int (nI wk), .int fr, .ref qd, .ref qh, .ref qp])), (qd, .inl (cI, 8, .inl dyr)), (qs, .inr (7, [.ref qsc])), (qsc, .inl (cI, 18, .inl c))])) [(qx, .inr (9, [.ref q, .ref qq, .ref qr, .ref qs, .ref qt, .ref qpa, .ref qi, .ref ql, .ref qb, .ref qg, .ref qw, .ref qn])), (q, .inr (5, [.int (nI P), .int gr, .int (nI wd), .int (nI g), .int (nI wk), .int fr, .ref qd, .ref qh, .ref qp])), (qd, .inl (cI, 8, .inl dyr)), (qs, .inr (7, [.ref qsc])), (qsc, .inl (cI, 18, .inl c))] 30 [(0, .ref qx), (1, .int (nI nn)), (2, .int sm), (3, .int (nI i))] [] := by
        intro n_30
        induction n_30 with
        | zero => intro i sm hi hsum hm_30; exact absurd hm_30 (Nat.not_lt_zero _)
        | succ n_30 ih_30 =>
          intro i sm hi hsum hm_30
          refine J_iload_n (pc := 30) X 3 dX9_rent_30 rfl ?_
          refine J_iload_n (pc := 31) X 1 dX9_rent_31 rfl ?_
          refine J_icmp_ge (pc := 32) X 83 dX9_rent_32 (by decide) (fun c_9 => ?_) (fun c_9 => ?_)
          · have c_9 : nn ≤ i := n_le_of (a := nn) (b := i) (by omega) (by omega) c_9
            refine J_iload_n (pc := 83) X 2 dX9_rent_83 rfl ?_
            refine J_iret (pc := 84) X hr () dX9_rent_84 ?_ rfl
            rw [spRent, if_pos hwn9]
            rw [if_pos (by assumption), nI_clamp (by omega), hsum]
            exact congrArg (sumI _) (by omega)
          · have c_9 : i < nn := n_nle_of (a := nn) (b := i) (by omega) (by omega) c_9
            refine J_iconst (pc := 35) X 0 dX9_rent_35 (by decide) ?_
            refine J_istore (pc := 36) X [(4, .int 0), (0, .ref qx), (1, .int (nI nn)), (2, .int sm), (3, .int (nI i))] dX9_rent_36 (by decide) rfl ?_
            have L_38 : ∀ (n_38 : Nat) (k : Nat) (sm2 : Int32) (hk : k ≤ g) (hin : sm2 = sumI (fun i9 => sumI (fun k9 => nH wd (yG P (dy k9) gr (nw 0 + nI i9))) g) i + sumI (fun k9 => nH wd (yG P (dy k9) gr (nw 0 + nI i))) k), (g - k) < n_38 → JJ p0 l e0 ({ frames := 4, cells := 0, slots := 0, locals := 91 }) s0 m0 ar0 be0 me0 c0 A0 G 5 0 0 (QI be0 ar0 s0 A0 G (tys3 cI cC cZ) (S := Unit) (fun (r : Int32) (u : Unit) => r = spRent g P wd dy gr (nw 0) (nI nn)) (fun _ => [(qx, .inr (9, [.ref q, .ref qq, .ref qr, .ref qs, .ref qt, .ref qpa, .ref qi, .ref ql, .ref qb, .ref qg, .ref qw, .ref qn])), (q, .inr (5, [.int (nI P), .int gr, .int (nI wd), .int (nI g), .int (nI wk), .int fr, .ref qd, .ref qh, .ref qp])), (qd, .inl (cI, 8, .inl dyr)), (qs, .inr (7, [.ref qsc])), (qsc, .inl (cI, 18, .inl c))])) [(qx, .inr (9, [.ref q, .ref qq, .ref qr, .ref qs, .ref qt, .ref qpa, .ref qi, .ref ql, .ref qb, .ref qg, .ref qw, .ref qn])), (q, .inr (5, [.int (nI P), .int gr, .int (nI wd), .int (nI g), .int (nI wk), .int fr, .ref qd, .ref qh, .ref qp])), (qd, .inl (cI, 8, .inl dyr)), (qs, .inr (7, [.ref qsc])), (qsc, .inl (cI, 18, .inl c))] 38 [(0, .ref qx), (1, .int (nI nn)), (2, .int sm2), (3, .int (nI i)), (4, .int (nI k))] [] := by
              intro n_38
              induction n_38 with
              | zero => intro k sm2 hk hin hm_38; exact absurd hm_38 (Nat.not_lt_zero _)
              | succ n_38 ih_38 =>
                intro k sm2 hk hin hm_38
                refine J_iload (pc := 38) X 4 dX9_rent_38 rfl ?_
                refine J_aload_n (pc := 40) X 0 dX9_rent_40 rfl ?_
                refine J_get (pc := 41) X clX9 0 0 rfl (by decide) g241 rfl dX9_rent_41 ?_
                refine J_callR (pc := 44) (As := []) (rest := [.int (nI k)]) X mtX5_gapCount g662 [1] 0 (kX5_gapCount l G cI cC cZ q qd qh qp P gr wd g wk fr ) ⟨Nat.le_of_ble_eq_true rfl, Nat.le_of_ble_eq_true rfl⟩ rfl rfl rfl (by decide) rfl rfl rfl rfl rfl (Nat.le_of_ble_eq_true rfl) (Nat.zero_le _) (Nat.zero_le _) dX9_rent_44 (fun r_10 u_11 w_12 => ?_)
                try dsimp only at w_12
                subst w_12
                refine J_icmp_ge (pc := 47) X 77 dX9_rent_47 (by decide) (fun c_13 => ?_) (fun c_13 => ?_)
                · have c_13 : g ≤ k := n_le_of (a := g) (b := k) (by omega) (by omega) c_13
                  refine J_iinc (pc := 77) X (nI (i + 1)) 3 [(3, .int (nI (i + 1))), (0, .ref qx), (1, .int (nI nn)), (2, .int sm2), (4, .int (nI k))] dX9_rent_77 rfl (n_add (x := i) (y := 1) rfl rfl (by omega)) (by decide) rfl ?_
                  refine J_goto (pc := 80) X 30 dX9_rent_80 (by decide) ?_
                  refine J_loc [1, 2, 3, 0] (lv2 := [(0, .ref qx), (1, .int (nI nn)), (2, .int sm2), (3, .int (nI (i + 1)))]) rfl ?_
                  exact ih_30  (i + 1) sm2 (by first | assumption | omega | simp_all) (by rw [hin, show k = g from by omega]; rfl) (by omega)
                · have c_13 : k < g := n_nle_of (a := g) (b := k) (by omega) (by omega) c_13
                  refine J_iload_n (pc := 50) X 2 dX9_rent_50 rfl ?_
                  refine J_aload_n (pc := 51) X 0 dX9_rent_51 rfl ?_
                  refine J_get (pc := 52) X clX9 0 0 rfl (by decide) g241 rfl dX9_rent_52 ?_
                  refine J_iload (pc := 55) X 4 dX9_rent_55 rfl ?_
                  refine J_aload_n (pc := 57) X 0 dX9_rent_57 rfl ?_
                  refine J_get (pc := 58) X clX9 0 3 rfl (by decide) g244 rfl dX9_rent_58 ?_
                  refine J_callR (pc := 61) (As := []) (rest := [.int (nI k), .ref q, .int sm2]) X mtX7_clock g449 [3, 4] 0 (kX7_clock l G cI cC cZ qs qsc c ) ⟨Nat.le_of_ble_eq_true rfl, Nat.le_of_ble_eq_true rfl⟩ rfl rfl rfl (by decide) rfl rfl rfl rfl rfl (Nat.le_of_ble_eq_true rfl) (Nat.zero_le _) (Nat.zero_le _) dX9_rent_61 (fun r_14 u_15 w_16 => ?_)
                  try dsimp only at w_16
                  subst w_16
                  refine J_top (y := nw 0) hsc.1 ?_
                  refine J_iload_n (pc := 64) X 3 dX9_rent_64 rfl ?_
                  refine J_iadd (pc := 65) X dX9_rent_65 ?_
                  refine J_callR (pc := 66) (As := [.int (nI k), .int ((nw 0) + (nI i))]) (rest := [.int sm2]) X mtX5_nightHousesAt g494 [1, 2] 0 (kX5_nightHousesAt l G cI cC cZ q qd qh qp P gr wd g wk fr dyr k ((nw 0) + (nI i)) dy (by first | assumption | omega) (by first | assumption | omega) (by first | assumption | omega) (by first | assumption | omega) (by first | assumption | omega) (by first | assumption | omega) (by assumption) (hwd0 (by omega))) ⟨Nat.le_of_ble_eq_true rfl, Nat.le_of_ble_eq_true rfl⟩ rfl rfl rfl (by decide) rfl rfl rfl rfl rfl (Nat.le_of_ble_eq_true rfl) (Nat.zero_le _) (Nat.zero_le _) dX9_rent_66 (fun r_17 u_18 w_19 => ?_)
                  try dsimp only at w_19
                  subst w_19
                  refine J_iadd (pc := 69) X dX9_rent_69 ?_
                  refine J_istore_n (pc := 70) X [(2, .int (sm2 + (nH wd (yG P (dy k) gr ((nw 0) + (nI i)))))), (0, .ref qx), (1, .int (nI nn)), (3, .int (nI i)), (4, .int (nI k))] dX9_rent_70 (by decide) rfl ?_
                  refine J_iinc (pc := 71) X (nI (k + 1)) 4 [(4, .int (nI (k + 1))), (2, .int (sm2 + (nH wd (yG P (dy k) gr ((nw 0) + (nI i)))))), (0, .ref qx), (1, .int (nI nn)), (3, .int (nI i))] dX9_rent_71 rfl (n_add (x := k) (y := 1) rfl rfl (by omega)) (by decide) rfl ?_
                  refine J_goto (pc := 74) X 38 dX9_rent_74 (by decide) ?_
                  refine J_loc [2, 3, 1, 4, 0] (lv2 := [(0, .ref qx), (1, .int (nI nn)), (2, .int (sm2 + (nH wd (yG P (dy k) gr ((nw 0) + (nI i)))))), (3, .int (nI i)), (4, .int (nI (k + 1)))]) rfl ?_
                  exact ih_38  (k + 1) (sm2 + (nH wd (yG P (dy k) gr ((nw 0) + (nI i))))) (by first | assumption | omega | simp_all) (by rw [hin]; exact Int32.add_assoc _ _ _) (by omega)
            refine J_loc [1, 2, 3, 4, 0] (lv2 := [(0, .ref qx), (1, .int (nI nn)), (2, .int sm), (3, .int (nI i)), (4, .int 0)]) rfl ?_
            exact L_38 _  0 sm (by first | assumption | omega | simp_all) (by rw [hsum]; exact (Int32.add_zero _).symm) (Nat.lt_succ_self _)
      refine J_loc [2, 3, 1, 0] (lv2 := [(0, .ref qx), (1, .int (nI nn)), (2, .int 0), (3, .int 0)]) rfl ?_
      exact L_30 _  0 0 (by first | assumption | omega | simp_all) rfl (Nat.lt_succ_self _)
    · skip
      refine J_ldc (pc := 23) X g564 dX9_rent_23 ?_
      refine J_iret (pc := 25) X hr () dX9_rent_25 ?_ rfl
      rw [spRent, if_pos hwn9]
      exact (if_neg (by assumption)).symm
  · skip
    refine J_ldc (pc := 10) X g285 dX9_rent_10 ?_
    refine J_iret (pc := 12) X hr () dX9_rent_12 ?_ rfl
    exact (if_neg (by assumption)).symm
set_option maxRecDepth 100000 in
set_option maxHeartbeats 600000 in
theorem kX9_lamp (l : Launch) (G : va_G) (cI cC cZ : ClassId) (qx : Nat) (q : Nat) (qq : Nat) (qr : Nat) (qs : Nat) (qt : Nat) (qpa : Nat) (qi : Nat) (ql : Nat) (qb : Nat) (qg : Nat) (qw : Nat) (qn : Nat) (qd : Nat) (qh : Nat) (qp : Nat) (P : Nat) (gr : Int32) (wd : Nat) (g : Nat) (wk : Nat) (fr : Int32) (n : Int32) (q9 : Int32) (hPl : P ≤ 60) (hg : g ≤ 8) (hwk : wk ≤ 4) (hwd : wd ≤ 50) : CI l G (tys3 cI cC cZ) yX9_lamp cX9_lamp 6 (some .int) ({ frames := 1, cells := 0, slots := 0, locals := 22 }) [.ref qx, .int n, .int q9] [(qx, .inr (9, [.ref q, .ref qq, .ref qr, .ref qs, .ref qt, .ref qpa, .ref qi, .ref ql, .ref qb, .ref qg, .ref qw, .ref qn])), (q, .inr (5, [.int (nI P), .int gr, .int (nI wd), .int (nI g), .int (nI wk), .int fr, .ref qd, .ref qh, .ref qp]))] (S := Unit) (fun (r : Int32) (u : Unit) => r = spLamp g n q9) (fun _ => [(qx, .inr (9, [.ref q, .ref qq, .ref qr, .ref qs, .ref qt, .ref qpa, .ref qi, .ref ql, .ref qb, .ref qg, .ref qw, .ref qn])), (q, .inr (5, [.int (nI P), .int gr, .int (nI wd), .int (nI g), .int (nI wk), .int fr, .ref qd, .ref qh, .ref qp]))]) := by
  refine CI.intro (by decide) (Nat.le_of_ble_eq_true rfl) ?_
  intro p0 e0 s0 m0 ar0 be0 me0 c0 A0 X hr
  refine J_iload_n (pc := 0) X 1 dX9_lamp_0 rfl ?_
  refine J_iconst (pc := 1) X 0 dX9_lamp_1 (by decide) ?_
  refine J_bipush (pc := 2) X 60 dX9_lamp_2 (by decide) ?_
  refine J_callS (pc := 4) (As := [.int n, .int 0, .int 60]) (rest := []) X mtX9_isWithin g282 [] (kX9_isWithin l G cI cC cZ n 0 60 ) ⟨Nat.le_of_ble_eq_true rfl, Nat.le_of_ble_eq_true rfl⟩ rfl rfl rfl (by decide) rfl rfl (Nat.le_of_ble_eq_true rfl) (Nat.zero_le _) (Nat.zero_le _) dX9_lamp_4 (fun r_1 u_2 w_3 => ?_)
  try dsimp only at w_3
  subst w_3
  refine J_bif_eq (pc := 7) X 21 dX9_lamp_7 (by decide) (fun c_4 => ?_) (fun c_4 => ?_)
  · skip
    refine J_ldc (pc := 21) X g285 dX9_lamp_21 ?_
    refine J_iret (pc := 23) X hr () dX9_lamp_23 ?_ rfl
    first | exact (if_neg (fun z => absurd z.1 (by assumption))).symm | exact (if_neg (fun z => absurd z.2 (by assumption))).symm
  · skip
    refine J_iload_n (pc := 10) X 2 dX9_lamp_10 rfl ?_
    refine J_iconst (pc := 11) X 0 dX9_lamp_11 (by decide) ?_
    refine J_sipush (pc := 12) X 1000 dX9_lamp_12 (by decide) ?_
    refine J_callS (pc := 15) (As := [.int q9, .int 0, .int 1000]) (rest := []) X mtX9_isWithin g282 [] (kX9_isWithin l G cI cC cZ q9 0 1000 ) ⟨Nat.le_of_ble_eq_true rfl, Nat.le_of_ble_eq_true rfl⟩ rfl rfl rfl (by decide) rfl rfl (Nat.le_of_ble_eq_true rfl) (Nat.zero_le _) (Nat.zero_le _) dX9_lamp_15 (fun r_5 u_6 w_7 => ?_)
    try dsimp only at w_7
    subst w_7
    refine J_bif_ne (pc := 18) X 24 dX9_lamp_18 (by decide) (fun c_8 => ?_) (fun c_8 => ?_)
    · skip
      have hwn9 := c_4
      obtain ⟨nn, hnn1, hnn2, rfl⟩ := wIn_ex 0 60 (by decide) (by decide) c_4
      obtain ⟨pr, hpr⟩ : ∃ pr, pr = nn * g := ⟨_, rfl⟩
      have hpr2 : pr ≤ 480 := by rw [hpr]; exact Nat.mul_le_mul hnn2 hg
      refine J_ldc2 (pc := 24) X g762 dX9_lamp_24 ?_
      refine J_lstore_n (pc := 27) X [(3, .long 1000000000), (0, .ref qx), (1, .int (nI nn)), (2, .int q9)] dX9_lamp_27 (by decide) rfl ?_
      refine J_iconst (pc := 28) X 0 dX9_lamp_28 (by decide) ?_
      refine J_istore (pc := 29) X [(5, .int 0), (3, .long 1000000000), (0, .ref qx), (1, .int (nI nn)), (2, .int q9)] dX9_lamp_29 (by decide) rfl ?_
      have L_31 : ∀ (n_31 : Nat) (i : Nat) (hi : i ≤ pr), (pr - i) < n_31 → JJ p0 l e0 ({ frames := 1, cells := 0, slots := 0, locals := 22 }) s0 m0 ar0 be0 me0 c0 A0 G 6 0 0 (QI be0 ar0 s0 A0 G (tys3 cI cC cZ) (S := Unit) (fun (r : Int32) (u : Unit) => r = spLamp g (nI nn) q9) (fun _ => [(qx, .inr (9, [.ref q, .ref qq, .ref qr, .ref qs, .ref qt, .ref qpa, .ref qi, .ref ql, .ref qb, .ref qg, .ref qw, .ref qn])), (q, .inr (5, [.int (nI P), .int gr, .int (nI wd), .int (nI g), .int (nI wk), .int fr, .ref qd, .ref qh, .ref qp]))])) [(qx, .inr (9, [.ref q, .ref qq, .ref qr, .ref qs, .ref qt, .ref qpa, .ref qi, .ref ql, .ref qb, .ref qg, .ref qw, .ref qn])), (q, .inr (5, [.int (nI P), .int gr, .int (nI wd), .int (nI g), .int (nI wk), .int fr, .ref qd, .ref qh, .ref qp]))] 31 [(0, .ref qx), (1, .int (nI nn)), (2, .int q9), (3, .long (lampTo q9 i)), (5, .int (nI i))] [] := by
        intro n_31
        induction n_31 with
        | zero => intro i hi hm_31; exact absurd hm_31 (Nat.not_lt_zero _)
        | succ n_31 ih_31 =>
          intro i hi hm_31
          refine J_iload (pc := 31) X 4 dX9_lamp_31 rfl ?_
          refine J_iload_n (pc := 33) X 1 dX9_lamp_33 rfl ?_
          refine J_aload_n (pc := 34) X 0 dX9_lamp_34 rfl ?_
          refine J_get (pc := 35) X clX9 0 0 rfl (by decide) g241 rfl dX9_lamp_35 ?_
          refine J_callR (pc := 38) (As := []) (rest := [.int (nI nn), .int (nI i)]) X mtX5_gapCount g662 [1] 0 (kX5_gapCount l G cI cC cZ q qd qh qp P gr wd g wk fr ) ⟨Nat.le_of_ble_eq_true rfl, Nat.le_of_ble_eq_true rfl⟩ rfl rfl rfl (by decide) rfl rfl rfl rfl rfl (Nat.le_of_ble_eq_true rfl) (Nat.zero_le _) (Nat.zero_le _) dX9_lamp_38 (fun r_9 u_10 w_11 => ?_)
          try dsimp only at w_11
          subst w_11
          refine J_imul (pc := 41) X dX9_lamp_41 ?_
          refine J_top (y := nI pr) (n_mul (x := nn) (y := g) rfl rfl hpr.symm) ?_
          refine J_icmp_ge (pc := 42) X 64 dX9_lamp_42 (by decide) (fun c_12 => ?_) (fun c_12 => ?_)
          · have c_12 : pr ≤ i := n_le_of (a := pr) (b := i) (by omega) (by omega) c_12
            refine J_lload_n (pc := 64) X 3 dX9_lamp_64 rfl ?_
            refine J_l2i (pc := 65) X dX9_lamp_65 ?_
            refine J_iret (pc := 66) X hr () dX9_lamp_66 ?_ rfl
            rw [spLamp, if_pos ⟨hwn9, by assumption⟩, nI_clamp (by omega), ← hpr, show pr = i from by omega]
          · have c_12 : i < pr := n_nle_of (a := pr) (b := i) (by omega) (by omega) c_12
            refine J_lload_n (pc := 45) X 3 dX9_lamp_45 rfl ?_
            refine J_sipush (pc := 46) X 1000 dX9_lamp_46 (by decide) ?_
            refine J_iload_n (pc := 49) X 2 dX9_lamp_49 rfl ?_
            refine J_isub (pc := 50) X dX9_lamp_50 ?_
            refine J_i2l (pc := 51) X dX9_lamp_51 ?_
            refine J_lmul (pc := 52) X dX9_lamp_52 ?_
            refine J_ldc2 (pc := 53) X g763 dX9_lamp_53 ?_
            refine J_ldiv (pc := 56) X dX9_lamp_56 (by decide) ?_
            refine J_lstore_n (pc := 57) X [(3, .long (((lampTo q9 i) * ((1000 - q9).toInt64)) / 1000)), (0, .ref qx), (1, .int (nI nn)), (2, .int q9), (5, .int (nI i))] dX9_lamp_57 (by decide) rfl ?_
            refine J_iinc (pc := 58) X (nI (i + 1)) 4 [(5, .int (nI (i + 1))), (3, .long (((lampTo q9 i) * ((1000 - q9).toInt64)) / 1000)), (0, .ref qx), (1, .int (nI nn)), (2, .int q9)] dX9_lamp_58 rfl (n_add (x := i) (y := 1) rfl rfl (by omega)) (by decide) rfl ?_
            refine J_goto (pc := 61) X 31 dX9_lamp_61 (by decide) ?_
            refine J_loc [2, 3, 4, 1, 0] (lv2 := [(0, .ref qx), (1, .int (nI nn)), (2, .int q9), (3, .long (lampTo q9 (i + 1))), (5, .int (nI (i + 1)))]) rfl ?_
            exact ih_31  (i + 1) (by first | assumption | omega | simp_all) (by omega)
      refine J_loc [2, 3, 4, 1, 0] (lv2 := [(0, .ref qx), (1, .int (nI nn)), (2, .int q9), (3, .long (lampTo q9 0)), (5, .int 0)]) rfl ?_
      exact L_31 _  0 (by first | assumption | omega | simp_all) (Nat.lt_succ_self _)
    · skip
      refine J_ldc (pc := 21) X g285 dX9_lamp_21 ?_
      refine J_iret (pc := 23) X hr () dX9_lamp_23 ?_ rfl
      first | exact (if_neg (fun z => absurd z.1 (by assumption))).symm | exact (if_neg (fun z => absurd z.2 (by assumption))).symm
set_option maxRecDepth 100000 in
set_option maxHeartbeats 600000 in
theorem kX9_met (l : Launch) (G : va_G) (cI cC cZ : ClassId) (qx : Nat) (q : Nat) (qq : Nat) (qr : Nat) (qs : Nat) (qt : Nat) (qpa : Nat) (qi : Nat) (ql : Nat) (qb : Nat) (qg : Nat) (qw : Nat) (qn : Nat) (qd : Nat) (qh : Nat) (qp : Nat) (P : Nat) (gr : Int32) (wd : Nat) (g : Nat) (wk : Nat) (fr : Int32) (qlf : Nat) (qls : Nat) (fn : Nat) (fs_ : Nat → Int32) (sc_ : Nat → Int32) (k : Int32) (n : Int32) (hPl : P ≤ 60) (hg : g ≤ 8) (hwk : wk ≤ 4) (hwd : wd ≤ 50) (hf : fn ≤ 6) : CI l G (tys3 cI cC cZ) yX9_met cX9_met 3 (some .int) ({ frames := 1, cells := 0, slots := 0, locals := 22 }) [.ref qx, .int k, .int n] [(qx, .inr (9, [.ref q, .ref qq, .ref qr, .ref qs, .ref qt, .ref qpa, .ref qi, .ref ql, .ref qb, .ref qg, .ref qw, .ref qn])), (q, .inr (5, [.int (nI P), .int gr, .int (nI wd), .int (nI g), .int (nI wk), .int fr, .ref qd, .ref qh, .ref qp])), (ql, .inr (3, [.ref qlf, .ref qls, .int (nI fn)])), (qlf, .inl (cI, 6, .inl fs_)), (qls, .inl (cI, 6, .inl sc_))] (S := Nat × (Nat → Int32) × (Nat → Int32)) (fun (r : Int32) (u : Nat × (Nat → Int32) × (Nat → Int32)) => r = spMet g fn k n ∧ (¬ spMet g fn k n < 0 → u.1 = fn + 1 ∧ u.2.1 = upd fs_ fn k ∧ u.2.2 = upd sc_ fn n) ∧ (spMet g fn k n < 0 → u.1 = fn ∧ u.2.1 = fs_ ∧ u.2.2 = sc_)) (fun (u : Nat × (Nat → Int32) × (Nat → Int32)) => [(qx, .inr (9, [.ref q, .ref qq, .ref qr, .ref qs, .ref qt, .ref qpa, .ref qi, .ref ql, .ref qb, .ref qg, .ref qw, .ref qn])), (q, .inr (5, [.int (nI P), .int gr, .int (nI wd), .int (nI g), .int (nI wk), .int fr, .ref qd, .ref qh, .ref qp])), (ql, .inr (3, [.ref qlf, .ref qls, .int (nI u.1)])), (qlf, .inl (cI, 6, .inl u.2.1)), (qls, .inl (cI, 6, .inl u.2.2))]) := by
  refine CI.intro (by decide) (Nat.le_of_ble_eq_true rfl) ?_
  intro p0 e0 s0 m0 ar0 be0 me0 c0 A0 X hr
  refine J_aload_n (pc := 0) X 0 dX9_met_0 rfl ?_
  refine J_get (pc := 1) X clX9 0 0 rfl (by decide) g241 rfl dX9_met_1 ?_
  refine J_iload_n (pc := 4) X 1 dX9_met_4 rfl ?_
  refine J_callR (pc := 5) (As := [.int k]) (rest := []) X mtX5_hasGap g469 [1] 0 (kX5_hasGap l G cI cC cZ q qd qh qp P gr wd g wk fr k (by first | assumption | omega) (by first | assumption | omega) (by first | assumption | omega) (by first | assumption | omega)) ⟨Nat.le_of_ble_eq_true rfl, Nat.le_of_ble_eq_true rfl⟩ rfl rfl rfl (by decide) rfl rfl rfl rfl rfl (Nat.le_of_ble_eq_true rfl) (Nat.zero_le _) (Nat.zero_le _) dX9_met_5 (fun r_1 u_2 w_3 => ?_)
  try dsimp only at w_3
  subst w_3
  refine J_bif_ne (pc := 8) X 14 dX9_met_8 (by decide) (fun c_4 => ?_) (fun c_4 => ?_)
  · skip
    obtain ⟨kn, hkn, rfl⟩ := inB_ex (by omega) c_4
    refine J_iload_n (pc := 14) X 2 dX9_met_14 rfl ?_
    refine J_iconst (pc := 15) X 0 dX9_met_15 (by decide) ?_
    refine J_sipush (pc := 16) X 999 dX9_met_16 (by decide) ?_
    refine J_callS (pc := 19) (As := [.int n, .int 0, .int 999]) (rest := []) X mtX9_isWithin g282 [] (kX9_isWithin l G cI cC cZ n 0 999 ) ⟨Nat.le_of_ble_eq_true rfl, Nat.le_of_ble_eq_true rfl⟩ rfl rfl rfl (by decide) rfl rfl (Nat.le_of_ble_eq_true rfl) (Nat.zero_le _) (Nat.zero_le _) dX9_met_19 (fun r_5 u_6 w_7 => ?_)
    try dsimp only at w_7
    subst w_7
    refine J_bif_ne (pc := 22) X 28 dX9_met_22 (by decide) (fun c_8 => ?_) (fun c_8 => ?_)
    · skip
      refine J_aload_n (pc := 28) X 0 dX9_met_28 rfl ?_
      refine J_get (pc := 29) X clX9 0 7 rfl (by decide) g248 rfl dX9_met_29 ?_
      refine J_iload_n (pc := 32) X 1 dX9_met_32 rfl ?_
      refine J_iload_n (pc := 33) X 2 dX9_met_33 rfl ?_
      refine J_callI (pc := 34) (As := [.int (nI kn), .int n]) (rest := []) X mtX3_append g768 [2, 3, 4] [0, 1] [0, 1, 2, 3, 4] 0 (fun u => [(qx, .inr (9, [.ref q, .ref qq, .ref qr, .ref qs, .ref qt, .ref qpa, .ref qi, .ref ql, .ref qb, .ref qg, .ref qw, .ref qn])), (q, .inr (5, [.int (nI P), .int gr, .int (nI wd), .int (nI g), .int (nI wk), .int fr, .ref qd, .ref qh, .ref qp])), (ql, .inr (3, [.ref qlf, .ref qls, .int (nI u.1)])), (qlf, .inl (cI, 6, .inl u.2.1)), (qls, .inl (cI, 6, .inl u.2.2))]) (kX3_append l G cI cC cZ ql qlf qls fn 6 fs_ sc_ (nI kn) n (by first | assumption | omega) (by first | assumption | omega)) ⟨Nat.le_of_ble_eq_true rfl, Nat.le_of_ble_eq_true rfl⟩ rfl rfl rfl (by decide) (wr := [(qx, .inr (9, [.ref q, .ref qq, .ref qr, .ref qs, .ref qt, .ref qpa, .ref qi, .ref ql, .ref qb, .ref qg, .ref qw, .ref qn])), (q, .inr (5, [.int (nI P), .int gr, .int (nI wd), .int (nI g), .int (nI wk), .int fr, .ref qd, .ref qh, .ref qp]))]) rfl (by decide) (by decide) (fun _ => rfl) (by decide) rfl rfl rfl rfl rfl (Nat.le_of_ble_eq_true rfl) (Nat.zero_le _) (Nat.zero_le _) dX9_met_34 (fun r_9 u_10 w_11 => ?_)
      obtain ⟨nA, fA, sA⟩ := u_10
      try dsimp only at w_11
      try dsimp only at w_11
      obtain ⟨w_11_r, w_11⟩ := w_11; subst w_11_r
      have hap := w_11
      refine J_bif_eq (pc := 37) X 50 dX9_met_37 (by decide) (fun c_12 => ?_) (fun c_12 => ?_)
      · skip
        refine J_ldc (pc := 50) X g294 dX9_met_50 ?_
        refine J_iret (pc := 52) X hr (nA, fA, sA) dX9_met_52 ?_ rfl
        have hz : spMet g fn (nI kn) n = -1000000004 := by rw [spMet, if_pos ((inB_nI (n := g) (j := kn) (by omega)).mpr hkn), if_pos (by assumption), if_pos (by omega)]
        rw [hz]
        exact ⟨rfl, fun h => absurd h (by decide), fun _ => hap.2 (by assumption)⟩
      · skip
        refine J_aload_n (pc := 40) X 0 dX9_met_40 rfl ?_
        refine J_get (pc := 41) X clX9 0 7 rfl (by decide) g248 rfl dX9_met_41 ?_
        refine J_callR (pc := 44) (As := []) (rest := []) X mtX3_size g457 [2] 0 (kX3_size l G cI cC cZ ql qlf qls nA ) ⟨Nat.le_of_ble_eq_true rfl, Nat.le_of_ble_eq_true rfl⟩ rfl rfl rfl (by decide) rfl rfl rfl rfl rfl (Nat.le_of_ble_eq_true rfl) (Nat.zero_le _) (Nat.zero_le _) dX9_met_44 (fun r_13 u_14 w_15 => ?_)
        try dsimp only at w_15
        subst w_15
        refine J_goto (pc := 47) X 52 dX9_met_47 (by decide) ?_
        refine J_iret (pc := 52) X hr (nA, fA, sA) dX9_met_52 ?_ rfl
        have hz : spMet g fn (nI kn) n = nI (fn + 1) := by rw [spMet, if_pos ((inB_nI (n := g) (j := kn) (by omega)).mpr hkn), if_pos (by assumption), if_neg (by omega)]
        rw [hz]
        have ha9 := hap.1 (by assumption)
        exact ⟨congrArg nI ha9.1, fun _ => ha9, fun h => absurd h (nI_pos (by omega))⟩
    · skip
      refine J_ldc (pc := 25) X g285 dX9_met_25 ?_
      refine J_iret (pc := 27) X hr (fn, fs_, sc_) dX9_met_27 ?_ rfl
      have hz : spMet g fn (nI kn) n = -1000000002 := by rw [spMet, if_pos ((inB_nI (n := g) (j := kn) (by omega)).mpr hkn), if_neg (by assumption)]
      rw [hz]
      exact ⟨rfl, fun h => absurd h (by decide), fun _ => ⟨rfl, rfl, rfl⟩⟩
  · skip
    refine J_ldc (pc := 11) X g473 dX9_met_11 ?_
    refine J_iret (pc := 13) X hr (fn, fs_, sc_) dX9_met_13 ?_ rfl
    have hz : spMet g fn k n = -1000000001 := if_neg (by assumption)
    rw [hz]
    exact ⟨rfl, fun h => absurd h (by decide), fun _ => ⟨rfl, rfl, rfl⟩⟩
set_option maxRecDepth 100000 in
set_option maxHeartbeats 600000 in
theorem kX9_write (l : Launch) (G : va_G) (cI cC cZ : ClassId) (qx : Nat) (q : Nat) (qq : Nat) (qr : Nat) (qs : Nat) (qt : Nat) (qpa : Nat) (qi : Nat) (ql : Nat) (qb : Nat) (qg : Nat) (qw : Nat) (qn : Nat) (qd : Nat) (qh : Nat) (qp : Nat) (P : Nat) (gr : Int32) (wd : Nat) (g : Nat) (wk : Nat) (fr : Int32) (hs : Nat) (qbf : Nat) (qbs : Nat) (en : Nat) (bf_ : Nat → Int32) (bs_ : Nat → Int32) (w : Int32) (h : Int32) (hPl : P ≤ 60) (hg : g ≤ 8) (hwk : wk ≤ 4) (hwd : wd ≤ 50) (hhs : (g = 0 ∧ hs = 0) ∨ (0 < g ∧ hs = g + 1)) (he : en ≤ 20) : CI l G (tys3 cI cC cZ) yX9_write cX9_write 3 (some .int) ({ frames := 2, cells := 0, slots := 0, locals := 41 }) [.ref qx, .int w, .int h] [(qx, .inr (9, [.ref q, .ref qq, .ref qr, .ref qs, .ref qt, .ref qpa, .ref qi, .ref ql, .ref qb, .ref qg, .ref qw, .ref qn])), (q, .inr (5, [.int (nI P), .int gr, .int (nI wd), .int (nI g), .int (nI wk), .int fr, .ref qd, .ref qh, .ref qp])), (qb, .inr (3, [.ref qbf, .ref qbs, .int (nI en)])), (qbf, .inl (cI, 20, .inl bf_)), (qbs, .inl (cI, 20, .inl bs_))] (S := Nat × (Nat → Int32) × (Nat → Int32)) (fun (r : Int32) (u : Nat × (Nat → Int32) × (Nat → Int32)) => r = spWrite wk hs en w h ∧ (¬ spWrite wk hs en w h < 0 → u.1 = en + 1 ∧ u.2.1 = upd bf_ en w ∧ u.2.2 = upd bs_ en h) ∧ (spWrite wk hs en w h < 0 → u.1 = en ∧ u.2.1 = bf_ ∧ u.2.2 = bs_)) (fun (u : Nat × (Nat → Int32) × (Nat → Int32)) => [(qx, .inr (9, [.ref q, .ref qq, .ref qr, .ref qs, .ref qt, .ref qpa, .ref qi, .ref ql, .ref qb, .ref qg, .ref qw, .ref qn])), (q, .inr (5, [.int (nI P), .int gr, .int (nI wd), .int (nI g), .int (nI wk), .int fr, .ref qd, .ref qh, .ref qp])), (qb, .inr (3, [.ref qbf, .ref qbs, .int (nI u.1)])), (qbf, .inl (cI, 20, .inl u.2.1)), (qbs, .inl (cI, 20, .inl u.2.2))]) := by
  refine CI.intro (by decide) (Nat.le_of_ble_eq_true rfl) ?_
  intro p0 e0 s0 m0 ar0 be0 me0 c0 A0 X hr
  refine J_aload_n (pc := 0) X 0 dX9_write_0 rfl ?_
  refine J_get (pc := 1) X clX9 0 0 rfl (by decide) g241 rfl dX9_write_1 ?_
  refine J_iload_n (pc := 4) X 1 dX9_write_4 rfl ?_
  refine J_callR (pc := 5) (As := [.int w]) (rest := []) X mtX5_hasWalker g511 [1] 0 (kX5_hasWalker l G cI cC cZ q qd qh qp P gr wd g wk fr w (by first | assumption | omega) (by first | assumption | omega) (by first | assumption | omega) (by first | assumption | omega)) ⟨Nat.le_of_ble_eq_true rfl, Nat.le_of_ble_eq_true rfl⟩ rfl rfl rfl (by decide) rfl rfl rfl rfl rfl (Nat.le_of_ble_eq_true rfl) (Nat.zero_le _) (Nat.zero_le _) dX9_write_5 (fun r_1 u_2 w_3 => ?_)
  try dsimp only at w_3
  subst w_3
  refine J_bif_eq (pc := 8) X 22 dX9_write_8 (by decide) (fun c_4 => ?_) (fun c_4 => ?_)
  · skip
    refine J_ldc (pc := 22) X g473 dX9_write_22 ?_
    refine J_iret (pc := 24) X hr (en, bf_, bs_) dX9_write_24 ?_ rfl
    have hz : spWrite wk hs en w h = -1000000001 := if_neg (fun z => by first | exact absurd z.1 (by assumption) | exact absurd z.2 (by assumption))
    rw [hz]
    exact ⟨rfl, fun h => absurd h (by decide), fun _ => ⟨rfl, rfl, rfl⟩⟩
  · skip
    obtain ⟨wn, hwn, rfl⟩ := inB_ex (by omega) c_4
    refine J_aload_n (pc := 11) X 0 dX9_write_11 rfl ?_
    refine J_get (pc := 12) X clX9 0 0 rfl (by decide) g241 rfl dX9_write_12 ?_
    refine J_iload_n (pc := 15) X 2 dX9_write_15 rfl ?_
    refine J_callR (pc := 16) (As := [.int h]) (rest := []) X mtX5_hasHouse g672 [1] 0 (kX5_hasHouse l G cI cC cZ q qd qh qp P gr wd g wk fr h hs (by first | assumption | omega) (by first | assumption | omega) (by first | assumption | omega) (by first | assumption | omega) (by first | assumption | omega)) ⟨Nat.le_of_ble_eq_true rfl, Nat.le_of_ble_eq_true rfl⟩ rfl rfl rfl (by decide) rfl rfl rfl rfl rfl (Nat.le_of_ble_eq_true rfl) (Nat.zero_le _) (Nat.zero_le _) dX9_write_16 (fun r_5 u_6 w_7 => ?_)
    try dsimp only at w_7
    subst w_7
    refine J_bif_ne (pc := 19) X 25 dX9_write_19 (by decide) (fun c_8 => ?_) (fun c_8 => ?_)
    · skip
      obtain ⟨hn, hhn, rfl⟩ := inB_ex (by omega) c_8
      refine J_aload_n (pc := 25) X 0 dX9_write_25 rfl ?_
      refine J_get (pc := 26) X clX9 0 8 rfl (by decide) g249 rfl dX9_write_26 ?_
      refine J_iload_n (pc := 29) X 1 dX9_write_29 rfl ?_
      refine J_iload_n (pc := 30) X 2 dX9_write_30 rfl ?_
      refine J_callI (pc := 31) (As := [.int (nI wn), .int (nI hn)]) (rest := []) X mtX3_append g768 [2, 3, 4] [0, 1] [0, 1, 2, 3, 4] 0 (fun u => [(qx, .inr (9, [.ref q, .ref qq, .ref qr, .ref qs, .ref qt, .ref qpa, .ref qi, .ref ql, .ref qb, .ref qg, .ref qw, .ref qn])), (q, .inr (5, [.int (nI P), .int gr, .int (nI wd), .int (nI g), .int (nI wk), .int fr, .ref qd, .ref qh, .ref qp])), (qb, .inr (3, [.ref qbf, .ref qbs, .int (nI u.1)])), (qbf, .inl (cI, 20, .inl u.2.1)), (qbs, .inl (cI, 20, .inl u.2.2))]) (kX3_append l G cI cC cZ qb qbf qbs en 20 bf_ bs_ (nI wn) (nI hn) (by first | assumption | omega) (by first | assumption | omega)) ⟨Nat.le_of_ble_eq_true rfl, Nat.le_of_ble_eq_true rfl⟩ rfl rfl rfl (by decide) (wr := [(qx, .inr (9, [.ref q, .ref qq, .ref qr, .ref qs, .ref qt, .ref qpa, .ref qi, .ref ql, .ref qb, .ref qg, .ref qw, .ref qn])), (q, .inr (5, [.int (nI P), .int gr, .int (nI wd), .int (nI g), .int (nI wk), .int fr, .ref qd, .ref qh, .ref qp]))]) rfl (by decide) (by decide) (fun _ => rfl) (by decide) rfl rfl rfl rfl rfl (Nat.le_of_ble_eq_true rfl) (Nat.zero_le _) (Nat.zero_le _) dX9_write_31 (fun r_9 u_10 w_11 => ?_)
      obtain ⟨nA, fA, sA⟩ := u_10
      try dsimp only at w_11
      try dsimp only at w_11
      obtain ⟨w_11_r, w_11⟩ := w_11; subst w_11_r
      have hap := w_11
      refine J_bif_eq (pc := 34) X 47 dX9_write_34 (by decide) (fun c_12 => ?_) (fun c_12 => ?_)
      · skip
        refine J_ldc (pc := 47) X g294 dX9_write_47 ?_
        refine J_iret (pc := 49) X hr (nA, fA, sA) dX9_write_49 ?_ rfl
        have hz : spWrite wk hs en (nI wn) (nI hn) = -1000000004 := by rw [spWrite, if_pos ⟨(inB_nI (n := wk) (j := wn) (by omega)).mpr hwn, (inB_nI (n := hs) (j := hn) (by omega)).mpr hhn⟩, if_pos (by omega)]
        rw [hz]
        exact ⟨rfl, fun h => absurd h (by decide), fun _ => hap.2 (by assumption)⟩
      · skip
        refine J_aload_n (pc := 37) X 0 dX9_write_37 rfl ?_
        refine J_get (pc := 38) X clX9 0 8 rfl (by decide) g249 rfl dX9_write_38 ?_
        refine J_callR (pc := 41) (As := []) (rest := []) X mtX3_size g457 [2] 0 (kX3_size l G cI cC cZ qb qbf qbs nA ) ⟨Nat.le_of_ble_eq_true rfl, Nat.le_of_ble_eq_true rfl⟩ rfl rfl rfl (by decide) rfl rfl rfl rfl rfl (Nat.le_of_ble_eq_true rfl) (Nat.zero_le _) (Nat.zero_le _) dX9_write_41 (fun r_13 u_14 w_15 => ?_)
        try dsimp only at w_15
        subst w_15
        refine J_goto (pc := 44) X 49 dX9_write_44 (by decide) ?_
        refine J_iret (pc := 49) X hr (nA, fA, sA) dX9_write_49 ?_ rfl
        have hz : spWrite wk hs en (nI wn) (nI hn) = nI (en + 1) := by rw [spWrite, if_pos ⟨(inB_nI (n := wk) (j := wn) (by omega)).mpr hwn, (inB_nI (n := hs) (j := hn) (by omega)).mpr hhn⟩, if_neg (by omega)]
        rw [hz]
        have ha9 := hap.1 (by assumption)
        exact ⟨congrArg nI ha9.1, fun _ => ha9, fun h => absurd h (nI_pos (by omega))⟩
    · skip
      refine J_ldc (pc := 22) X g473 dX9_write_22 ?_
      refine J_iret (pc := 24) X hr (en, bf_, bs_) dX9_write_24 ?_ rfl
      have hz : spWrite wk hs en (nI wn) h = -1000000001 := if_neg (fun z => by first | exact absurd z.1 (by assumption) | exact absurd z.2 (by assumption))
      rw [hz]
      exact ⟨rfl, fun h => absurd h (by decide), fun _ => ⟨rfl, rfl, rfl⟩⟩
set_option maxRecDepth 100000 in
set_option maxHeartbeats 600000 in
theorem kX9_fits (l : Launch) (G : va_G) (cI cC cZ : ClassId) (qx : Nat) (q : Nat) (qq : Nat) (qr : Nat) (qs : Nat) (qt : Nat) (qpa : Nat) (qi : Nat) (ql : Nat) (qb : Nat) (qg : Nat) (qw : Nat) (qn : Nat) (qd : Nat) (qh : Nat) (qp : Nat) (P : Nat) (gr : Int32) (wd : Nat) (g : Nat) (wk : Nat) (fr : Int32) (dyr : Nat → Int32) (qlf : Nat) (qls : Nat) (fn : Nat) (fs_ : Nat → Int32) (sc_ : Nat → Int32) (dy : Nat → Int32) (fd : Nat → Int32) (qgt : Nat) (sa : Int32) (sb : Int32) (sn : Nat) (what : Int32) (hPl : P ≤ 60) (hg : g ≤ 8) (hwk : wk ≤ 4) (hwd : wd ≤ 50) (hP0 : 0 < g → 0 < P) (hdy : ∀ k, k < g → dyr k = dy k) (hwd0 : 0 < g → 0 < wd) (hf : fn ≤ 6) (hfd : okFd g fn fd) (hfs : ∀ i9, i9 < fn → fs_ i9 = fd (2 * i9) ∧ sc_ i9 = fd (2 * i9 + 1)) : CI l G (tys3 cI cC cZ) yX9_fits cX9_fits 2 (some .int) ({ frames := 5, cells := 0, slots := 0, locals := 118 }) [.ref qx, .int what] [(qx, .inr (9, [.ref q, .ref qq, .ref qr, .ref qs, .ref qt, .ref qpa, .ref qi, .ref ql, .ref qb, .ref qg, .ref qw, .ref qn])), (qg, .inr (1, [.ref qgt])), (q, .inr (5, [.int (nI P), .int gr, .int (nI wd), .int (nI g), .int (nI wk), .int fr, .ref qd, .ref qh, .ref qp])), (qd, .inl (cI, 8, .inl dyr)), (ql, .inr (3, [.ref qlf, .ref qls, .int (nI fn)])), (qlf, .inl (cI, 6, .inl fs_)), (qls, .inl (cI, 6, .inl sc_)), (qn, .inr (8, [.int sa, .int sb, .int (nI sn)]))] (S := Int32 × Int32 × Nat) (fun (r : Int32) (u : Int32 × Int32 × Nat) => r = spFits P wd fn dy fd gr what) (fun (u : Int32 × Int32 × Nat) => [(qx, .inr (9, [.ref q, .ref qq, .ref qr, .ref qs, .ref qt, .ref qpa, .ref qi, .ref ql, .ref qb, .ref qg, .ref qw, .ref qn])), (qg, .inr (1, [.ref qgt])), (q, .inr (5, [.int (nI P), .int gr, .int (nI wd), .int (nI g), .int (nI wk), .int fr, .ref qd, .ref qh, .ref qp])), (qd, .inl (cI, 8, .inl dyr)), (ql, .inr (3, [.ref qlf, .ref qls, .int (nI fn)])), (qlf, .inl (cI, 6, .inl fs_)), (qls, .inl (cI, 6, .inl sc_)), (qn, .inr (8, [.int u.1, .int u.2.1, .int (nI u.2.2)]))]) := by
  refine CI.intro (by decide) (Nat.le_of_ble_eq_true rfl) ?_
  intro p0 e0 s0 m0 ar0 be0 me0 c0 A0 X hr
  refine J_iload_n (pc := 0) X 1 dX9_fits_0 rfl ?_
  refine J_iconst (pc := 1) X 0 dX9_fits_1 (by decide) ?_
  refine J_iconst (pc := 2) X 2 dX9_fits_2 (by decide) ?_
  refine J_callS (pc := 3) (As := [.int what, .int 0, .int 2]) (rest := []) X mtX9_isWithin g282 [] (kX9_isWithin l G cI cC cZ what 0 2 ) ⟨Nat.le_of_ble_eq_true rfl, Nat.le_of_ble_eq_true rfl⟩ rfl rfl rfl (by decide) rfl rfl (Nat.le_of_ble_eq_true rfl) (Nat.zero_le _) (Nat.zero_le _) dX9_fits_3 (fun r_1 u_2 w_3 => ?_)
  try dsimp only at w_3
  subst w_3
  refine J_bif_ne (pc := 6) X 12 dX9_fits_6 (by decide) (fun c_4 => ?_) (fun c_4 => ?_)
  · skip
    have hwhat := c_4
    refine J_aload_n (pc := 12) X 0 dX9_fits_12 rfl ?_
    refine J_get (pc := 13) X clX9 0 9 rfl (by decide) g250 rfl dX9_fits_13 ?_
    refine J_aload_n (pc := 16) X 0 dX9_fits_16 rfl ?_
    refine J_get (pc := 17) X clX9 0 0 rfl (by decide) g241 rfl dX9_fits_17 ?_
    refine J_aload_n (pc := 20) X 0 dX9_fits_20 rfl ?_
    refine J_get (pc := 21) X clX9 0 7 rfl (by decide) g248 rfl dX9_fits_21 ?_
    refine J_aload_n (pc := 24) X 0 dX9_fits_24 rfl ?_
    refine J_get (pc := 25) X clX9 0 11 rfl (by decide) g252 rfl dX9_fits_25 ?_
    refine J_callV (pc := 28) (As := [.ref q, .ref ql, .ref qn]) (rest := []) X mtX1_noteFits g776 [1, 2, 3, 4, 5, 6, 7] [0] [0, 1, 2, 3, 4, 5, 6, 7] 0 (fun u => [(qx, .inr (9, [.ref q, .ref qq, .ref qr, .ref qs, .ref qt, .ref qpa, .ref qi, .ref ql, .ref qb, .ref qg, .ref qw, .ref qn])), (qg, .inr (1, [.ref qgt])), (q, .inr (5, [.int (nI P), .int gr, .int (nI wd), .int (nI g), .int (nI wk), .int fr, .ref qd, .ref qh, .ref qp])), (qd, .inl (cI, 8, .inl dyr)), (ql, .inr (3, [.ref qlf, .ref qls, .int (nI fn)])), (qlf, .inl (cI, 6, .inl fs_)), (qls, .inl (cI, 6, .inl sc_)), (qn, .inr (8, [.int u.1, .int u.2.1, .int (nI u.2.2)]))]) (kX1_noteFits l G cI cC cZ qg qgt q qd qh qp P gr wd g wk fr dyr ql qlf qls fn 6 fs_ sc_ dy fd qn sa sb sn (by first | assumption | omega) (by first | assumption | omega) (by first | assumption | omega) (by first | assumption | omega) (by first | assumption | omega) (by first | assumption | omega) (by first | assumption | omega) (by first | assumption | omega) (by first | assumption | omega) (by first | assumption | omega) (by first | assumption | omega)) ⟨Nat.le_of_ble_eq_true rfl, Nat.le_of_ble_eq_true rfl⟩ rfl rfl rfl (by decide) (wr := [(qx, .inr (9, [.ref q, .ref qq, .ref qr, .ref qs, .ref qt, .ref qpa, .ref qi, .ref ql, .ref qb, .ref qg, .ref qw, .ref qn]))]) rfl (by decide) (by decide) (fun _ => rfl) (by decide) rfl rfl rfl rfl rfl (Nat.le_of_ble_eq_true rfl) (Nat.zero_le _) (Nat.zero_le _) dX9_fits_28 (fun u_6 w_7 => ?_)
    obtain ⟨aA, bA, nA⟩ := u_6
    try dsimp only at w_7
    have hnf := w_7
    refine J_iload_n (pc := 31) X 1 dX9_fits_31 rfl ?_
    refine J_if_ne (pc := 32) X 45 dX9_fits_32 (by decide) (fun c_8 => ?_) (fun c_8 => ?_)
    · skip
      refine J_iload_n (pc := 45) X 1 dX9_fits_45 rfl ?_
      refine J_iconst (pc := 46) X 1 dX9_fits_46 (by decide) ?_
      refine J_icmp_ne (pc := 47) X 60 dX9_fits_47 (by decide) (fun c_9 => ?_) (fun c_9 => ?_)
      · skip
        refine J_aload_n (pc := 60) X 0 dX9_fits_60 rfl ?_
        refine J_get (pc := 61) X clX9 0 11 rfl (by decide) g252 rfl dX9_fits_61 ?_
        refine J_callR (pc := 64) (As := []) (rest := []) X mtX8_last g700 [7] 0 (kX8_last l G cI cC cZ qn aA bA nA ) ⟨Nat.le_of_ble_eq_true rfl, Nat.le_of_ble_eq_true rfl⟩ rfl rfl rfl (by decide) rfl rfl rfl rfl rfl (Nat.le_of_ble_eq_true rfl) (Nat.zero_le _) (Nat.zero_le _) dX9_fits_64 (fun r_10 u_11 w_12 => ?_)
        try dsimp only at w_12
        have w_12 := w_12.symm; subst w_12
        refine J_iret (pc := 67) X hr (aA, bA, nA) dX9_fits_67 ?_ rfl
        rw [spFits, if_pos hwhat, ← hnf]
        simp [pickF, c_4, c_8, c_9]
      · skip
        refine J_aload_n (pc := 50) X 0 dX9_fits_50 rfl ?_
        refine J_get (pc := 51) X clX9 0 11 rfl (by decide) g252 rfl dX9_fits_51 ?_
        refine J_callR (pc := 54) (As := []) (rest := []) X mtX8_first g696 [7] 0 (kX8_first l G cI cC cZ qn aA bA nA ) ⟨Nat.le_of_ble_eq_true rfl, Nat.le_of_ble_eq_true rfl⟩ rfl rfl rfl (by decide) rfl rfl rfl rfl rfl (Nat.le_of_ble_eq_true rfl) (Nat.zero_le _) (Nat.zero_le _) dX9_fits_54 (fun r_13 u_14 w_15 => ?_)
        try dsimp only at w_15
        have w_15 := w_15.symm; subst w_15
        refine J_goto (pc := 57) X 67 dX9_fits_57 (by decide) ?_
        refine J_iret (pc := 67) X hr (aA, bA, nA) dX9_fits_67 ?_ rfl
        rw [spFits, if_pos hwhat, ← hnf]
        simp [pickF, c_4, c_8, c_9]
    · skip
      refine J_aload_n (pc := 35) X 0 dX9_fits_35 rfl ?_
      refine J_get (pc := 36) X clX9 0 11 rfl (by decide) g252 rfl dX9_fits_36 ?_
      refine J_callR (pc := 39) (As := []) (rest := []) X mtX8_size g704 [7] 0 (kX8_size l G cI cC cZ qn aA bA nA ) ⟨Nat.le_of_ble_eq_true rfl, Nat.le_of_ble_eq_true rfl⟩ rfl rfl rfl (by decide) rfl rfl rfl rfl rfl (Nat.le_of_ble_eq_true rfl) (Nat.zero_le _) (Nat.zero_le _) dX9_fits_39 (fun r_16 u_17 w_18 => ?_)
      try dsimp only at w_18
      subst w_18
      refine J_goto (pc := 42) X 67 dX9_fits_42 (by decide) ?_
      refine J_iret (pc := 67) X hr (aA, bA, nA) dX9_fits_67 ?_ rfl
      rw [spFits, if_pos hwhat, ← hnf]
      simp [pickF, c_4, c_8]
  · skip
    refine J_ldc (pc := 9) X g285 dX9_fits_9 ?_
    refine J_iret (pc := 11) X hr (sa, sb, sn) dX9_fits_11 ?_ rfl
    exact (if_neg (by assumption)).symm
set_option maxRecDepth 100000 in
set_option maxHeartbeats 600000 in
theorem kX9_growths (l : Launch) (G : va_G) (cI cC cZ : ClassId) (qx : Nat) (q : Nat) (qq : Nat) (qr : Nat) (qs : Nat) (qt : Nat) (qpa : Nat) (qi : Nat) (ql : Nat) (qb : Nat) (qg : Nat) (qw : Nat) (qn : Nat) (qd : Nat) (qh : Nat) (qp : Nat) (P : Nat) (gr : Int32) (wd : Nat) (g : Nat) (wk : Nat) (fr : Int32) (dyr : Nat → Int32) (qlf : Nat) (qls : Nat) (fn : Nat) (fs_ : Nat → Int32) (sc_ : Nat → Int32) (dy : Nat → Int32) (fd : Nat → Int32) (qgt : Nat) (hPl : P ≤ 60) (hg : g ≤ 8) (hwk : wk ≤ 4) (hwd : wd ≤ 50) (hP0 : 0 < g → 0 < P) (hdy : ∀ k, k < g → dyr k = dy k) (hwd0 : 0 < g → 0 < wd) (hf : fn ≤ 6) (hfd : okFd g fn fd) (hfs : ∀ i9, i9 < fn → fs_ i9 = fd (2 * i9) ∧ sc_ i9 = fd (2 * i9 + 1)) : CI l G (tys3 cI cC cZ) yX9_growths cX9_growths 1 (some .int) ({ frames := 6, cells := 0, slots := 0, locals := 142 }) [.ref qx] [(qx, .inr (9, [.ref q, .ref qq, .ref qr, .ref qs, .ref qt, .ref qpa, .ref qi, .ref ql, .ref qb, .ref qg, .ref qw, .ref qn])), (qg, .inr (1, [.ref qgt])), (q, .inr (5, [.int (nI P), .int gr, .int (nI wd), .int (nI g), .int (nI wk), .int fr, .ref qd, .ref qh, .ref qp])), (qd, .inl (cI, 8, .inl dyr)), (ql, .inr (3, [.ref qlf, .ref qls, .int (nI fn)])), (qlf, .inl (cI, 6, .inl fs_)), (qls, .inl (cI, 6, .inl sc_))] (S := Unit) (fun (r : Int32) (u : Unit) => r = grTo P wd fn dy fd 30) (fun _ => [(qx, .inr (9, [.ref q, .ref qq, .ref qr, .ref qs, .ref qt, .ref qpa, .ref qi, .ref ql, .ref qb, .ref qg, .ref qw, .ref qn])), (qg, .inr (1, [.ref qgt])), (q, .inr (5, [.int (nI P), .int gr, .int (nI wd), .int (nI g), .int (nI wk), .int fr, .ref qd, .ref qh, .ref qp])), (qd, .inl (cI, 8, .inl dyr)), (ql, .inr (3, [.ref qlf, .ref qls, .int (nI fn)])), (qlf, .inl (cI, 6, .inl fs_)), (qls, .inl (cI, 6, .inl sc_))]) := by
  refine CI.intro (by decide) (Nat.le_of_ble_eq_true rfl) ?_
  intro p0 e0 s0 m0 ar0 be0 me0 c0 A0 X hr
  refine J_aload_n (pc := 0) X 0 dX9_growths_0 rfl ?_
  refine J_get (pc := 1) X clX9 0 9 rfl (by decide) g250 rfl dX9_growths_1 ?_
  refine J_aload_n (pc := 4) X 0 dX9_growths_4 rfl ?_
  refine J_get (pc := 5) X clX9 0 0 rfl (by decide) g241 rfl dX9_growths_5 ?_
  refine J_aload_n (pc := 8) X 0 dX9_growths_8 rfl ?_
  refine J_get (pc := 9) X clX9 0 7 rfl (by decide) g248 rfl dX9_growths_9 ?_
  refine J_callR (pc := 12) (As := [.ref q, .ref ql]) (rest := []) X mtX1_possibleGrowths g802 [1, 2, 3, 4, 5, 6] 0 (kX1_possibleGrowths l G cI cC cZ qg qgt q qd qh qp P gr wd g wk fr dyr ql qlf qls fn 6 fs_ sc_ dy fd (by first | assumption | omega) (by first | assumption | omega) (by first | assumption | omega) (by first | assumption | omega) (by first | assumption | omega) (by first | assumption | omega) (by first | assumption | omega) (by first | assumption | omega) (by first | assumption | omega) (by first | assumption | omega) (by first | assumption | omega)) ⟨Nat.le_of_ble_eq_true rfl, Nat.le_of_ble_eq_true rfl⟩ rfl rfl rfl (by decide) rfl rfl rfl rfl rfl (Nat.le_of_ble_eq_true rfl) (Nat.zero_le _) (Nat.zero_le _) dX9_growths_12 (fun r_1 u_2 w_3 => ?_)
  try dsimp only at w_3
  subst w_3
  refine J_iret (pc := 15) X hr () dX9_growths_15 ?_ rfl
  rfl
set_option maxRecDepth 100000 in
set_option maxHeartbeats 600000 in
theorem kX9_lookAt (l : Launch) (G : va_G) (cI cC cZ : ClassId) (qx : Nat) (q : Nat) (qq : Nat) (qr : Nat) (qs : Nat) (qt : Nat) (qpa : Nat) (qi : Nat) (ql : Nat) (qb : Nat) (qg : Nat) (qw : Nat) (qn : Nat) (qd : Nat) (qh : Nat) (qp : Nat) (P : Nat) (gr : Int32) (wd : Nat) (g : Nat) (wk : Nat) (fr : Int32) (dyr : Nat → Int32) (qlf : Nat) (qls : Nat) (fn : Nat) (fs_ : Nat → Int32) (sc_ : Nat → Int32) (dy : Nat → Int32) (fd : Nat → Int32) (qgt : Nat) (sa : Int32) (sb : Int32) (sn : Nat) (tl_ : Nat → Int32) (gn : Nat) (hPl : P ≤ 60) (hg : g ≤ 8) (hwk : wk ≤ 4) (hwd : wd ≤ 50) (hP0 : 0 < g → 0 < P) (hdy : ∀ k, k < g → dyr k = dy k) (hwd0 : 0 < g → 0 < wd) (hf : fn ≤ 6) (hfd : okFd g fn fd) (hfs : ∀ i9, i9 < fn → fs_ i9 = fd (2 * i9) ∧ sc_ i9 = fd (2 * i9 + 1)) (hgr : gr = nI gn) (hgn : gn ≤ 40) (hgp : okGp g dy) : CI l G (tys3 cI cC cZ) yX9_lookAt cX9_lookAt 1 (some .int) ({ frames := 6, cells := 0, slots := 0, locals := 147 }) [.ref qx] [(qx, .inr (9, [.ref q, .ref qq, .ref qr, .ref qs, .ref qt, .ref qpa, .ref qi, .ref ql, .ref qb, .ref qg, .ref qw, .ref qn])), (qg, .inr (1, [.ref qgt])), (qgt, .inl (cI, 300, .inl tl_)), (q, .inr (5, [.int (nI P), .int gr, .int (nI wd), .int (nI g), .int (nI wk), .int fr, .ref qd, .ref qh, .ref qp])), (qd, .inl (cI, 8, .inl dyr)), (ql, .inr (3, [.ref qlf, .ref qls, .int (nI fn)])), (qlf, .inl (cI, 6, .inl fs_)), (qls, .inl (cI, 6, .inl sc_)), (qn, .inr (8, [.int sa, .int sb, .int (nI sn)]))] (S := Int32 × Int32 × Nat × (Nat → Int32)) (fun (r : Int32) (u : Int32 × Int32 × Nat × (Nat → Int32)) => r = spLookAt P wd fn g dy fd gr) (fun (u : Int32 × Int32 × Nat × (Nat → Int32)) => [(qx, .inr (9, [.ref q, .ref qq, .ref qr, .ref qs, .ref qt, .ref qpa, .ref qi, .ref ql, .ref qb, .ref qg, .ref qw, .ref qn])), (qg, .inr (1, [.ref qgt])), (qgt, .inl (cI, 300, .inl u.2.2.2)), (q, .inr (5, [.int (nI P), .int gr, .int (nI wd), .int (nI g), .int (nI wk), .int fr, .ref qd, .ref qh, .ref qp])), (qd, .inl (cI, 8, .inl dyr)), (ql, .inr (3, [.ref qlf, .ref qls, .int (nI fn)])), (qlf, .inl (cI, 6, .inl fs_)), (qls, .inl (cI, 6, .inl sc_)), (qn, .inr (8, [.int u.1, .int u.2.1, .int (nI u.2.2.1)]))]) := by
  refine CI.intro (by decide) (Nat.le_of_ble_eq_true rfl) ?_
  intro p0 e0 s0 m0 ar0 be0 me0 c0 A0 X hr
  refine J_aload_n (pc := 0) X 0 dX9_lookAt_0 rfl ?_
  refine J_get (pc := 1) X clX9 0 9 rfl (by decide) g250 rfl dX9_lookAt_1 ?_
  refine J_aload_n (pc := 4) X 0 dX9_lookAt_4 rfl ?_
  refine J_get (pc := 5) X clX9 0 0 rfl (by decide) g241 rfl dX9_lookAt_5 ?_
  refine J_aload_n (pc := 8) X 0 dX9_lookAt_8 rfl ?_
  refine J_get (pc := 9) X clX9 0 7 rfl (by decide) g248 rfl dX9_lookAt_9 ?_
  refine J_aload_n (pc := 12) X 0 dX9_lookAt_12 rfl ?_
  refine J_get (pc := 13) X clX9 0 11 rfl (by decide) g252 rfl dX9_lookAt_13 ?_
  refine J_callV (pc := 16) (As := [.ref q, .ref ql, .ref qn]) (rest := []) X mtX1_noteFits g776 [1, 3, 4, 5, 6, 7, 8] [0, 2] [0, 2, 1, 3, 4, 5, 6, 7, 8] 0 (fun u => [(qx, .inr (9, [.ref q, .ref qq, .ref qr, .ref qs, .ref qt, .ref qpa, .ref qi, .ref ql, .ref qb, .ref qg, .ref qw, .ref qn])), (qg, .inr (1, [.ref qgt])), (qgt, .inl (cI, 300, .inl tl_)), (q, .inr (5, [.int (nI P), .int gr, .int (nI wd), .int (nI g), .int (nI wk), .int fr, .ref qd, .ref qh, .ref qp])), (qd, .inl (cI, 8, .inl dyr)), (ql, .inr (3, [.ref qlf, .ref qls, .int (nI fn)])), (qlf, .inl (cI, 6, .inl fs_)), (qls, .inl (cI, 6, .inl sc_)), (qn, .inr (8, [.int u.1, .int u.2.1, .int (nI u.2.2)]))]) (kX1_noteFits l G cI cC cZ qg qgt q qd qh qp P gr wd g wk fr dyr ql qlf qls fn 6 fs_ sc_ dy fd qn sa sb sn (by first | assumption | omega) (by first | assumption | omega) (by first | assumption | omega) (by first | assumption | omega) (by first | assumption | omega) (by first | assumption | omega) (by first | assumption | omega) (by first | assumption | omega) (by first | assumption | omega) (by first | assumption | omega) (by first | assumption | omega)) ⟨Nat.le_of_ble_eq_true rfl, Nat.le_of_ble_eq_true rfl⟩ rfl rfl rfl (by decide) (wr := [(qx, .inr (9, [.ref q, .ref qq, .ref qr, .ref qs, .ref qt, .ref qpa, .ref qi, .ref ql, .ref qb, .ref qg, .ref qw, .ref qn])), (qgt, .inl (cI, 300, .inl tl_))]) rfl (by decide) (by decide) (fun _ => rfl) (by decide) rfl rfl rfl rfl rfl (Nat.le_of_ble_eq_true rfl) (Nat.zero_le _) (Nat.zero_le _) dX9_lookAt_16 (fun u_2 w_3 => ?_)
  obtain ⟨aA, bA, nA⟩ := u_2
  try dsimp only at w_3
  have hnf := w_3
  refine J_aload_n (pc := 19) X 0 dX9_lookAt_19 rfl ?_
  refine J_get (pc := 20) X clX9 0 9 rfl (by decide) g250 rfl dX9_lookAt_20 ?_
  refine J_aload_n (pc := 23) X 0 dX9_lookAt_23 rfl ?_
  refine J_get (pc := 24) X clX9 0 0 rfl (by decide) g241 rfl dX9_lookAt_24 ?_
  refine J_aload_n (pc := 27) X 0 dX9_lookAt_27 rfl ?_
  refine J_get (pc := 28) X clX9 0 7 rfl (by decide) g248 rfl dX9_lookAt_28 ?_
  refine J_aload_n (pc := 31) X 0 dX9_lookAt_31 rfl ?_
  refine J_get (pc := 32) X clX9 0 11 rfl (by decide) g252 rfl dX9_lookAt_32 ?_
  refine J_callR (pc := 35) (As := []) (rest := [.ref ql, .ref q, .ref qg]) X mtX8_size g704 [8] 0 (kX8_size l G cI cC cZ qn aA bA nA ) ⟨Nat.le_of_ble_eq_true rfl, Nat.le_of_ble_eq_true rfl⟩ rfl rfl rfl (by decide) rfl rfl rfl rfl rfl (Nat.le_of_ble_eq_true rfl) (Nat.zero_le _) (Nat.zero_le _) dX9_lookAt_35 (fun r_4 u_5 w_6 => ?_)
  try dsimp only at w_6
  subst w_6
  refine J_callI (pc := 38) (As := [.ref q, .ref ql, .int (nI nA)]) (rest := []) X mtX1_bestGap g814 [1, 2, 3, 4, 5, 6, 7] [0, 8] [0, 2, 3, 4, 5, 6, 7, 8, 1] 0 (fun u => [(qx, .inr (9, [.ref q, .ref qq, .ref qr, .ref qs, .ref qt, .ref qpa, .ref qi, .ref ql, .ref qb, .ref qg, .ref qw, .ref qn])), (qg, .inr (1, [.ref qgt])), (qgt, .inl (cI, 300, .inl u)), (q, .inr (5, [.int (nI P), .int gr, .int (nI wd), .int (nI g), .int (nI wk), .int fr, .ref qd, .ref qh, .ref qp])), (qd, .inl (cI, 8, .inl dyr)), (ql, .inr (3, [.ref qlf, .ref qls, .int (nI fn)])), (qlf, .inl (cI, 6, .inl fs_)), (qls, .inl (cI, 6, .inl sc_)), (qn, .inr (8, [.int aA, .int bA, .int (nI nA)]))]) (kX1_bestGap l G cI cC cZ qg qgt q qd qh qp P gr wd g wk fr dyr ql qlf qls fn 6 fs_ sc_ dy fd tl_ gn (nI nA) (by first | assumption | omega) (by first | assumption | omega) (by first | assumption | omega) (by first | assumption | omega) (by first | assumption | omega) (by first | assumption | omega) (by first | assumption | omega) (by first | assumption | omega) (by first | assumption | omega) (by first | assumption | omega) (by first | assumption | omega) (by first | assumption | omega) (by first | assumption | omega) (by first | assumption | omega)) ⟨Nat.le_of_ble_eq_true rfl, Nat.le_of_ble_eq_true rfl⟩ rfl rfl rfl (by decide) (wr := [(qx, .inr (9, [.ref q, .ref qq, .ref qr, .ref qs, .ref qt, .ref qpa, .ref qi, .ref ql, .ref qb, .ref qg, .ref qw, .ref qn])), (qn, .inr (8, [.int aA, .int bA, .int (nI nA)]))]) rfl (by decide) (by decide) (fun _ => rfl) (by decide) rfl rfl rfl rfl rfl (Nat.le_of_ble_eq_true rfl) (Nat.zero_le _) (Nat.zero_le _) dX9_lookAt_38 (fun r_7 u_8 w_9 => ?_)
  obtain ⟨tl2_u_8, rfl⟩ : ∃ z, z = u_8 := ⟨_, rfl⟩
  try dsimp only at w_9
  try dsimp only at w_9
  subst w_9
  refine J_iret (pc := 41) X hr (aA, bA, nA, tl2_u_8) dX9_lookAt_41 ?_ rfl
  rw [spLookAt, fits0 hnf]
