set_option maxRecDepth 100000 in
set_option maxHeartbeats 600000 in
theorem kX9_farthestTime (l : Launch) (G : va_G) (cI cC cZ : ClassId) (qx : Nat) (q : Nat) (qq : Nat) (qr : Nat) (qs : Nat) (qt : Nat) (qpa : Nat) (qi : Nat) (ql : Nat) (qb : Nat) (qg : Nat) (qw : Nat) (qn : Nat) (qd : Nat) (qh : Nat) (qp : Nat) (P : Nat) (gr : Int32) (wd : Nat) (g : Nat) (wk : Nat) (fr : Int32) (dyr : Nat → Int32) (qsc : Nat) (c : Nat → Int32) (hs : Nat) (nw : Nat → Int32) (dy : Nat → Int32) (a : Nat) (v : Int32) (hPl : P ≤ 60) (hg : g ≤ 8) (hwk : wk ≤ 4) (hwd : wd ≤ 50) (hP0 : 0 < g → 0 < P) (hhs : (g = 0 ∧ hs = 0) ∨ (0 < g ∧ hs = g + 1)) (hdy : ∀ k, k < g → dyr k = dy k) (hsc : scR c nw wk) (ha : a < hs) : CI l G (tys3 cI cC cZ) yX9_farthestTime cX9_farthestTime 6 (some .int) ({ frames := 4, cells := 0, slots := 0, locals := 98 }) [.ref qx, .int (nI a), .int v] [(qx, .inr (9, [.ref q, .ref qq, .ref qr, .ref qs, .ref qt, .ref qpa, .ref qi, .ref ql, .ref qb, .ref qg, .ref qw, .ref qn])), (q, .inr (5, [.int (nI P), .int gr, .int (nI wd), .int (nI g), .int (nI wk), .int fr, .ref qd, .ref qh, .ref qp])), (qd, .inl (cI, 8, .inl dyr)), (qs, .inr (7, [.ref qsc])), (qsc, .inl (cI, 18, .inl c))] (S := Unit) (fun (r : Int32) (u : Unit) => r = faTo (fun k9 t9 => yG P (dy k9) gr t9) (nw 1) v (nw 0) a hs) (fun _ => [(qx, .inr (9, [.ref q, .ref qq, .ref qr, .ref qs, .ref qt, .ref qpa, .ref qi, .ref ql, .ref qb, .ref qg, .ref qw, .ref qn])), (q, .inr (5, [.int (nI P), .int gr, .int (nI wd), .int (nI g), .int (nI wk), .int fr, .ref qd, .ref qh, .ref qp])), (qd, .inl (cI, 8, .inl dyr)), (qs, .inr (7, [.ref qsc])), (qsc, .inl (cI, 18, .inl c))]) := by
  refine CI.intro (by decide) (Nat.le_of_ble_eq_true rfl) ?_
  intro p0 e0 s0 m0 ar0 be0 me0 c0 A0 X hr
  have hgs : hs = g + 1 := by omega
  refine J_aload_n (pc := 0) X 0 dX9_farthestTime_0 rfl ?_
  refine J_get (pc := 1) X clX9 0 0 rfl (by decide) g241 rfl dX9_farthestTime_1 ?_
  refine J_callR (pc := 4) (As := []) (rest := []) X mtX5_houseCount g448 [1] 0 (kX5_houseCount l G cI cC cZ q qd qh qp P gr wd g wk fr hs (by first | assumption | omega) (by first | assumption | omega) (by first | assumption | omega) (by first | assumption | omega) (by first | assumption | omega)) ⟨Nat.le_of_ble_eq_true rfl, Nat.le_of_ble_eq_true rfl⟩ rfl rfl rfl (by decide) rfl rfl rfl rfl rfl (Nat.le_of_ble_eq_true rfl) (Nat.zero_le _) (Nat.zero_le _) dX9_farthestTime_4 (fun r_1 u_2 w_3 => ?_)
  try dsimp only at w_3
  subst w_3
  refine J_iconst (pc := 7) X 1 dX9_farthestTime_7 (by decide) ?_
  refine J_isub (pc := 8) X dX9_farthestTime_8 ?_
  refine J_top (y := nI (hs - 1)) (n_sub (x := hs) (y := 1) rfl rfl (by omega) (by omega)) ?_
  refine J_top (y := nI g) (congrArg nI (show hs - 1 = g by omega)) ?_
  refine J_istore_n (pc := 9) X [(3, .int (nI g)), (0, .ref qx), (1, .int (nI a)), (2, .int v)] dX9_farthestTime_9 (by decide) rfl ?_
  refine J_aload_n (pc := 10) X 1 dX9_farthestTime_10 rfl ?_
  refine J_get (pc := 11) X clX9 0 0 rfl (by decide) g241 rfl dX9_farthestTime_11 ?_
  refine J_iload_n (pc := 14) X 2 dX9_farthestTime_14 rfl ?_
  refine J_iconst (pc := 15) X 0 dX9_farthestTime_15 (by decide) ?_
  refine J_iload_n (pc := 16) X 3 dX9_farthestTime_16 rfl ?_
  refine J_aload_n (pc := 17) X 1 dX9_farthestTime_17 rfl ?_
  refine J_get (pc := 18) X clX9 0 3 rfl (by decide) g244 rfl dX9_farthestTime_18 ?_
  refine J_callR (pc := 21) (As := []) (rest := [.int v, .int 0, .int (nI a), .ref q]) X mtX7_clock g449 [3, 4] 0 (kX7_clock l G cI cC cZ qs qsc c ) ⟨Nat.le_of_ble_eq_true rfl, Nat.le_of_ble_eq_true rfl⟩ rfl rfl rfl (by decide) rfl rfl rfl rfl rfl (Nat.le_of_ble_eq_true rfl) (Nat.zero_le _) (Nat.zero_le _) dX9_farthestTime_21 (fun r_4 u_5 w_6 => ?_)
  try dsimp only at w_6
  subst w_6
  refine J_top (y := nw 0) hsc.1 ?_
  refine J_aload_n (pc := 24) X 1 dX9_farthestTime_24 rfl ?_
  refine J_get (pc := 25) X clX9 0 3 rfl (by decide) g244 rfl dX9_farthestTime_25 ?_
  refine J_callR (pc := 28) (As := []) (rest := [.int (nw 0), .int v, .int 0, .int (nI a), .ref q]) X mtX7_ropeSet g453 [3, 4] 0 (kX7_ropeSet l G cI cC cZ qs qsc c ) ⟨Nat.le_of_ble_eq_true rfl, Nat.le_of_ble_eq_true rfl⟩ rfl rfl rfl (by decide) rfl rfl rfl rfl rfl (Nat.le_of_ble_eq_true rfl) (Nat.zero_le _) (Nat.zero_le _) dX9_farthestTime_28 (fun r_7 u_8 w_9 => ?_)
  try dsimp only at w_9
  subst w_9
  refine J_top (y := nw 1) hsc.2.1 ?_
  refine J_sipush (pc := 31) X 300 dX9_farthestTime_31 (by decide) ?_
  refine J_callR (pc := 34) (As := [.int (nI a), .int 0, .int v, .int (nw 0), .int (nw 1), .int 300]) (rest := []) X mtX5_walkTime g680 [1, 2] 0 (kX5_walkTime l G cI cC cZ q qd qh qp P gr wd g wk fr dyr a 0 v (nw 0) (nw 1) 300 dy (by first | assumption | omega) (by first | assumption | omega) (by first | assumption | omega) (by first | assumption | omega) (by first | assumption | omega) (by first | assumption | omega) (by first | assumption | omega) (by first | assumption | omega) (by first | assumption | omega)) ⟨Nat.le_of_ble_eq_true rfl, Nat.le_of_ble_eq_true rfl⟩ rfl rfl rfl (by decide) rfl rfl rfl rfl rfl (Nat.le_of_ble_eq_true rfl) (Nat.zero_le _) (Nat.zero_le _) dX9_farthestTime_34 (fun r_10 u_11 w_12 => ?_)
  try dsimp only at w_12
  subst w_12
  refine J_istore (pc := 37) X [(4, .int (rT (wT (fun k9 t9 => yG P (dy k9) gr t9) (nw 1) v (nw 0) 0 300 a 0 0))), (3, .int (nI g)), (0, .ref qx), (1, .int (nI a)), (2, .int v)] dX9_farthestTime_37 (by decide) rfl ?_
  refine J_aload_n (pc := 39) X 2 dX9_farthestTime_39 rfl ?_
  refine J_get (pc := 40) X clX9 0 0 rfl (by decide) g241 rfl dX9_farthestTime_40 ?_
  refine J_iload_n (pc := 43) X 3 dX9_farthestTime_43 rfl ?_
  refine J_iload_n (pc := 44) X 1 dX9_farthestTime_44 rfl ?_
  refine J_iload_n (pc := 45) X 4 dX9_farthestTime_45 rfl ?_
  refine J_aload_n (pc := 46) X 2 dX9_farthestTime_46 rfl ?_
  refine J_get (pc := 47) X clX9 0 3 rfl (by decide) g244 rfl dX9_farthestTime_47 ?_
  refine J_callR (pc := 50) (As := []) (rest := [.int v, .int (nI g), .int (nI a), .ref q]) X mtX7_clock g449 [3, 4] 0 (kX7_clock l G cI cC cZ qs qsc c ) ⟨Nat.le_of_ble_eq_true rfl, Nat.le_of_ble_eq_true rfl⟩ rfl rfl rfl (by decide) rfl rfl rfl rfl rfl (Nat.le_of_ble_eq_true rfl) (Nat.zero_le _) (Nat.zero_le _) dX9_farthestTime_50 (fun r_13 u_14 w_15 => ?_)
  try dsimp only at w_15
  subst w_15
  refine J_top (y := nw 0) hsc.1 ?_
  refine J_aload_n (pc := 53) X 2 dX9_farthestTime_53 rfl ?_
  refine J_get (pc := 54) X clX9 0 3 rfl (by decide) g244 rfl dX9_farthestTime_54 ?_
  refine J_callR (pc := 57) (As := []) (rest := [.int (nw 0), .int v, .int (nI g), .int (nI a), .ref q]) X mtX7_ropeSet g453 [3, 4] 0 (kX7_ropeSet l G cI cC cZ qs qsc c ) ⟨Nat.le_of_ble_eq_true rfl, Nat.le_of_ble_eq_true rfl⟩ rfl rfl rfl (by decide) rfl rfl rfl rfl rfl (Nat.le_of_ble_eq_true rfl) (Nat.zero_le _) (Nat.zero_le _) dX9_farthestTime_57 (fun r_16 u_17 w_18 => ?_)
  try dsimp only at w_18
  subst w_18
  refine J_top (y := nw 1) hsc.2.1 ?_
  refine J_sipush (pc := 60) X 300 dX9_farthestTime_60 (by decide) ?_
  refine J_callR (pc := 63) (As := [.int (nI a), .int (nI g), .int v, .int (nw 0), .int (nw 1), .int 300]) (rest := []) X mtX5_walkTime g680 [1, 2] 0 (kX5_walkTime l G cI cC cZ q qd qh qp P gr wd g wk fr dyr a g v (nw 0) (nw 1) 300 dy (by first | assumption | omega) (by first | assumption | omega) (by first | assumption | omega) (by first | assumption | omega) (by first | assumption | omega) (by first | assumption | omega) (by first | assumption | omega) (by first | assumption | omega) (by first | assumption | omega)) ⟨Nat.le_of_ble_eq_true rfl, Nat.le_of_ble_eq_true rfl⟩ rfl rfl rfl (by decide) rfl rfl rfl rfl rfl (Nat.le_of_ble_eq_true rfl) (Nat.zero_le _) (Nat.zero_le _) dX9_farthestTime_63 (fun r_19 u_20 w_21 => ?_)
  try dsimp only at w_21
  subst w_21
  refine J_istore (pc := 66) X [(5, .int (rT (wT (fun k9 t9 => yG P (dy k9) gr t9) (nw 1) v (nw 0) g 300 a 0 0))), (4, .int (rT (wT (fun k9 t9 => yG P (dy k9) gr t9) (nw 1) v (nw 0) 0 300 a 0 0))), (3, .int (nI g)), (0, .ref qx), (1, .int (nI a)), (2, .int v)] dX9_farthestTime_66 (by decide) rfl ?_
  refine J_iload (pc := 68) X 1 dX9_farthestTime_68 rfl ?_
  refine J_iconst (pc := 70) X (-1) dX9_farthestTime_70 (by decide) ?_
  refine J_icmp_eq (pc := 71) X 80 dX9_farthestTime_71 (by decide) (fun c_22 => ?_) (fun c_22 => ?_)
  · skip
    refine J_iconst (pc := 80) X (-1) dX9_farthestTime_80 (by decide) ?_
    refine J_goto (pc := 81) X 91 dX9_farthestTime_81 (by decide) ?_
    refine J_iret (pc := 91) X hr () dX9_farthestTime_91 ?_ rfl
    rw [hgs, ← fa_far (by omega)]
    first | exact (if_pos (Or.inl (by assumption))).symm | exact (if_pos (Or.inr (by assumption))).symm | exact (if_neg (fun z9 => z9.elim (fun q9 => absurd q9 (by assumption)) (fun q9 => absurd q9 (by assumption)))).symm
  · skip
    refine J_iload (pc := 74) X 0 dX9_farthestTime_74 rfl ?_
    refine J_iconst (pc := 76) X (-1) dX9_farthestTime_76 (by decide) ?_
    refine J_icmp_ne (pc := 77) X 84 dX9_farthestTime_77 (by decide) (fun c_23 => ?_) (fun c_23 => ?_)
    · skip
      refine J_iload (pc := 84) X 1 dX9_farthestTime_84 rfl ?_
      refine J_iload (pc := 86) X 0 dX9_farthestTime_86 rfl ?_
      refine J_mmax (pc := 88) X g749 g193 g70 g194 (Nat.le_of_ble_eq_true rfl) (Nat.le_of_ble_eq_true rfl) (Nat.zero_le _) (Nat.zero_le _) dX9_farthestTime_88 ?_
      refine J_iret (pc := 91) X hr () dX9_farthestTime_91 ?_ rfl
      rw [hgs, ← fa_far (by omega)]
      first | exact (if_pos (Or.inl (by assumption))).symm | exact (if_pos (Or.inr (by assumption))).symm | exact (if_neg (fun z9 => z9.elim (fun q9 => absurd q9 (by assumption)) (fun q9 => absurd q9 (by assumption)))).symm
    · skip
      refine J_iconst (pc := 80) X (-1) dX9_farthestTime_80 (by decide) ?_
      refine J_goto (pc := 81) X 91 dX9_farthestTime_81 (by decide) ?_
      refine J_iret (pc := 91) X hr () dX9_farthestTime_91 ?_ rfl
      rw [hgs, ← fa_far (by omega)]
      first | exact (if_pos (Or.inl (by assumption))).symm | exact (if_pos (Or.inr (by assumption))).symm | exact (if_neg (fun z9 => z9.elim (fun q9 => absurd q9 (by assumption)) (fun q9 => absurd q9 (by assumption)))).symm
set_option maxRecDepth 100000 in
set_option maxHeartbeats 600000 in
theorem kX9_doctor (l : Launch) (G : va_G) (cI cC cZ : ClassId) (qx : Nat) (q : Nat) (qq : Nat) (qr : Nat) (qs : Nat) (qt : Nat) (qpa : Nat) (qi : Nat) (ql : Nat) (qb : Nat) (qg : Nat) (qw : Nat) (qn : Nat) (qd : Nat) (qh : Nat) (qp : Nat) (P : Nat) (gr : Int32) (wd : Nat) (g : Nat) (wk : Nat) (fr : Int32) (dyr : Nat → Int32) (qsc : Nat) (c : Nat → Int32) (hs : Nat) (nw : Nat → Int32) (dy : Nat → Int32) (v : Int32) (what : Int32) (hPl : P ≤ 60) (hg : g ≤ 8) (hwk : wk ≤ 4) (hwd : wd ≤ 50) (hP0 : 0 < g → 0 < P) (hhs : (g = 0 ∧ hs = 0) ∨ (0 < g ∧ hs = g + 1)) (hdy : ∀ k, k < g → dyr k = dy k) (hsc : scR c nw wk) : CI l G (tys3 cI cC cZ) yX9_doctor cX9_doctor 7 (some .int) ({ frames := 5, cells := 0, slots := 0, locals := 123 }) [.ref qx, .int v, .int what] [(qx, .inr (9, [.ref q, .ref qq, .ref qr, .ref qs, .ref qt, .ref qpa, .ref qi, .ref ql, .ref qb, .ref qg, .ref qw, .ref qn])), (q, .inr (5, [.int (nI P), .int gr, .int (nI wd), .int (nI g), .int (nI wk), .int fr, .ref qd, .ref qh, .ref qp])), (qd, .inl (cI, 8, .inl dyr)), (qs, .inr (7, [.ref qsc])), (qsc, .inl (cI, 18, .inl c))] (S := Unit) (fun (r : Int32) (u : Unit) => r = spDoctor hs (fun k9 t9 => yG P (dy k9) gr t9) (nw 1) (nw 0) v what) (fun _ => [(qx, .inr (9, [.ref q, .ref qq, .ref qr, .ref qs, .ref qt, .ref qpa, .ref qi, .ref ql, .ref qb, .ref qg, .ref qw, .ref qn])), (q, .inr (5, [.int (nI P), .int gr, .int (nI wd), .int (nI g), .int (nI wk), .int fr, .ref qd, .ref qh, .ref qp])), (qd, .inl (cI, 8, .inl dyr)), (qs, .inr (7, [.ref qsc])), (qsc, .inl (cI, 18, .inl c))]) := by
  refine CI.intro (by decide) (Nat.le_of_ble_eq_true rfl) ?_
  intro p0 e0 s0 m0 ar0 be0 me0 c0 A0 X hr
  refine J_iload_n (pc := 0) X 1 dX9_doctor_0 rfl ?_
  refine J_callS (pc := 1) (As := [.int v]) (rest := []) X mtX9_isPace g677 [] (kX9_isPace l G cI cC cZ v ) ⟨Nat.le_of_ble_eq_true rfl, Nat.le_of_ble_eq_true rfl⟩ rfl rfl rfl (by decide) rfl rfl (Nat.le_of_ble_eq_true rfl) (Nat.zero_le _) (Nat.zero_le _) dX9_doctor_1 (fun r_1 u_2 w_3 => ?_)
  try dsimp only at w_3
  subst w_3
  refine J_bif_eq (pc := 4) X 16 dX9_doctor_4 (by decide) (fun c_4 => ?_) (fun c_4 => ?_)
  · skip
    refine J_ldc (pc := 16) X g285 dX9_doctor_16 ?_
    refine J_iret (pc := 18) X hr () dX9_doctor_18 ?_ rfl
    first | exact (if_neg (fun z => absurd z.1 (by assumption))).symm | exact (if_neg (fun z => absurd z.2 (by assumption))).symm
  · skip
    refine J_iload_n (pc := 7) X 2 dX9_doctor_7 rfl ?_
    refine J_iconst (pc := 8) X 0 dX9_doctor_8 (by decide) ?_
    refine J_iconst (pc := 9) X 1 dX9_doctor_9 (by decide) ?_
    refine J_callS (pc := 10) (As := [.int what, .int 0, .int 1]) (rest := []) X mtX9_isWithin g282 [] (kX9_isWithin l G cI cC cZ what 0 1 ) ⟨Nat.le_of_ble_eq_true rfl, Nat.le_of_ble_eq_true rfl⟩ rfl rfl rfl (by decide) rfl rfl (Nat.le_of_ble_eq_true rfl) (Nat.zero_le _) (Nat.zero_le _) dX9_doctor_10 (fun r_5 u_6 w_7 => ?_)
    try dsimp only at w_7
    subst w_7
    refine J_bif_ne (pc := 13) X 19 dX9_doctor_13 (by decide) (fun c_8 => ?_) (fun c_8 => ?_)
    · skip
      refine J_iconst (pc := 19) X (-1) dX9_doctor_19 (by decide) ?_
      refine J_istore_n (pc := 20) X [(3, .int (-1)), (0, .ref qx), (1, .int v), (2, .int what)] dX9_doctor_20 (by decide) rfl ?_
      refine J_iconst (pc := 21) X (-1) dX9_doctor_21 (by decide) ?_
      refine J_istore (pc := 22) X [(4, .int (-1)), (3, .int (-1)), (0, .ref qx), (1, .int v), (2, .int what)] dX9_doctor_22 (by decide) rfl ?_
      refine J_iconst (pc := 24) X 0 dX9_doctor_24 (by decide) ?_
      refine J_istore (pc := 25) X [(5, .int 0), (4, .int (-1)), (3, .int (-1)), (0, .ref qx), (1, .int v), (2, .int what)] dX9_doctor_25 (by decide) rfl ?_
      have L_27 : ∀ (n_27 : Nat) (a_ : Nat) (be : Int32) (le_ : Int32) (ha_ : a_ ≤ hs) (hdc : (be, le_) = dcTo (fun a9 => faTo (fun k9 t9 => yG P (dy k9) gr t9) (nw 1) v (nw 0) a9 hs) a_), (hs - a_) < n_27 → JJ p0 l e0 ({ frames := 5, cells := 0, slots := 0, locals := 123 }) s0 m0 ar0 be0 me0 c0 A0 G 7 0 0 (QI be0 ar0 s0 A0 G (tys3 cI cC cZ) (S := Unit) (fun (r : Int32) (u : Unit) => r = spDoctor hs (fun k9 t9 => yG P (dy k9) gr t9) (nw 1) (nw 0) v what) (fun _ => [(qx, .inr (9, [.ref q, .ref qq, .ref qr, .ref qs, .ref qt, .ref qpa, .ref qi, .ref ql, .ref qb, .ref qg, .ref qw, .ref qn])), (q, .inr (5, [.int (nI P), .int gr, .int (nI wd), .int (nI g), .int (nI wk), .int fr, .ref qd, .ref qh, .ref qp])), (qd, .inl (cI, 8, .inl dyr)), (qs, .inr (7, [.ref qsc])), (qsc, .inl (cI, 18, .inl c))])) [(qx, .inr (9, [.ref q, .ref qq, .ref qr, .ref qs, .ref qt, .ref qpa, .ref qi, .ref ql, .ref qb, .ref qg, .ref qw, .ref qn])), (q, .inr (5, [.int (nI P), .int gr, .int (nI wd), .int (nI g), .int (nI wk), .int fr, .ref qd, .ref qh, .ref qp])), (qd, .inl (cI, 8, .inl dyr)), (qs, .inr (7, [.ref qsc])), (qsc, .inl (cI, 18, .inl c))] 27 [(0, .ref qx), (1, .int v), (2, .int what), (3, .int be), (4, .int le_), (5, .int (nI a_))] [] := by
        intro n_27
        induction n_27 with
        | zero => intro a_ be le_ ha_ hdc hm_27; exact absurd hm_27 (Nat.not_lt_zero _)
        | succ n_27 ih_27 =>
          intro a_ be le_ ha_ hdc hm_27
          refine J_iload (pc := 27) X 5 dX9_doctor_27 rfl ?_
          refine J_aload_n (pc := 29) X 0 dX9_doctor_29 rfl ?_
          refine J_get (pc := 30) X clX9 0 0 rfl (by decide) g241 rfl dX9_doctor_30 ?_
          refine J_callR (pc := 33) (As := []) (rest := [.int (nI a_)]) X mtX5_houseCount g448 [1] 0 (kX5_houseCount l G cI cC cZ q qd qh qp P gr wd g wk fr hs (by first | assumption | omega) (by first | assumption | omega) (by first | assumption | omega) (by first | assumption | omega) (by first | assumption | omega)) ⟨Nat.le_of_ble_eq_true rfl, Nat.le_of_ble_eq_true rfl⟩ rfl rfl rfl (by decide) rfl rfl rfl rfl rfl (Nat.le_of_ble_eq_true rfl) (Nat.zero_le _) (Nat.zero_le _) dX9_doctor_33 (fun r_9 u_10 w_11 => ?_)
          try dsimp only at w_11
          subst w_11
          refine J_icmp_ge (pc := 36) X 80 dX9_doctor_36 (by decide) (fun c_12 => ?_) (fun c_12 => ?_)
          · have c_12 : hs ≤ a_ := n_le_of (a := hs) (b := a_) (by omega) (by omega) c_12
            refine J_iload_n (pc := 80) X 2 dX9_doctor_80 rfl ?_
            refine J_if_ne (pc := 81) X 88 dX9_doctor_81 (by decide) (fun c_13 => ?_) (fun c_13 => ?_)
            · skip
              refine J_iload (pc := 88) X 4 dX9_doctor_88 rfl ?_
              refine J_iret (pc := 90) X hr () dX9_doctor_90 ?_ rfl
              have e9 : (be, le_) = dcTo (fun a9 => faTo (fun k9 t9 => yG P (dy k9) gr t9) (nw 1) v (nw 0) a9 hs) hs := by rw [hdc, show a_ = hs from by omega]
              rw [spDoctor, if_pos ⟨by assumption, by assumption⟩, ← e9]
              first | exact (if_pos (by assumption)).symm | exact (if_neg (by assumption)).symm
            · skip
              refine J_iload_n (pc := 84) X 3 dX9_doctor_84 rfl ?_
              refine J_goto (pc := 85) X 90 dX9_doctor_85 (by decide) ?_
              refine J_iret (pc := 90) X hr () dX9_doctor_90 ?_ rfl
              have e9 : (be, le_) = dcTo (fun a9 => faTo (fun k9 t9 => yG P (dy k9) gr t9) (nw 1) v (nw 0) a9 hs) hs := by rw [hdc, show a_ = hs from by omega]
              rw [spDoctor, if_pos ⟨by assumption, by assumption⟩, ← e9]
              first | exact (if_pos (by assumption)).symm | exact (if_neg (by assumption)).symm
          · have c_12 : a_ < hs := n_nle_of (a := hs) (b := a_) (by omega) (by omega) c_12
            refine J_aload_n (pc := 39) X 0 dX9_doctor_39 rfl ?_
            refine J_iload (pc := 40) X 5 dX9_doctor_40 rfl ?_
            refine J_iload_n (pc := 42) X 1 dX9_doctor_42 rfl ?_
            refine J_callR (pc := 43) (As := [.int (nI a_), .int v]) (rest := []) X mtX9_farthestTime g745 [0, 1, 2, 3, 4] 0 (kX9_farthestTime l G cI cC cZ qx q qq qr qs qt qpa qi ql qb qg qw qn qd qh qp P gr wd g wk fr dyr qsc c hs nw dy a_ v (by first | assumption | omega) (by first | assumption | omega) (by first | assumption | omega) (by first | assumption | omega) (by first | assumption | omega) (by first | assumption | omega) (by first | assumption | omega) (by first | assumption | omega) (by first | assumption | omega)) ⟨Nat.le_of_ble_eq_true rfl, Nat.le_of_ble_eq_true rfl⟩ rfl rfl rfl (by decide) rfl rfl rfl rfl rfl (Nat.le_of_ble_eq_true rfl) (Nat.zero_le _) (Nat.zero_le _) dX9_doctor_43 (fun r_14 u_15 w_16 => ?_)
            try dsimp only at w_16
            subst w_16
            refine J_istore (pc := 46) X [(6, .int (faTo (fun k9 t9 => yG P (dy k9) gr t9) (nw 1) v (nw 0) a_ hs)), (0, .ref qx), (1, .int v), (2, .int what), (3, .int be), (4, .int le_), (5, .int (nI a_))] dX9_doctor_46 (by decide) rfl ?_
            refine J_iload (pc := 48) X 0 dX9_doctor_48 rfl ?_
            refine J_iconst (pc := 50) X (-1) dX9_doctor_50 (by decide) ?_
            refine J_icmp_eq (pc := 51) X 74 dX9_doctor_51 (by decide) (fun c_17 => ?_) (fun c_17 => ?_)
            · skip
              refine J_iinc (pc := 74) X (nI (a_ + 1)) 6 [(5, .int (nI (a_ + 1))), (6, .int (faTo (fun k9 t9 => yG P (dy k9) gr t9) (nw 1) v (nw 0) a_ hs)), (0, .ref qx), (1, .int v), (2, .int what), (3, .int be), (4, .int le_)] dX9_doctor_74 rfl (n_add (x := a_) (y := 1) rfl rfl (by omega)) (by decide) rfl ?_
              refine J_goto (pc := 77) X 27 dX9_doctor_77 (by decide) ?_
              refine J_loc [2, 3, 4, 5, 6, 0] (lv2 := [(0, .ref qx), (1, .int v), (2, .int what), (3, .int be), (4, .int le_), (5, .int (nI (a_ + 1)))]) rfl ?_
              exact ih_27  (a_ + 1) be le_ (by first | assumption | omega | simp_all) (by first | exact dc_in (f := (fun a9 => faTo (fun k9 t9 => yG P (dy k9) gr t9) (nw 1) v (nw 0) a9 hs)) hdc (by assumption) (Or.inl ((dc_iff2 hdc (by omega)).mpr (by assumption))) | exact dc_in (f := (fun a9 => faTo (fun k9 t9 => yG P (dy k9) gr t9) (nw 1) v (nw 0) a9 hs)) hdc (by assumption) (Or.inr (by assumption)) | exact dc_out (f := (fun a9 => faTo (fun k9 t9 => yG P (dy k9) gr t9) (nw 1) v (nw 0) a9 hs)) hdc (fun z9 => z9.1 (by assumption)) | exact dc_out (f := (fun a9 => faTo (fun k9 t9 => yG P (dy k9) gr t9) (nw 1) v (nw 0) a9 hs)) hdc (fun z9 => z9.2.elim (fun q9 => absurd ((dc_iff2 hdc (by omega)).mp q9) (by assumption)) (by assumption))) (by omega)
            · skip
              refine J_iload (pc := 54) X 5 dX9_doctor_54 rfl ?_
              refine J_iconst (pc := 56) X (-1) dX9_doctor_56 (by decide) ?_
              refine J_icmp_eq (pc := 57) X 67 dX9_doctor_57 (by decide) (fun c_18 => ?_) (fun c_18 => ?_)
              · skip
                refine J_iload (pc := 67) X 6 dX9_doctor_67 rfl ?_
                refine J_istore_n (pc := 69) X [(3, .int (nI a_)), (6, .int (faTo (fun k9 t9 => yG P (dy k9) gr t9) (nw 1) v (nw 0) a_ hs)), (0, .ref qx), (1, .int v), (2, .int what), (4, .int le_), (5, .int (nI a_))] dX9_doctor_69 (by decide) rfl ?_
                refine J_iload (pc := 70) X 1 dX9_doctor_70 rfl ?_
                refine J_istore (pc := 72) X [(4, .int (faTo (fun k9 t9 => yG P (dy k9) gr t9) (nw 1) v (nw 0) a_ hs)), (3, .int (nI a_)), (6, .int (faTo (fun k9 t9 => yG P (dy k9) gr t9) (nw 1) v (nw 0) a_ hs)), (0, .ref qx), (1, .int v), (2, .int what), (5, .int (nI a_))] dX9_doctor_72 (by decide) rfl ?_
                refine J_iinc (pc := 74) X (nI (a_ + 1)) 6 [(5, .int (nI (a_ + 1))), (4, .int (faTo (fun k9 t9 => yG P (dy k9) gr t9) (nw 1) v (nw 0) a_ hs)), (3, .int (nI a_)), (6, .int (faTo (fun k9 t9 => yG P (dy k9) gr t9) (nw 1) v (nw 0) a_ hs)), (0, .ref qx), (1, .int v), (2, .int what)] dX9_doctor_74 rfl (n_add (x := a_) (y := 1) rfl rfl (by omega)) (by decide) rfl ?_
                refine J_goto (pc := 77) X 27 dX9_doctor_77 (by decide) ?_
                refine J_loc [4, 5, 6, 2, 1, 0] (lv2 := [(0, .ref qx), (1, .int v), (2, .int what), (3, .int (nI a_)), (4, .int (faTo (fun k9 t9 => yG P (dy k9) gr t9) (nw 1) v (nw 0) a_ hs)), (5, .int (nI (a_ + 1)))]) rfl ?_
                exact ih_27  (a_ + 1) (nI a_) (faTo (fun k9 t9 => yG P (dy k9) gr t9) (nw 1) v (nw 0) a_ hs) (by first | assumption | omega | simp_all) (by first | exact dc_in (f := (fun a9 => faTo (fun k9 t9 => yG P (dy k9) gr t9) (nw 1) v (nw 0) a9 hs)) hdc (by assumption) (Or.inl ((dc_iff2 hdc (by omega)).mpr (by assumption))) | exact dc_in (f := (fun a9 => faTo (fun k9 t9 => yG P (dy k9) gr t9) (nw 1) v (nw 0) a9 hs)) hdc (by assumption) (Or.inr (by assumption)) | exact dc_out (f := (fun a9 => faTo (fun k9 t9 => yG P (dy k9) gr t9) (nw 1) v (nw 0) a9 hs)) hdc (fun z9 => z9.1 (by assumption)) | exact dc_out (f := (fun a9 => faTo (fun k9 t9 => yG P (dy k9) gr t9) (nw 1) v (nw 0) a9 hs)) hdc (fun z9 => z9.2.elim (fun q9 => absurd ((dc_iff2 hdc (by omega)).mp q9) (by assumption)) (by assumption))) (by omega)
              · skip
                refine J_iload (pc := 60) X 0 dX9_doctor_60 rfl ?_
                refine J_iload (pc := 62) X 5 dX9_doctor_62 rfl ?_
                refine J_icmp_ge (pc := 64) X 74 dX9_doctor_64 (by decide) (fun c_19 => ?_) (fun c_19 => ?_)
                · have c_19 := Int32.not_lt.mpr c_19
                  refine J_iinc (pc := 74) X (nI (a_ + 1)) 6 [(5, .int (nI (a_ + 1))), (6, .int (faTo (fun k9 t9 => yG P (dy k9) gr t9) (nw 1) v (nw 0) a_ hs)), (0, .ref qx), (1, .int v), (2, .int what), (3, .int be), (4, .int le_)] dX9_doctor_74 rfl (n_add (x := a_) (y := 1) rfl rfl (by omega)) (by decide) rfl ?_
                  refine J_goto (pc := 77) X 27 dX9_doctor_77 (by decide) ?_
                  refine J_loc [2, 3, 4, 5, 6, 0] (lv2 := [(0, .ref qx), (1, .int v), (2, .int what), (3, .int be), (4, .int le_), (5, .int (nI (a_ + 1)))]) rfl ?_
                  exact ih_27  (a_ + 1) be le_ (by first | assumption | omega | simp_all) (by first | exact dc_in (f := (fun a9 => faTo (fun k9 t9 => yG P (dy k9) gr t9) (nw 1) v (nw 0) a9 hs)) hdc (by assumption) (Or.inl ((dc_iff2 hdc (by omega)).mpr (by assumption))) | exact dc_in (f := (fun a9 => faTo (fun k9 t9 => yG P (dy k9) gr t9) (nw 1) v (nw 0) a9 hs)) hdc (by assumption) (Or.inr (by assumption)) | exact dc_out (f := (fun a9 => faTo (fun k9 t9 => yG P (dy k9) gr t9) (nw 1) v (nw 0) a9 hs)) hdc (fun z9 => z9.1 (by assumption)) | exact dc_out (f := (fun a9 => faTo (fun k9 t9 => yG P (dy k9) gr t9) (nw 1) v (nw 0) a9 hs)) hdc (fun z9 => z9.2.elim (fun q9 => absurd ((dc_iff2 hdc (by omega)).mp q9) (by assumption)) (by assumption))) (by omega)
                · have c_19 := Int32.not_le.mp c_19
                  refine J_iload (pc := 67) X 6 dX9_doctor_67 rfl ?_
                  refine J_istore_n (pc := 69) X [(3, .int (nI a_)), (6, .int (faTo (fun k9 t9 => yG P (dy k9) gr t9) (nw 1) v (nw 0) a_ hs)), (0, .ref qx), (1, .int v), (2, .int what), (4, .int le_), (5, .int (nI a_))] dX9_doctor_69 (by decide) rfl ?_
                  refine J_iload (pc := 70) X 1 dX9_doctor_70 rfl ?_
                  refine J_istore (pc := 72) X [(4, .int (faTo (fun k9 t9 => yG P (dy k9) gr t9) (nw 1) v (nw 0) a_ hs)), (3, .int (nI a_)), (6, .int (faTo (fun k9 t9 => yG P (dy k9) gr t9) (nw 1) v (nw 0) a_ hs)), (0, .ref qx), (1, .int v), (2, .int what), (5, .int (nI a_))] dX9_doctor_72 (by decide) rfl ?_
                  refine J_iinc (pc := 74) X (nI (a_ + 1)) 6 [(5, .int (nI (a_ + 1))), (4, .int (faTo (fun k9 t9 => yG P (dy k9) gr t9) (nw 1) v (nw 0) a_ hs)), (3, .int (nI a_)), (6, .int (faTo (fun k9 t9 => yG P (dy k9) gr t9) (nw 1) v (nw 0) a_ hs)), (0, .ref qx), (1, .int v), (2, .int what)] dX9_doctor_74 rfl (n_add (x := a_) (y := 1) rfl rfl (by omega)) (by decide) rfl ?_
                  refine J_goto (pc := 77) X 27 dX9_doctor_77 (by decide) ?_
                  refine J_loc [4, 5, 6, 2, 1, 0] (lv2 := [(0, .ref qx), (1, .int v), (2, .int what), (3, .int (nI a_)), (4, .int (faTo (fun k9 t9 => yG P (dy k9) gr t9) (nw 1) v (nw 0) a_ hs)), (5, .int (nI (a_ + 1)))]) rfl ?_
                  exact ih_27  (a_ + 1) (nI a_) (faTo (fun k9 t9 => yG P (dy k9) gr t9) (nw 1) v (nw 0) a_ hs) (by first | assumption | omega | simp_all) (by first | exact dc_in (f := (fun a9 => faTo (fun k9 t9 => yG P (dy k9) gr t9) (nw 1) v (nw 0) a9 hs)) hdc (by assumption) (Or.inl ((dc_iff2 hdc (by omega)).mpr (by assumption))) | exact dc_in (f := (fun a9 => faTo (fun k9 t9 => yG P (dy k9) gr t9) (nw 1) v (nw 0) a9 hs)) hdc (by assumption) (Or.inr (by assumption)) | exact dc_out (f := (fun a9 => faTo (fun k9 t9 => yG P (dy k9) gr t9) (nw 1) v (nw 0) a9 hs)) hdc (fun z9 => z9.1 (by assumption)) | exact dc_out (f := (fun a9 => faTo (fun k9 t9 => yG P (dy k9) gr t9) (nw 1) v (nw 0) a9 hs)) hdc (fun z9 => z9.2.elim (fun q9 => absurd ((dc_iff2 hdc (by omega)).mp q9) (by assumption)) (by assumption))) (by omega)
      refine J_loc [3, 4, 5, 2, 1, 0] (lv2 := [(0, .ref qx), (1, .int v), (2, .int what), (3, .int (-1)), (4, .int (-1)), (5, .int 0)]) rfl ?_
      exact L_27 _  0 (-1) (-1) (by first | assumption | omega | simp_all) rfl (Nat.lt_succ_self _)
    · skip
      refine J_ldc (pc := 16) X g285 dX9_doctor_16 ?_
      refine J_iret (pc := 18) X hr () dX9_doctor_18 ?_ rfl
      first | exact (if_neg (fun z => absurd z.1 (by assumption))).symm | exact (if_neg (fun z => absurd z.2 (by assumption))).symm
set_option maxRecDepth 100000 in
set_option maxHeartbeats 600000 in
theorem kX9_beat (l : Launch) (G : va_G) (cI cC cZ : ClassId) (qx : Nat) (q : Nat) (qq : Nat) (qr : Nat) (qs : Nat) (qt : Nat) (qpa : Nat) (qi : Nat) (ql : Nat) (qb : Nat) (qg : Nat) (qw : Nat) (qn : Nat) (qd : Nat) (qh : Nat) (qp : Nat) (P : Nat) (gr : Int32) (wd : Nat) (g : Nat) (wk : Nat) (fr : Int32) (dyr : Nat → Int32) (qsc : Nat) (c : Nat → Int32) (hs : Nat) (nw : Nat → Int32) (dy : Nat → Int32) (v : Int32) (hPl : P ≤ 60) (hg : g ≤ 8) (hwk : wk ≤ 4) (hwd : wd ≤ 50) (hP0 : 0 < g → 0 < P) (hhs : (g = 0 ∧ hs = 0) ∨ (0 < g ∧ hs = g + 1)) (hdy : ∀ k, k < g → dyr k = dy k) (hsc : scR c nw wk) : CI l G (tys3 cI cC cZ) yX9_beat cX9_beat 5 (some .int) ({ frames := 4, cells := 0, slots := 0, locals := 98 }) [.ref qx, .int v] [(qx, .inr (9, [.ref q, .ref qq, .ref qr, .ref qs, .ref qt, .ref qpa, .ref qi, .ref ql, .ref qb, .ref qg, .ref qw, .ref qn])), (q, .inr (5, [.int (nI P), .int gr, .int (nI wd), .int (nI g), .int (nI wk), .int fr, .ref qd, .ref qh, .ref qp])), (qd, .inl (cI, 8, .inl dyr)), (qs, .inr (7, [.ref qsc])), (qsc, .inl (cI, 18, .inl c))] (S := Unit) (fun (r : Int32) (u : Unit) => r = spBeat g (fun k9 t9 => yG P (dy k9) gr t9) (nw 1) (nw 0) v) (fun _ => [(qx, .inr (9, [.ref q, .ref qq, .ref qr, .ref qs, .ref qt, .ref qpa, .ref qi, .ref ql, .ref qb, .ref qg, .ref qw, .ref qn])), (q, .inr (5, [.int (nI P), .int gr, .int (nI wd), .int (nI g), .int (nI wk), .int fr, .ref qd, .ref qh, .ref qp])), (qd, .inl (cI, 8, .inl dyr)), (qs, .inr (7, [.ref qsc])), (qsc, .inl (cI, 18, .inl c))]) := by
  refine CI.intro (by decide) (Nat.le_of_ble_eq_true rfl) ?_
  intro p0 e0 s0 m0 ar0 be0 me0 c0 A0 X hr
  refine J_iload_n (pc := 0) X 1 dX9_beat_0 rfl ?_
  refine J_callS (pc := 1) (As := [.int v]) (rest := []) X mtX9_isPace g677 [] (kX9_isPace l G cI cC cZ v ) ⟨Nat.le_of_ble_eq_true rfl, Nat.le_of_ble_eq_true rfl⟩ rfl rfl rfl (by decide) rfl rfl (Nat.le_of_ble_eq_true rfl) (Nat.zero_le _) (Nat.zero_le _) dX9_beat_1 (fun r_1 u_2 w_3 => ?_)
  try dsimp only at w_3
  subst w_3
  refine J_bif_ne (pc := 4) X 10 dX9_beat_4 (by decide) (fun c_4 => ?_) (fun c_4 => ?_)
  · skip
    have hv9 := c_4
    refine J_aload_n (pc := 10) X 0 dX9_beat_10 rfl ?_
    refine J_get (pc := 11) X clX9 0 0 rfl (by decide) g241 rfl dX9_beat_11 ?_
    refine J_callR (pc := 14) (As := []) (rest := []) X mtX5_houseCount g448 [1] 0 (kX5_houseCount l G cI cC cZ q qd qh qp P gr wd g wk fr hs (by first | assumption | omega) (by first | assumption | omega) (by first | assumption | omega) (by first | assumption | omega) (by first | assumption | omega)) ⟨Nat.le_of_ble_eq_true rfl, Nat.le_of_ble_eq_true rfl⟩ rfl rfl rfl (by decide) rfl rfl rfl rfl rfl (Nat.le_of_ble_eq_true rfl) (Nat.zero_le _) (Nat.zero_le _) dX9_beat_14 (fun r_5 u_6 w_7 => ?_)
    try dsimp only at w_7
    subst w_7
    refine J_if_ne (pc := 17) X 23 dX9_beat_17 (by decide) (fun c_8 => ?_) (fun c_8 => ?_)
    · have c_8 : ¬ hs = 0 := n_ne_of (a := hs) (b := 0) (by omega) (by omega) c_8
      have hgs : hs = g + 1 := by omega
      refine J_aload_n (pc := 23) X 0 dX9_beat_23 rfl ?_
      refine J_get (pc := 24) X clX9 0 0 rfl (by decide) g241 rfl dX9_beat_24 ?_
      refine J_callR (pc := 27) (As := []) (rest := []) X mtX5_houseCount g448 [1] 0 (kX5_houseCount l G cI cC cZ q qd qh qp P gr wd g wk fr hs (by first | assumption | omega) (by first | assumption | omega) (by first | assumption | omega) (by first | assumption | omega) (by first | assumption | omega)) ⟨Nat.le_of_ble_eq_true rfl, Nat.le_of_ble_eq_true rfl⟩ rfl rfl rfl (by decide) rfl rfl rfl rfl rfl (Nat.le_of_ble_eq_true rfl) (Nat.zero_le _) (Nat.zero_le _) dX9_beat_27 (fun r_9 u_10 w_11 => ?_)
      try dsimp only at w_11
      subst w_11
      refine J_iconst (pc := 30) X 1 dX9_beat_30 (by decide) ?_
      refine J_isub (pc := 31) X dX9_beat_31 ?_
      refine J_top (y := nI (hs - 1)) (n_sub (x := hs) (y := 1) rfl rfl (by omega) (by omega)) ?_
      refine J_top (y := nI g) (congrArg nI (show hs - 1 = g by omega)) ?_
      refine J_istore_n (pc := 32) X [(2, .int (nI g)), (0, .ref qx), (1, .int v)] dX9_beat_32 (by decide) rfl ?_
      refine J_aload_n (pc := 33) X 1 dX9_beat_33 rfl ?_
      refine J_get (pc := 34) X clX9 0 0 rfl (by decide) g241 rfl dX9_beat_34 ?_
      refine J_iconst (pc := 37) X 0 dX9_beat_37 (by decide) ?_
      refine J_iload_n (pc := 38) X 0 dX9_beat_38 rfl ?_
      refine J_iload_n (pc := 39) X 2 dX9_beat_39 rfl ?_
      refine J_aload_n (pc := 40) X 1 dX9_beat_40 rfl ?_
      refine J_get (pc := 41) X clX9 0 3 rfl (by decide) g244 rfl dX9_beat_41 ?_
      refine J_callR (pc := 44) (As := []) (rest := [.int v, .int (nI g), .int 0, .ref q]) X mtX7_clock g449 [3, 4] 0 (kX7_clock l G cI cC cZ qs qsc c ) ⟨Nat.le_of_ble_eq_true rfl, Nat.le_of_ble_eq_true rfl⟩ rfl rfl rfl (by decide) rfl rfl rfl rfl rfl (Nat.le_of_ble_eq_true rfl) (Nat.zero_le _) (Nat.zero_le _) dX9_beat_44 (fun r_12 u_13 w_14 => ?_)
      try dsimp only at w_14
      subst w_14
      refine J_top (y := nw 0) hsc.1 ?_
      refine J_aload_n (pc := 47) X 1 dX9_beat_47 rfl ?_
      refine J_get (pc := 48) X clX9 0 3 rfl (by decide) g244 rfl dX9_beat_48 ?_
      refine J_callR (pc := 51) (As := []) (rest := [.int (nw 0), .int v, .int (nI g), .int 0, .ref q]) X mtX7_ropeSet g453 [3, 4] 0 (kX7_ropeSet l G cI cC cZ qs qsc c ) ⟨Nat.le_of_ble_eq_true rfl, Nat.le_of_ble_eq_true rfl⟩ rfl rfl rfl (by decide) rfl rfl rfl rfl rfl (Nat.le_of_ble_eq_true rfl) (Nat.zero_le _) (Nat.zero_le _) dX9_beat_51 (fun r_15 u_16 w_17 => ?_)
      try dsimp only at w_17
      subst w_17
      refine J_top (y := nw 1) hsc.2.1 ?_
      refine J_sipush (pc := 54) X 600 dX9_beat_54 (by decide) ?_
      refine J_callR (pc := 57) (As := [.int 0, .int (nI g), .int v, .int (nw 0), .int (nw 1), .int 600]) (rest := []) X mtX5_walkTime g680 [1, 2] 0 (kX5_walkTime l G cI cC cZ q qd qh qp P gr wd g wk fr dyr 0 g v (nw 0) (nw 1) 600 dy (by first | assumption | omega) (by first | assumption | omega) (by first | assumption | omega) (by first | assumption | omega) (by first | assumption | omega) (by first | assumption | omega) (by first | assumption | omega) (by first | assumption | omega) (by first | assumption | omega)) ⟨Nat.le_of_ble_eq_true rfl, Nat.le_of_ble_eq_true rfl⟩ rfl rfl rfl (by decide) rfl rfl rfl rfl rfl (Nat.le_of_ble_eq_true rfl) (Nat.zero_le _) (Nat.zero_le _) dX9_beat_57 (fun r_18 u_19 w_20 => ?_)
      try dsimp only at w_20
      subst w_20
      rcases hW1 : wT (fun k9 t9 => yG P (dy k9) gr t9) (nw 1) v (nw 0) g 600 0 0 0 with _ | m1
      · skip
        refine J_top (y := (-1 : Int32)) (by first | rfl | (rw [hW1]; rfl)) ?_
        refine J_istore_n (pc := 60) X [(3, .int (-1)), (2, .int (nI g)), (0, .ref qx), (1, .int v)] dX9_beat_60 (by decide) rfl ?_
        refine J_iload_n (pc := 61) X 0 dX9_beat_61 rfl ?_
        refine J_iconst (pc := 62) X (-1) dX9_beat_62 (by decide) ?_
        refine J_icmp_ne (pc := 63) X 68 dX9_beat_63 (by decide) (fun c_21 => ?_) (fun c_21 => ?_)
        · skip
          exact absurd rfl c_21
        · skip
          refine J_iconst (pc := 66) X (-1) dX9_beat_66 (by decide) ?_
          refine J_iret (pc := 67) X hr () dX9_beat_67 ?_ rfl
          rw [spBeat, if_pos hv9, if_neg (by omega)]
          first | exact bt_n1 hW1 | exact bt_n2 hW1 hW2
      · skip
        have hm1 := (wT_ge _ _ _ _ _ hW1).2
        have hm19 : m1 ≤ 600 := by omega
        refine J_top (y := nI m1) (by first | rfl | (rw [hW1]; rfl)) ?_
        refine J_istore_n (pc := 60) X [(3, .int (nI m1)), (2, .int (nI g)), (0, .ref qx), (1, .int v)] dX9_beat_60 (by decide) rfl ?_
        refine J_iload_n (pc := 61) X 0 dX9_beat_61 rfl ?_
        refine J_iconst (pc := 62) X (-1) dX9_beat_62 (by decide) ?_
        refine J_icmp_ne (pc := 63) X 68 dX9_beat_63 (by decide) (fun c_22 => ?_) (fun c_22 => ?_)
        · skip
          refine J_aload_n (pc := 68) X 2 dX9_beat_68 rfl ?_
          refine J_get (pc := 69) X clX9 0 0 rfl (by decide) g241 rfl dX9_beat_69 ?_
          refine J_iload_n (pc := 72) X 1 dX9_beat_72 rfl ?_
          refine J_iconst (pc := 73) X 0 dX9_beat_73 (by decide) ?_
          refine J_iload_n (pc := 74) X 3 dX9_beat_74 rfl ?_
          refine J_aload_n (pc := 75) X 2 dX9_beat_75 rfl ?_
          refine J_get (pc := 76) X clX9 0 3 rfl (by decide) g244 rfl dX9_beat_76 ?_
          refine J_callR (pc := 79) (As := []) (rest := [.int v, .int 0, .int (nI g), .ref q]) X mtX7_clock g449 [3, 4] 0 (kX7_clock l G cI cC cZ qs qsc c ) ⟨Nat.le_of_ble_eq_true rfl, Nat.le_of_ble_eq_true rfl⟩ rfl rfl rfl (by decide) rfl rfl rfl rfl rfl (Nat.le_of_ble_eq_true rfl) (Nat.zero_le _) (Nat.zero_le _) dX9_beat_79 (fun r_23 u_24 w_25 => ?_)
          try dsimp only at w_25
          subst w_25
          refine J_top (y := nw 0) hsc.1 ?_
          refine J_iload_n (pc := 82) X 0 dX9_beat_82 rfl ?_
          refine J_iadd (pc := 83) X dX9_beat_83 ?_
          refine J_aload_n (pc := 84) X 2 dX9_beat_84 rfl ?_
          refine J_get (pc := 85) X clX9 0 3 rfl (by decide) g244 rfl dX9_beat_85 ?_
          refine J_callR (pc := 88) (As := []) (rest := [.int ((nw 0) + (nI m1)), .int v, .int 0, .int (nI g), .ref q]) X mtX7_ropeSet g453 [3, 4] 0 (kX7_ropeSet l G cI cC cZ qs qsc c ) ⟨Nat.le_of_ble_eq_true rfl, Nat.le_of_ble_eq_true rfl⟩ rfl rfl rfl (by decide) rfl rfl rfl rfl rfl (Nat.le_of_ble_eq_true rfl) (Nat.zero_le _) (Nat.zero_le _) dX9_beat_88 (fun r_26 u_27 w_28 => ?_)
          try dsimp only at w_28
          subst w_28
          refine J_top (y := nw 1) hsc.2.1 ?_
          refine J_sipush (pc := 91) X 600 dX9_beat_91 (by decide) ?_
          refine J_iload_n (pc := 94) X 0 dX9_beat_94 rfl ?_
          refine J_isub (pc := 95) X dX9_beat_95 ?_
          refine J_top (y := nI (600 - m1)) (n_sub (x := 600) (y := m1) rfl rfl (by omega) (by omega)) ?_
          refine J_callR (pc := 96) (As := [.int (nI g), .int 0, .int v, .int ((nw 0) + (nI m1)), .int (nw 1), .int (nI (600 - m1))]) (rest := []) X mtX5_walkTime g680 [1, 2] 0 (kX5_walkTime l G cI cC cZ q qd qh qp P gr wd g wk fr dyr g 0 v ((nw 0) + (nI m1)) (nw 1) (600 - m1) dy (by first | assumption | omega) (by first | assumption | omega) (by first | assumption | omega) (by first | assumption | omega) (by first | assumption | omega) (by first | assumption | omega) (by first | assumption | omega) (by first | assumption | omega) (by first | assumption | omega)) ⟨Nat.le_of_ble_eq_true rfl, Nat.le_of_ble_eq_true rfl⟩ rfl rfl rfl (by decide) rfl rfl rfl rfl rfl (Nat.le_of_ble_eq_true rfl) (Nat.zero_le _) (Nat.zero_le _) dX9_beat_96 (fun r_29 u_30 w_31 => ?_)
          try dsimp only at w_31
          subst w_31
          rcases hW2 : wT (fun k9 t9 => yG P (dy k9) gr t9) (nw 1) v (nw 0 + nI m1) 0 (600 - m1) g 0 0 with _ | m2
          · skip
            refine J_top (y := (-1 : Int32)) (by first | rfl | (rw [hW2]; rfl)) ?_
            refine J_istore (pc := 99) X [(4, .int (-1)), (3, .int (nI m1)), (2, .int (nI g)), (0, .ref qx), (1, .int v)] dX9_beat_99 (by decide) rfl ?_
            refine J_iload (pc := 101) X 0 dX9_beat_101 rfl ?_
            refine J_iconst (pc := 103) X (-1) dX9_beat_103 (by decide) ?_
            refine J_icmp_ne (pc := 104) X 111 dX9_beat_104 (by decide) (fun c_32 => ?_) (fun c_32 => ?_)
            · skip
              exact absurd rfl c_32
            · skip
              refine J_iconst (pc := 107) X (-1) dX9_beat_107 (by decide) ?_
              refine J_goto (pc := 108) X 115 dX9_beat_108 (by decide) ?_
              refine J_iret (pc := 115) X hr () dX9_beat_115 ?_ rfl
              rw [spBeat, if_pos hv9, if_neg (by omega)]
              first | exact bt_n1 hW1 | exact bt_n2 hW1 hW2
          · skip
            have hm2 := (wT_ge _ _ _ _ _ hW2).2
            have hm29 : m2 ≤ 600 := by omega
            refine J_top (y := nI m2) (by first | rfl | (rw [hW2]; rfl)) ?_
            refine J_istore (pc := 99) X [(4, .int (nI m2)), (3, .int (nI m1)), (2, .int (nI g)), (0, .ref qx), (1, .int v)] dX9_beat_99 (by decide) rfl ?_
            refine J_iload (pc := 101) X 0 dX9_beat_101 rfl ?_
            refine J_iconst (pc := 103) X (-1) dX9_beat_103 (by decide) ?_
            refine J_icmp_ne (pc := 104) X 111 dX9_beat_104 (by decide) (fun c_33 => ?_) (fun c_33 => ?_)
            · skip
              refine J_iload_n (pc := 111) X 1 dX9_beat_111 rfl ?_
              refine J_iload (pc := 112) X 0 dX9_beat_112 rfl ?_
              refine J_iadd (pc := 114) X dX9_beat_114 ?_
              refine J_top (y := nI (m1 + m2)) (n_add (x := m1) (y := m2) rfl rfl (by omega)) ?_
              refine J_iret (pc := 115) X hr () dX9_beat_115 ?_ rfl
              rw [spBeat, if_pos hv9, if_neg (by omega)]
              exact bt_s hW1 hW2
            · skip
              exact absurd c_33 (nI_ne_m1 (by omega))
        · skip
          exact absurd c_22 (nI_ne_m1 (by omega))
    · have c_8 : hs = 0 := n_eq_of (a := hs) (b := 0) (by omega) (by omega) c_8
      refine J_ldc (pc := 20) X g564 dX9_beat_20 ?_
      refine J_iret (pc := 22) X hr () dX9_beat_22 ?_ rfl
      rw [spBeat, if_pos (by assumption), if_pos (by omega)]
  · skip
    refine J_ldc (pc := 7) X g285 dX9_beat_7 ?_
    refine J_iret (pc := 9) X hr () dX9_beat_9 ?_ rfl
    exact (if_neg (by assumption)).symm
