set_option maxRecDepth 100000 in
set_option maxHeartbeats 600000 in
theorem kX7_placeOf (l : Launch) (G : va_G) (cI cC cZ : ClassId) (qs : Nat) (qsc : Nat) (c : Nat → Int32) (q : Nat) (qd : Nat) (qh : Nat) (qp : Nat) (P : Nat) (gr : Int32) (wd : Nat) (g : Nat) (wk : Nat) (fr : Int32) (dyr : Nat → Int32) (w : Nat) (pos : Nat) (nw : Nat → Int32) (dy : Nat → Int32) (hPl : P ≤ 60) (hg : g ≤ 8) (hwk : wk ≤ 4) (hwd : wd ≤ 50) (hw : w < wk) (hP0 : 0 < g → 0 < P) (hdy : ∀ k, k < g → dyr k = dy k) (hsc : scR c nw wk) (hpos : nw (3 * w + 2) = nI pos) (hpk : posOk g pos) : CI l G (tys3 cI cC cZ) yX7_placeOf cX7_placeOf 6 (some .int) ({ frames := 4, cells := 0, slots := 0, locals := 92 }) [.ref qs, .ref q, .int (nI w)] [(qs, .inr (7, [.ref qsc])), (qsc, .inl (cI, 18, .inl c)), (q, .inr (5, [.int (nI P), .int gr, .int (nI wd), .int (nI g), .int (nI wk), .int fr, .ref qd, .ref qh, .ref qp])), (qd, .inl (cI, 8, .inl dyr))] (S := Unit) (fun (r : Int32) (u : Unit) => r = whP (fun k9 => yG P (dy k9) gr (nw 0)) pos (nw (3 * w + 3)) (nw (3 * w + 4))) (fun _ => [(qs, .inr (7, [.ref qsc])), (qsc, .inl (cI, 18, .inl c)), (q, .inr (5, [.int (nI P), .int gr, .int (nI wd), .int (nI g), .int (nI wk), .int fr, .ref qd, .ref qh, .ref qp])), (qd, .inl (cI, 8, .inl dyr))]) := by
  refine CI.intro (by decide) (Nat.le_of_ble_eq_true rfl) ?_
  intro p0 e0 s0 m0 ar0 be0 me0 c0 A0 X hr
  have hpl := posOk_lt hg hpk
  obtain ⟨q2, q3, q4, q5⟩ := scR_q hsc hw hpos hpl
  by_cases hp : pos < 100
  · skip
    have k2 := q2.trans (hsN_t hp)
    have k3 := q3.trans (gpN_t hp)
    have hpg : pos ≤ g := by rcases hpk with z9 | z9 <;> omega
    refine J_aload_n (pc := 0) X 0 dX7_placeOf_0 rfl ?_
    refine J_iload_n (pc := 1) X 2 dX7_placeOf_1 rfl ?_
    refine J_callR (pc := 2) (As := [.int (nI w)]) (rest := []) X mtX7_isInGap g543 [0, 1] 0 (kX7_isInGap l G cI cC cZ qs qsc c w (by first | assumption | omega)) ⟨Nat.le_of_ble_eq_true rfl, Nat.le_of_ble_eq_true rfl⟩ rfl rfl rfl (by decide) rfl rfl rfl rfl rfl (Nat.le_of_ble_eq_true rfl) (Nat.zero_le _) (Nat.zero_le _) dX7_placeOf_2 (fun r_1 u_2 w_3 => ?_)
    try dsimp only at w_3
    subst w_3
    refine J_top (y := (0 : Int32)) (bI_f (fun z9 => z9 k3)) ?_
    refine J_if_ne (pc := 5) X 22 dX7_placeOf_5 (by decide) (fun c_4 => ?_) (fun c_4 => ?_)
    · have c_4 : ¬ 0 = 0 := n_ne_of (a := 0) (b := 0) (by omega) (by omega) c_4
      exfalso; omega
    · have c_4 : 0 = 0 := n_eq_of (a := 0) (b := 0) (by omega) (by omega) c_4
      refine J_aload_n (pc := 8) X 1 dX7_placeOf_8 rfl ?_
      refine J_aload_n (pc := 9) X 0 dX7_placeOf_9 rfl ?_
      refine J_iload_n (pc := 10) X 2 dX7_placeOf_10 rfl ?_
      refine J_callR (pc := 11) (As := [.int (nI w)]) (rest := [.ref q]) X mtX7_houseOf g547 [0, 1] 0 (kX7_houseOf l G cI cC cZ qs qsc c w (by first | assumption | omega)) ⟨Nat.le_of_ble_eq_true rfl, Nat.le_of_ble_eq_true rfl⟩ rfl rfl rfl (by decide) rfl rfl rfl rfl rfl (Nat.le_of_ble_eq_true rfl) (Nat.zero_le _) (Nat.zero_le _) dX7_placeOf_11 (fun r_5 u_6 w_7 => ?_)
      try dsimp only at w_7
      subst w_7
      refine J_top (y := nI pos) k2 ?_
      refine J_aload_n (pc := 14) X 0 dX7_placeOf_14 rfl ?_
      refine J_callR (pc := 15) (As := []) (rest := [.int (nI pos), .ref q]) X mtX7_clock g548 [0, 1] 0 (kX7_clock l G cI cC cZ qs qsc c ) ⟨Nat.le_of_ble_eq_true rfl, Nat.le_of_ble_eq_true rfl⟩ rfl rfl rfl (by decide) rfl rfl rfl rfl rfl (Nat.le_of_ble_eq_true rfl) (Nat.zero_le _) (Nat.zero_le _) dX7_placeOf_15 (fun r_8 u_9 w_10 => ?_)
      try dsimp only at w_10
      subst w_10
      refine J_top (y := nw 0) hsc.1 ?_
      refine J_callR (pc := 18) (As := [.int (nI pos), .int (nw 0)]) (rest := []) X mtX5_yardsBelow g549 [2, 3] 0 (kX5_yardsBelow l G cI cC cZ q qd qh qp P gr wd g wk fr dyr pos (nw 0) dy (by first | assumption | omega) (by first | assumption | omega) (by first | assumption | omega) (by first | assumption | omega) (by first | assumption | omega) (by first | assumption | omega) (by first | assumption | omega)) ⟨Nat.le_of_ble_eq_true rfl, Nat.le_of_ble_eq_true rfl⟩ rfl rfl rfl (by decide) rfl rfl rfl rfl rfl (Nat.le_of_ble_eq_true rfl) (Nat.zero_le _) (Nat.zero_le _) dX7_placeOf_18 (fun r_11 u_12 w_13 => ?_)
      try dsimp only at w_13
      subst w_13
      refine J_iret (pc := 21) X hr () dX7_placeOf_21 ?_ rfl
      rw [whP, if_pos hp]
  · skip
    have k2 := q2.trans (hsN_f hp)
    have k3 := q3.trans (gpN_f hp)
    have hpg : 100 ≤ pos ∧ pos < 100 + g := by rcases hpk with z9 | z9 <;> omega
    refine J_aload_n (pc := 0) X 0 dX7_placeOf_0 rfl ?_
    refine J_iload_n (pc := 1) X 2 dX7_placeOf_1 rfl ?_
    refine J_callR (pc := 2) (As := [.int (nI w)]) (rest := []) X mtX7_isInGap g543 [0, 1] 0 (kX7_isInGap l G cI cC cZ qs qsc c w (by first | assumption | omega)) ⟨Nat.le_of_ble_eq_true rfl, Nat.le_of_ble_eq_true rfl⟩ rfl rfl rfl (by decide) rfl rfl rfl rfl rfl (Nat.le_of_ble_eq_true rfl) (Nat.zero_le _) (Nat.zero_le _) dX7_placeOf_2 (fun r_14 u_15 w_16 => ?_)
    try dsimp only at w_16
    subst w_16
    refine J_top (y := (1 : Int32)) (bI_t (by rw [k3]; exact nI_ne_m1 (by omega))) ?_
    refine J_if_ne (pc := 5) X 22 dX7_placeOf_5 (by decide) (fun c_17 => ?_) (fun c_17 => ?_)
    · have c_17 : ¬ 1 = 0 := n_ne_of (a := 1) (b := 0) (by omega) (by omega) c_17
      refine J_aload_n (pc := 22) X 0 dX7_placeOf_22 rfl ?_
      refine J_iload_n (pc := 23) X 2 dX7_placeOf_23 rfl ?_
      refine J_callR (pc := 24) (As := [.int (nI w)]) (rest := []) X mtX7_gapOf g554 [0, 1] 0 (kX7_gapOf l G cI cC cZ qs qsc c w (by first | assumption | omega)) ⟨Nat.le_of_ble_eq_true rfl, Nat.le_of_ble_eq_true rfl⟩ rfl rfl rfl (by decide) rfl rfl rfl rfl rfl (Nat.le_of_ble_eq_true rfl) (Nat.zero_le _) (Nat.zero_le _) dX7_placeOf_24 (fun r_18 u_19 w_20 => ?_)
      try dsimp only at w_20
      subst w_20
      refine J_top (y := nI (pos - 100)) k3 ?_
      refine J_istore_n (pc := 27) X [(3, .int (nI (pos - 100))), (0, .ref qs), (1, .ref q), (2, .int (nI w))] dX7_placeOf_27 (by decide) rfl ?_
      refine J_aload_n (pc := 28) X 2 dX7_placeOf_28 rfl ?_
      refine J_iload_n (pc := 29) X 0 dX7_placeOf_29 rfl ?_
      refine J_aload_n (pc := 30) X 1 dX7_placeOf_30 rfl ?_
      refine J_callR (pc := 31) (As := []) (rest := [.int (nI (pos - 100)), .ref q]) X mtX7_clock g548 [0, 1] 0 (kX7_clock l G cI cC cZ qs qsc c ) ⟨Nat.le_of_ble_eq_true rfl, Nat.le_of_ble_eq_true rfl⟩ rfl rfl rfl (by decide) rfl rfl rfl rfl rfl (Nat.le_of_ble_eq_true rfl) (Nat.zero_le _) (Nat.zero_le _) dX7_placeOf_31 (fun r_21 u_22 w_23 => ?_)
      try dsimp only at w_23
      subst w_23
      refine J_top (y := nw 0) hsc.1 ?_
      refine J_callR (pc := 34) (As := [.int (nI (pos - 100)), .int (nw 0)]) (rest := []) X mtX5_yardsAt g555 [2, 3] 0 (kX5_yardsAt l G cI cC cZ q qd qh qp P gr wd g wk fr dyr (pos - 100) (nw 0) dy (by first | assumption | omega) (by first | assumption | omega) (by first | assumption | omega) (by first | assumption | omega) (by first | assumption | omega) (by first | assumption | omega) (by first | assumption | omega)) ⟨Nat.le_of_ble_eq_true rfl, Nat.le_of_ble_eq_true rfl⟩ rfl rfl rfl (by decide) rfl rfl rfl rfl rfl (Nat.le_of_ble_eq_true rfl) (Nat.zero_le _) (Nat.zero_le _) dX7_placeOf_34 (fun r_24 u_25 w_26 => ?_)
      try dsimp only at w_26
      subst w_26
      refine J_istore (pc := 37) X [(4, .int (yG P (dy (pos - 100)) gr (nw 0))), (3, .int (nI (pos - 100))), (0, .ref qs), (1, .ref q), (2, .int (nI w))] dX7_placeOf_37 (by decide) rfl ?_
      refine J_aload_n (pc := 39) X 2 dX7_placeOf_39 rfl ?_
      refine J_iload_n (pc := 40) X 4 dX7_placeOf_40 rfl ?_
      refine J_callR (pc := 41) (As := [.int (nI w)]) (rest := []) X mtX7_yardsOf g556 [0, 1] 0 (kX7_yardsOf l G cI cC cZ qs qsc c w (by first | assumption | omega)) ⟨Nat.le_of_ble_eq_true rfl, Nat.le_of_ble_eq_true rfl⟩ rfl rfl rfl (by decide) rfl rfl rfl rfl rfl (Nat.le_of_ble_eq_true rfl) (Nat.zero_le _) (Nat.zero_le _) dX7_placeOf_41 (fun r_27 u_28 w_29 => ?_)
      try dsimp only at w_29
      subst w_29
      refine J_top (y := nw (3 * w + 3)) q4 ?_
      refine J_iload (pc := 44) X 0 dX7_placeOf_44 rfl ?_
      refine J_mmin (pc := 46) X g557 g492 g70 g493 (Nat.le_of_ble_eq_true rfl) (Nat.le_of_ble_eq_true rfl) (Nat.zero_le _) (Nat.zero_le _) dX7_placeOf_46 ?_
      refine J_istore (pc := 49) X [(5, .int (if (yG P (dy (pos - 100)) gr (nw 0)) < (nw (3 * w + 3)) then (yG P (dy (pos - 100)) gr (nw 0)) else (nw (3 * w + 3)))), (4, .int (yG P (dy (pos - 100)) gr (nw 0))), (3, .int (nI (pos - 100))), (0, .ref qs), (1, .ref q), (2, .int (nI w))] dX7_placeOf_49 (by decide) rfl ?_
      refine J_aload_n (pc := 51) X 4 dX7_placeOf_51 rfl ?_
      refine J_iload_n (pc := 52) X 2 dX7_placeOf_52 rfl ?_
      refine J_aload_n (pc := 53) X 3 dX7_placeOf_53 rfl ?_
      refine J_callR (pc := 54) (As := []) (rest := [.int (nI (pos - 100)), .ref q]) X mtX7_clock g548 [0, 1] 0 (kX7_clock l G cI cC cZ qs qsc c ) ⟨Nat.le_of_ble_eq_true rfl, Nat.le_of_ble_eq_true rfl⟩ rfl rfl rfl (by decide) rfl rfl rfl rfl rfl (Nat.le_of_ble_eq_true rfl) (Nat.zero_le _) (Nat.zero_le _) dX7_placeOf_54 (fun r_30 u_31 w_32 => ?_)
      try dsimp only at w_32
      subst w_32
      refine J_top (y := nw 0) hsc.1 ?_
      refine J_callR (pc := 57) (As := [.int (nI (pos - 100)), .int (nw 0)]) (rest := []) X mtX5_yardsBelow g549 [2, 3] 0 (kX5_yardsBelow l G cI cC cZ q qd qh qp P gr wd g wk fr dyr (pos - 100) (nw 0) dy (by first | assumption | omega) (by first | assumption | omega) (by first | assumption | omega) (by first | assumption | omega) (by first | assumption | omega) (by first | assumption | omega) (by first | assumption | omega)) ⟨Nat.le_of_ble_eq_true rfl, Nat.le_of_ble_eq_true rfl⟩ rfl rfl rfl (by decide) rfl rfl rfl rfl rfl (Nat.le_of_ble_eq_true rfl) (Nat.zero_le _) (Nat.zero_le _) dX7_placeOf_57 (fun r_33 u_34 w_35 => ?_)
      try dsimp only at w_35
      subst w_35
      refine J_aload_n (pc := 60) X 3 dX7_placeOf_60 rfl ?_
      refine J_iload_n (pc := 61) X 5 dX7_placeOf_61 rfl ?_
      refine J_callR (pc := 62) (As := [.int (nI w)]) (rest := [.int (sumI (fun k9 => yG P (dy k9) gr (nw 0)) (pos - 100))]) X mtX7_wayOf g558 [0, 1] 0 (kX7_wayOf l G cI cC cZ qs qsc c w (by first | assumption | omega)) ⟨Nat.le_of_ble_eq_true rfl, Nat.le_of_ble_eq_true rfl⟩ rfl rfl rfl (by decide) rfl rfl rfl rfl rfl (Nat.le_of_ble_eq_true rfl) (Nat.zero_le _) (Nat.zero_le _) dX7_placeOf_62 (fun r_36 u_37 w_38 => ?_)
      try dsimp only at w_38
      subst w_38
      refine J_top (y := nw (3 * w + 4)) q5 ?_
      refine J_iconst (pc := 65) X 2 dX7_placeOf_65 (by decide) ?_
      refine J_icmp_ne (pc := 66) X 74 dX7_placeOf_66 (by decide) (fun c_39 => ?_) (fun c_39 => ?_)
      · skip
        refine J_iload (pc := 74) X 1 dX7_placeOf_74 rfl ?_
        refine J_iload (pc := 76) X 0 dX7_placeOf_76 rfl ?_
        refine J_isub (pc := 78) X dX7_placeOf_78 ?_
        refine J_iadd (pc := 79) X dX7_placeOf_79 ?_
        refine J_iret (pc := 80) X hr () dX7_placeOf_80 ?_ rfl
        rw [whP, if_neg hp]
        first | exact (congrArg (HAdd.hAdd _) (if_pos (by assumption))).symm | exact (congrArg (HAdd.hAdd _) (if_neg (by assumption))).symm
      · skip
        refine J_iload (pc := 69) X 0 dX7_placeOf_69 rfl ?_
        refine J_goto (pc := 71) X 79 dX7_placeOf_71 (by decide) ?_
        refine J_iadd (pc := 79) X dX7_placeOf_79 ?_
        refine J_iret (pc := 80) X hr () dX7_placeOf_80 ?_ rfl
        rw [whP, if_neg hp]
        first | exact (congrArg (HAdd.hAdd _) (if_pos (by assumption))).symm | exact (congrArg (HAdd.hAdd _) (if_neg (by assumption))).symm
    · have c_17 : 1 = 0 := n_eq_of (a := 1) (b := 0) (by omega) (by omega) c_17
      exfalso; omega
set_option maxRecDepth 100000 in
set_option maxHeartbeats 600000 in
theorem kX7_leaveHouse (l : Launch) (G : va_G) (cI cC cZ : ClassId) (qs : Nat) (qsc : Nat) (c : Nat → Int32) (q : Nat) (qd : Nat) (qh : Nat) (qp : Nat) (P : Nat) (gr : Int32) (wd : Nat) (g : Nat) (wk : Nat) (fr : Int32) (w : Nat) (pos : Nat) (nw : Nat → Int32) (hPl : P ≤ 60) (hg : g ≤ 8) (hwk : wk ≤ 4) (hwd : wd ≤ 50) (hw : w < wk) (hsc : scR c nw wk) (hpos : nw (3 * w + 2) = nI pos) (hpk : posOk g pos) : CV l G (tys3 cI cC cZ) yX7_leaveHouse cX7_leaveHouse 4 ({ frames := 2, cells := 0, slots := 0, locals := 44 }) [.ref qs, .ref q, .int (nI w)] [(qs, .inr (7, [.ref qsc])), (qsc, .inl (cI, 18, .inl c)), (q, .inr (5, [.int (nI P), .int gr, .int (nI wd), .int (nI g), .int (nI wk), .int fr, .ref qd, .ref qh, .ref qp]))] (S := (Nat → Int32)) (fun (u : (Nat → Int32)) => scR u (upd3 nw w (lvP g pos (nw (3 * w + 3)) (nw (3 * w + 4)))) wk) (fun (u : (Nat → Int32)) => [(qs, .inr (7, [.ref qsc])), (qsc, .inl (cI, 18, .inl u)), (q, .inr (5, [.int (nI P), .int gr, .int (nI wd), .int (nI g), .int (nI wk), .int fr, .ref qd, .ref qh, .ref qp]))]) := by
  refine CV.intro (by decide) (Nat.le_of_ble_eq_true rfl) ?_
  intro p0 e0 s0 m0 ar0 be0 me0 c0 A0 X hr
  have hpl := posOk_lt hg hpk
  obtain ⟨q2, q3, q4, q5⟩ := scR_q hsc hw hpos hpl
  by_cases hp : pos < 100
  · skip
    have k2 := q2.trans (hsN_t hp)
    have k3 := q3.trans (gpN_t hp)
    have hpg : pos ≤ g := by rcases hpk with z9 | z9 <;> omega
    refine J_aload_n (pc := 0) X 0 dX7_leaveHouse_0 rfl ?_
    refine J_iload_n (pc := 1) X 2 dX7_leaveHouse_1 rfl ?_
    refine J_callR (pc := 2) (As := [.int (nI w)]) (rest := []) X mtX7_isInGap g543 [0, 1] 0 (kX7_isInGap l G cI cC cZ qs qsc c w (by first | assumption | omega)) ⟨Nat.le_of_ble_eq_true rfl, Nat.le_of_ble_eq_true rfl⟩ rfl rfl rfl (by decide) rfl rfl rfl rfl rfl (Nat.le_of_ble_eq_true rfl) (Nat.zero_le _) (Nat.zero_le _) dX7_leaveHouse_2 (fun r_1 u_2 w_3 => ?_)
    try dsimp only at w_3
    subst w_3
    refine J_top (y := (0 : Int32)) (bI_f (fun z9 => z9 k3)) ?_
    refine J_if_ne (pc := 5) X 17 dX7_leaveHouse_5 (by decide) (fun c_4 => ?_) (fun c_4 => ?_)
    · have c_4 : ¬ 0 = 0 := n_ne_of (a := 0) (b := 0) (by omega) (by omega) c_4
      exfalso; omega
    · have c_4 : 0 = 0 := n_eq_of (a := 0) (b := 0) (by omega) (by omega) c_4
      refine J_aload_n (pc := 8) X 0 dX7_leaveHouse_8 rfl ?_
      refine J_iload_n (pc := 9) X 2 dX7_leaveHouse_9 rfl ?_
      refine J_callR (pc := 10) (As := [.int (nI w)]) (rest := []) X mtX7_wayOf g558 [0, 1] 0 (kX7_wayOf l G cI cC cZ qs qsc c w (by first | assumption | omega)) ⟨Nat.le_of_ble_eq_true rfl, Nat.le_of_ble_eq_true rfl⟩ rfl rfl rfl (by decide) rfl rfl rfl rfl rfl (Nat.le_of_ble_eq_true rfl) (Nat.zero_le _) (Nat.zero_le _) dX7_leaveHouse_10 (fun r_5 u_6 w_7 => ?_)
      try dsimp only at w_7
      subst w_7
      refine J_top (y := nw (3 * w + 4)) q5 ?_
      refine J_iconst (pc := 13) X 1 dX7_leaveHouse_13 (by decide) ?_
      refine J_icmp_ne (pc := 14) X 18 dX7_leaveHouse_14 (by decide) (fun c_8 => ?_) (fun c_8 => ?_)
      · skip
        refine J_aload_n (pc := 18) X 0 dX7_leaveHouse_18 rfl ?_
        refine J_iload_n (pc := 19) X 2 dX7_leaveHouse_19 rfl ?_
        refine J_callR (pc := 20) (As := [.int (nI w)]) (rest := []) X mtX7_wayOf g558 [0, 1] 0 (kX7_wayOf l G cI cC cZ qs qsc c w (by first | assumption | omega)) ⟨Nat.le_of_ble_eq_true rfl, Nat.le_of_ble_eq_true rfl⟩ rfl rfl rfl (by decide) rfl rfl rfl rfl rfl (Nat.le_of_ble_eq_true rfl) (Nat.zero_le _) (Nat.zero_le _) dX7_leaveHouse_20 (fun r_9 u_10 w_11 => ?_)
        try dsimp only at w_11
        subst w_11
        refine J_top (y := nw (3 * w + 4)) q5 ?_
        refine J_iconst (pc := 23) X 2 dX7_leaveHouse_23 (by decide) ?_
        refine J_icmp_ne (pc := 24) X 35 dX7_leaveHouse_24 (by decide) (fun c_12 => ?_) (fun c_12 => ?_)
        · skip
          refine J_aload_n (pc := 35) X 0 dX7_leaveHouse_35 rfl ?_
          refine J_iload_n (pc := 36) X 2 dX7_leaveHouse_36 rfl ?_
          refine J_callR (pc := 37) (As := [.int (nI w)]) (rest := []) X mtX7_houseOf g547 [0, 1] 0 (kX7_houseOf l G cI cC cZ qs qsc c w (by first | assumption | omega)) ⟨Nat.le_of_ble_eq_true rfl, Nat.le_of_ble_eq_true rfl⟩ rfl rfl rfl (by decide) rfl rfl rfl rfl rfl (Nat.le_of_ble_eq_true rfl) (Nat.zero_le _) (Nat.zero_le _) dX7_leaveHouse_37 (fun r_13 u_14 w_15 => ?_)
          try dsimp only at w_15
          subst w_15
          refine J_top (y := nI pos) k2 ?_
          refine J_iconst (pc := 40) X 1 dX7_leaveHouse_40 (by decide) ?_
          refine J_isub (pc := 41) X dX7_leaveHouse_41 ?_
          refine J_istore_n (pc := 42) X [(3, .int ((nI pos) - 1)), (0, .ref qs), (1, .ref q), (2, .int (nI w))] dX7_leaveHouse_42 (by decide) rfl ?_
          refine J_aload_n (pc := 43) X 2 dX7_leaveHouse_43 rfl ?_
          refine J_iload_n (pc := 44) X 0 dX7_leaveHouse_44 rfl ?_
          refine J_callR (pc := 45) (As := [.int ((nI pos) - 1)]) (rest := []) X mtX5_hasGap g612 [2] 0 (kX5_hasGap l G cI cC cZ q qd qh qp P gr wd g wk fr ((nI pos) - 1) (by first | assumption | omega) (by first | assumption | omega) (by first | assumption | omega) (by first | assumption | omega)) ⟨Nat.le_of_ble_eq_true rfl, Nat.le_of_ble_eq_true rfl⟩ rfl rfl rfl (by decide) rfl rfl rfl rfl rfl (Nat.le_of_ble_eq_true rfl) (Nat.zero_le _) (Nat.zero_le _) dX7_leaveHouse_45 (fun r_16 u_17 w_18 => ?_)
          try dsimp only at w_18
          subst w_18
          refine J_top (y := bI (0 < pos ∧ pos - 1 < g)) (bI_congr (inB_pred (by omega))) ?_
          refine J_bif_eq (pc := 48) X 75 dX7_leaveHouse_48 (by decide) (fun c_19 => ?_) (fun c_19 => ?_)
          · skip
            refine J_aload_n (pc := 75) X 1 dX7_leaveHouse_75 rfl ?_
            refine J_iload_n (pc := 76) X 3 dX7_leaveHouse_76 rfl ?_
            refine J_iconst (pc := 77) X 3 dX7_leaveHouse_77 (by decide) ?_
            refine J_iconst (pc := 78) X 1 dX7_leaveHouse_78 (by decide) ?_
            refine J_callV (pc := 79) (As := [.int (nI w), .int 3, .int 1]) (rest := []) X mtX7_set g407 [0, 1] [2] [1, 2, 0] 0 (fun u => [(qs, .inr (7, [.ref qsc])), (qsc, .inl (cI, 18, .inl (upd c (4 * w + 3 + 2) 1))), (q, .inr (5, [.int (nI P), .int gr, .int (nI wd), .int (nI g), .int (nI wk), .int fr, .ref qd, .ref qh, .ref qp]))]) (kX7_set l G cI cC cZ qs qsc c w 3 1 (by first | assumption | omega) (by first | assumption | omega)) ⟨Nat.le_of_ble_eq_true rfl, Nat.le_of_ble_eq_true rfl⟩ rfl rfl rfl (by decide) (wr := [(q, .inr (5, [.int (nI P), .int gr, .int (nI wd), .int (nI g), .int (nI wk), .int fr, .ref qd, .ref qh, .ref qp]))]) rfl (by decide) (by decide) (fun _ => rfl) (by decide) rfl rfl rfl rfl rfl (Nat.le_of_ble_eq_true rfl) (Nat.zero_le _) (Nat.zero_le _) dX7_leaveHouse_79 (fun u_21 w_22 => ?_)
            try dsimp only at w_22
            refine J_vret (pc := 82) X hr (upd c (4 * w + 3 + 2) 1) dX7_leaveHouse_82 ?_ rfl
            refine scR_lv (lv_still hsc hw hpos hpl) ?_
            unfold lvP
            first | (rw [if_neg hp]; done) | (rw [if_pos hp, if_pos (by assumption)]; done) | (rw [if_pos hp, if_neg (by assumption), if_pos (by assumption), if_pos (by assumption)]; done) | (rw [if_pos hp, if_neg (by assumption), if_pos (by assumption), if_neg (by assumption)]; done) | (rw [if_pos hp, if_neg (by assumption), if_neg (by assumption), if_pos (by assumption)]; done) | (rw [if_pos hp, if_neg (by assumption), if_neg (by assumption), if_neg (by assumption)]; done)
          · skip
            refine J_aload_n (pc := 51) X 1 dX7_leaveHouse_51 rfl ?_
            refine J_iload_n (pc := 52) X 3 dX7_leaveHouse_52 rfl ?_
            refine J_iconst (pc := 53) X 0 dX7_leaveHouse_53 (by decide) ?_
            refine J_iconst (pc := 54) X (-1) dX7_leaveHouse_54 (by decide) ?_
            refine J_callV (pc := 55) (As := [.int (nI w), .int 0, .int (-1)]) (rest := []) X mtX7_set g407 [0, 1] [2] [1, 2, 0] 0 (fun u => [(qs, .inr (7, [.ref qsc])), (qsc, .inl (cI, 18, .inl (upd c (4 * w + 0 + 2) (-1)))), (q, .inr (5, [.int (nI P), .int gr, .int (nI wd), .int (nI g), .int (nI wk), .int fr, .ref qd, .ref qh, .ref qp]))]) (kX7_set l G cI cC cZ qs qsc c w 0 (-1) (by first | assumption | omega) (by first | assumption | omega)) ⟨Nat.le_of_ble_eq_true rfl, Nat.le_of_ble_eq_true rfl⟩ rfl rfl rfl (by decide) (wr := [(q, .inr (5, [.int (nI P), .int gr, .int (nI wd), .int (nI g), .int (nI wk), .int fr, .ref qd, .ref qh, .ref qp]))]) rfl (by decide) (by decide) (fun _ => rfl) (by decide) rfl rfl rfl rfl rfl (Nat.le_of_ble_eq_true rfl) (Nat.zero_le _) (Nat.zero_le _) dX7_leaveHouse_55 (fun u_24 w_25 => ?_)
            try dsimp only at w_25
            refine J_aload_n (pc := 58) X 1 dX7_leaveHouse_58 rfl ?_
            refine J_iload_n (pc := 59) X 3 dX7_leaveHouse_59 rfl ?_
            refine J_iconst (pc := 60) X 1 dX7_leaveHouse_60 (by decide) ?_
            refine J_iload_n (pc := 61) X 0 dX7_leaveHouse_61 rfl ?_
            refine J_callV (pc := 62) (As := [.int (nI w), .int 1, .int ((nI pos) - 1)]) (rest := []) X mtX7_set g407 [0, 1] [2] [1, 2, 0] 0 (fun u => [(qs, .inr (7, [.ref qsc])), (qsc, .inl (cI, 18, .inl (upd (upd c (4 * w + 0 + 2) (-1)) (4 * w + 1 + 2) ((nI pos) - 1)))), (q, .inr (5, [.int (nI P), .int gr, .int (nI wd), .int (nI g), .int (nI wk), .int fr, .ref qd, .ref qh, .ref qp]))]) (kX7_set l G cI cC cZ qs qsc (upd c (4 * w + 0 + 2) (-1)) w 1 ((nI pos) - 1) (by first | assumption | omega) (by first | assumption | omega)) ⟨Nat.le_of_ble_eq_true rfl, Nat.le_of_ble_eq_true rfl⟩ rfl rfl rfl (by decide) (wr := [(q, .inr (5, [.int (nI P), .int gr, .int (nI wd), .int (nI g), .int (nI wk), .int fr, .ref qd, .ref qh, .ref qp]))]) rfl (by decide) (by decide) (fun _ => rfl) (by decide) rfl rfl rfl rfl rfl (Nat.le_of_ble_eq_true rfl) (Nat.zero_le _) (Nat.zero_le _) dX7_leaveHouse_62 (fun u_27 w_28 => ?_)
            try dsimp only at w_28
            refine J_aload_n (pc := 65) X 1 dX7_leaveHouse_65 rfl ?_
            refine J_iload_n (pc := 66) X 3 dX7_leaveHouse_66 rfl ?_
            refine J_iconst (pc := 67) X 2 dX7_leaveHouse_67 (by decide) ?_
            refine J_iconst (pc := 68) X 0 dX7_leaveHouse_68 (by decide) ?_
            refine J_callV (pc := 69) (As := [.int (nI w), .int 2, .int 0]) (rest := []) X mtX7_set g407 [0, 1] [2] [1, 2, 0] 0 (fun u => [(qs, .inr (7, [.ref qsc])), (qsc, .inl (cI, 18, .inl (upd (upd (upd c (4 * w + 0 + 2) (-1)) (4 * w + 1 + 2) ((nI pos) - 1)) (4 * w + 2 + 2) 0))), (q, .inr (5, [.int (nI P), .int gr, .int (nI wd), .int (nI g), .int (nI wk), .int fr, .ref qd, .ref qh, .ref qp]))]) (kX7_set l G cI cC cZ qs qsc (upd (upd c (4 * w + 0 + 2) (-1)) (4 * w + 1 + 2) ((nI pos) - 1)) w 2 0 (by first | assumption | omega) (by first | assumption | omega)) ⟨Nat.le_of_ble_eq_true rfl, Nat.le_of_ble_eq_true rfl⟩ rfl rfl rfl (by decide) (wr := [(q, .inr (5, [.int (nI P), .int gr, .int (nI wd), .int (nI g), .int (nI wk), .int fr, .ref qd, .ref qh, .ref qp]))]) rfl (by decide) (by decide) (fun _ => rfl) (by decide) rfl rfl rfl rfl rfl (Nat.le_of_ble_eq_true rfl) (Nat.zero_le _) (Nat.zero_le _) dX7_leaveHouse_69 (fun u_30 w_31 => ?_)
            try dsimp only at w_31
            refine J_goto (pc := 72) X 82 dX7_leaveHouse_72 (by decide) ?_
            refine J_vret (pc := 82) X hr (upd (upd (upd c (4 * w + 0 + 2) (-1)) (4 * w + 1 + 2) ((nI pos) - 1)) (4 * w + 2 + 2) 0) dX7_leaveHouse_82 ?_ rfl
            rw [show nI pos - 1 = nI (pos - 1) from pk_sub (a := pos) (b := 1) (by omega)]
            refine scR_lv (lv_enter hsc hw (k := pos - 1) (by omega)) ?_
            unfold lvP
            first | (rw [if_neg hp]; done) | (rw [if_pos hp, if_pos (by assumption)]; done) | (rw [if_pos hp, if_neg (by assumption), if_pos (by assumption), if_pos (by assumption)]; done) | (rw [if_pos hp, if_neg (by assumption), if_pos (by assumption), if_neg (by assumption)]; done) | (rw [if_pos hp, if_neg (by assumption), if_neg (by assumption), if_pos (by assumption)]; done) | (rw [if_pos hp, if_neg (by assumption), if_neg (by assumption), if_neg (by assumption)]; done)
        · skip
          refine J_aload_n (pc := 27) X 0 dX7_leaveHouse_27 rfl ?_
          refine J_iload_n (pc := 28) X 2 dX7_leaveHouse_28 rfl ?_
          refine J_callR (pc := 29) (As := [.int (nI w)]) (rest := []) X mtX7_houseOf g547 [0, 1] 0 (kX7_houseOf l G cI cC cZ qs qsc c w (by first | assumption | omega)) ⟨Nat.le_of_ble_eq_true rfl, Nat.le_of_ble_eq_true rfl⟩ rfl rfl rfl (by decide) rfl rfl rfl rfl rfl (Nat.le_of_ble_eq_true rfl) (Nat.zero_le _) (Nat.zero_le _) dX7_leaveHouse_29 (fun r_32 u_33 w_34 => ?_)
          try dsimp only at w_34
          subst w_34
          refine J_top (y := nI pos) k2 ?_
          refine J_goto (pc := 32) X 42 dX7_leaveHouse_32 (by decide) ?_
          refine J_istore_n (pc := 42) X [(3, .int (nI pos)), (0, .ref qs), (1, .ref q), (2, .int (nI w))] dX7_leaveHouse_42 (by decide) rfl ?_
          refine J_aload_n (pc := 43) X 2 dX7_leaveHouse_43 rfl ?_
          refine J_iload_n (pc := 44) X 0 dX7_leaveHouse_44 rfl ?_
          refine J_callR (pc := 45) (As := [.int (nI pos)]) (rest := []) X mtX5_hasGap g612 [2] 0 (kX5_hasGap l G cI cC cZ q qd qh qp P gr wd g wk fr (nI pos) (by first | assumption | omega) (by first | assumption | omega) (by first | assumption | omega) (by first | assumption | omega)) ⟨Nat.le_of_ble_eq_true rfl, Nat.le_of_ble_eq_true rfl⟩ rfl rfl rfl (by decide) rfl rfl rfl rfl rfl (Nat.le_of_ble_eq_true rfl) (Nat.zero_le _) (Nat.zero_le _) dX7_leaveHouse_45 (fun r_35 u_36 w_37 => ?_)
          try dsimp only at w_37
          subst w_37
          refine J_top (y := bI (pos < g)) (bI_congr (inB_nI (by omega))) ?_
          refine J_bif_eq (pc := 48) X 75 dX7_leaveHouse_48 (by decide) (fun c_38 => ?_) (fun c_38 => ?_)
          · skip
            refine J_aload_n (pc := 75) X 1 dX7_leaveHouse_75 rfl ?_
            refine J_iload_n (pc := 76) X 3 dX7_leaveHouse_76 rfl ?_
            refine J_iconst (pc := 77) X 3 dX7_leaveHouse_77 (by decide) ?_
            refine J_iconst (pc := 78) X 1 dX7_leaveHouse_78 (by decide) ?_
            refine J_callV (pc := 79) (As := [.int (nI w), .int 3, .int 1]) (rest := []) X mtX7_set g407 [0, 1] [2] [1, 2, 0] 0 (fun u => [(qs, .inr (7, [.ref qsc])), (qsc, .inl (cI, 18, .inl (upd c (4 * w + 3 + 2) 1))), (q, .inr (5, [.int (nI P), .int gr, .int (nI wd), .int (nI g), .int (nI wk), .int fr, .ref qd, .ref qh, .ref qp]))]) (kX7_set l G cI cC cZ qs qsc c w 3 1 (by first | assumption | omega) (by first | assumption | omega)) ⟨Nat.le_of_ble_eq_true rfl, Nat.le_of_ble_eq_true rfl⟩ rfl rfl rfl (by decide) (wr := [(q, .inr (5, [.int (nI P), .int gr, .int (nI wd), .int (nI g), .int (nI wk), .int fr, .ref qd, .ref qh, .ref qp]))]) rfl (by decide) (by decide) (fun _ => rfl) (by decide) rfl rfl rfl rfl rfl (Nat.le_of_ble_eq_true rfl) (Nat.zero_le _) (Nat.zero_le _) dX7_leaveHouse_79 (fun u_40 w_41 => ?_)
            try dsimp only at w_41
            refine J_vret (pc := 82) X hr (upd c (4 * w + 3 + 2) 1) dX7_leaveHouse_82 ?_ rfl
            refine scR_lv (lv_still hsc hw hpos hpl) ?_
            unfold lvP
            first | (rw [if_neg hp]; done) | (rw [if_pos hp, if_pos (by assumption)]; done) | (rw [if_pos hp, if_neg (by assumption), if_pos (by assumption), if_pos (by assumption)]; done) | (rw [if_pos hp, if_neg (by assumption), if_pos (by assumption), if_neg (by assumption)]; done) | (rw [if_pos hp, if_neg (by assumption), if_neg (by assumption), if_pos (by assumption)]; done) | (rw [if_pos hp, if_neg (by assumption), if_neg (by assumption), if_neg (by assumption)]; done)
          · skip
            refine J_aload_n (pc := 51) X 1 dX7_leaveHouse_51 rfl ?_
            refine J_iload_n (pc := 52) X 3 dX7_leaveHouse_52 rfl ?_
            refine J_iconst (pc := 53) X 0 dX7_leaveHouse_53 (by decide) ?_
            refine J_iconst (pc := 54) X (-1) dX7_leaveHouse_54 (by decide) ?_
            refine J_callV (pc := 55) (As := [.int (nI w), .int 0, .int (-1)]) (rest := []) X mtX7_set g407 [0, 1] [2] [1, 2, 0] 0 (fun u => [(qs, .inr (7, [.ref qsc])), (qsc, .inl (cI, 18, .inl (upd c (4 * w + 0 + 2) (-1)))), (q, .inr (5, [.int (nI P), .int gr, .int (nI wd), .int (nI g), .int (nI wk), .int fr, .ref qd, .ref qh, .ref qp]))]) (kX7_set l G cI cC cZ qs qsc c w 0 (-1) (by first | assumption | omega) (by first | assumption | omega)) ⟨Nat.le_of_ble_eq_true rfl, Nat.le_of_ble_eq_true rfl⟩ rfl rfl rfl (by decide) (wr := [(q, .inr (5, [.int (nI P), .int gr, .int (nI wd), .int (nI g), .int (nI wk), .int fr, .ref qd, .ref qh, .ref qp]))]) rfl (by decide) (by decide) (fun _ => rfl) (by decide) rfl rfl rfl rfl rfl (Nat.le_of_ble_eq_true rfl) (Nat.zero_le _) (Nat.zero_le _) dX7_leaveHouse_55 (fun u_43 w_44 => ?_)
            try dsimp only at w_44
            refine J_aload_n (pc := 58) X 1 dX7_leaveHouse_58 rfl ?_
            refine J_iload_n (pc := 59) X 3 dX7_leaveHouse_59 rfl ?_
            refine J_iconst (pc := 60) X 1 dX7_leaveHouse_60 (by decide) ?_
            refine J_iload_n (pc := 61) X 0 dX7_leaveHouse_61 rfl ?_
            refine J_callV (pc := 62) (As := [.int (nI w), .int 1, .int (nI pos)]) (rest := []) X mtX7_set g407 [0, 1] [2] [1, 2, 0] 0 (fun u => [(qs, .inr (7, [.ref qsc])), (qsc, .inl (cI, 18, .inl (upd (upd c (4 * w + 0 + 2) (-1)) (4 * w + 1 + 2) (nI pos)))), (q, .inr (5, [.int (nI P), .int gr, .int (nI wd), .int (nI g), .int (nI wk), .int fr, .ref qd, .ref qh, .ref qp]))]) (kX7_set l G cI cC cZ qs qsc (upd c (4 * w + 0 + 2) (-1)) w 1 (nI pos) (by first | assumption | omega) (by first | assumption | omega)) ⟨Nat.le_of_ble_eq_true rfl, Nat.le_of_ble_eq_true rfl⟩ rfl rfl rfl (by decide) (wr := [(q, .inr (5, [.int (nI P), .int gr, .int (nI wd), .int (nI g), .int (nI wk), .int fr, .ref qd, .ref qh, .ref qp]))]) rfl (by decide) (by decide) (fun _ => rfl) (by decide) rfl rfl rfl rfl rfl (Nat.le_of_ble_eq_true rfl) (Nat.zero_le _) (Nat.zero_le _) dX7_leaveHouse_62 (fun u_46 w_47 => ?_)
            try dsimp only at w_47
            refine J_aload_n (pc := 65) X 1 dX7_leaveHouse_65 rfl ?_
            refine J_iload_n (pc := 66) X 3 dX7_leaveHouse_66 rfl ?_
            refine J_iconst (pc := 67) X 2 dX7_leaveHouse_67 (by decide) ?_
            refine J_iconst (pc := 68) X 0 dX7_leaveHouse_68 (by decide) ?_
            refine J_callV (pc := 69) (As := [.int (nI w), .int 2, .int 0]) (rest := []) X mtX7_set g407 [0, 1] [2] [1, 2, 0] 0 (fun u => [(qs, .inr (7, [.ref qsc])), (qsc, .inl (cI, 18, .inl (upd (upd (upd c (4 * w + 0 + 2) (-1)) (4 * w + 1 + 2) (nI pos)) (4 * w + 2 + 2) 0))), (q, .inr (5, [.int (nI P), .int gr, .int (nI wd), .int (nI g), .int (nI wk), .int fr, .ref qd, .ref qh, .ref qp]))]) (kX7_set l G cI cC cZ qs qsc (upd (upd c (4 * w + 0 + 2) (-1)) (4 * w + 1 + 2) (nI pos)) w 2 0 (by first | assumption | omega) (by first | assumption | omega)) ⟨Nat.le_of_ble_eq_true rfl, Nat.le_of_ble_eq_true rfl⟩ rfl rfl rfl (by decide) (wr := [(q, .inr (5, [.int (nI P), .int gr, .int (nI wd), .int (nI g), .int (nI wk), .int fr, .ref qd, .ref qh, .ref qp]))]) rfl (by decide) (by decide) (fun _ => rfl) (by decide) rfl rfl rfl rfl rfl (Nat.le_of_ble_eq_true rfl) (Nat.zero_le _) (Nat.zero_le _) dX7_leaveHouse_69 (fun u_49 w_50 => ?_)
            try dsimp only at w_50
            refine J_goto (pc := 72) X 82 dX7_leaveHouse_72 (by decide) ?_
            refine J_vret (pc := 82) X hr (upd (upd (upd c (4 * w + 0 + 2) (-1)) (4 * w + 1 + 2) (nI pos)) (4 * w + 2 + 2) 0) dX7_leaveHouse_82 ?_ rfl
            refine scR_lv (lv_enter hsc hw (k := pos) (by omega)) ?_
            unfold lvP
            first | (rw [if_neg hp]; done) | (rw [if_pos hp, if_pos (by assumption)]; done) | (rw [if_pos hp, if_neg (by assumption), if_pos (by assumption), if_pos (by assumption)]; done) | (rw [if_pos hp, if_neg (by assumption), if_pos (by assumption), if_neg (by assumption)]; done) | (rw [if_pos hp, if_neg (by assumption), if_neg (by assumption), if_pos (by assumption)]; done) | (rw [if_pos hp, if_neg (by assumption), if_neg (by assumption), if_neg (by assumption)]; done)
      · skip
        refine J_vret (pc := 17) X hr c dX7_leaveHouse_17 ?_ rfl
        refine scR_lv (by rw [upd3_same hpos]; exact hsc) ?_
        unfold lvP
        first | (rw [if_neg hp]; done) | (rw [if_pos hp, if_pos (by assumption)]; done) | (rw [if_pos hp, if_neg (by assumption), if_pos (by assumption), if_pos (by assumption)]; done) | (rw [if_pos hp, if_neg (by assumption), if_pos (by assumption), if_neg (by assumption)]; done) | (rw [if_pos hp, if_neg (by assumption), if_neg (by assumption), if_pos (by assumption)]; done) | (rw [if_pos hp, if_neg (by assumption), if_neg (by assumption), if_neg (by assumption)]; done)
  · skip
    have k2 := q2.trans (hsN_f hp)
    have k3 := q3.trans (gpN_f hp)
    have hpg : 100 ≤ pos ∧ pos < 100 + g := by rcases hpk with z9 | z9 <;> omega
    refine J_aload_n (pc := 0) X 0 dX7_leaveHouse_0 rfl ?_
    refine J_iload_n (pc := 1) X 2 dX7_leaveHouse_1 rfl ?_
    refine J_callR (pc := 2) (As := [.int (nI w)]) (rest := []) X mtX7_isInGap g543 [0, 1] 0 (kX7_isInGap l G cI cC cZ qs qsc c w (by first | assumption | omega)) ⟨Nat.le_of_ble_eq_true rfl, Nat.le_of_ble_eq_true rfl⟩ rfl rfl rfl (by decide) rfl rfl rfl rfl rfl (Nat.le_of_ble_eq_true rfl) (Nat.zero_le _) (Nat.zero_le _) dX7_leaveHouse_2 (fun r_51 u_52 w_53 => ?_)
    try dsimp only at w_53
    subst w_53
    refine J_top (y := (1 : Int32)) (bI_t (by rw [k3]; exact nI_ne_m1 (by omega))) ?_
    refine J_if_ne (pc := 5) X 17 dX7_leaveHouse_5 (by decide) (fun c_54 => ?_) (fun c_54 => ?_)
    · have c_54 : ¬ 1 = 0 := n_ne_of (a := 1) (b := 0) (by omega) (by omega) c_54
      refine J_vret (pc := 17) X hr c dX7_leaveHouse_17 ?_ rfl
      refine scR_lv (by rw [upd3_same hpos]; exact hsc) ?_
      unfold lvP
      first | (rw [if_neg hp]; done) | (rw [if_pos hp, if_pos (by assumption)]; done) | (rw [if_pos hp, if_neg (by assumption), if_pos (by assumption), if_pos (by assumption)]; done) | (rw [if_pos hp, if_neg (by assumption), if_pos (by assumption), if_neg (by assumption)]; done) | (rw [if_pos hp, if_neg (by assumption), if_neg (by assumption), if_pos (by assumption)]; done) | (rw [if_pos hp, if_neg (by assumption), if_neg (by assumption), if_neg (by assumption)]; done)
    · have c_54 : 1 = 0 := n_eq_of (a := 1) (b := 0) (by omega) (by omega) c_54
      exfalso; omega
set_option maxRecDepth 100000 in
set_option maxHeartbeats 600000 in
theorem kX7_stride (l : Launch) (G : va_G) (cI cC cZ : ClassId) (qs : Nat) (qsc : Nat) (c : Nat → Int32) (q : Nat) (qd : Nat) (qh : Nat) (qp : Nat) (P : Nat) (gr : Int32) (wd : Nat) (g : Nat) (wk : Nat) (fr : Int32) (dyr : Nat → Int32) (par_ : Nat → Int32) (w : Nat) (pos : Nat) (nw : Nat → Int32) (dy : Nat → Int32) (pa : Nat → Int32) (hPl : P ≤ 60) (hg : g ≤ 8) (hwk : wk ≤ 4) (hwd : wd ≤ 50) (hw : w < wk) (hP0 : 0 < g → 0 < P) (hdy : ∀ k, k < g → dyr k = dy k) (hsc : scR c nw wk) (hpos : nw (3 * w + 2) = nI pos) (hpk : posOk g pos) (hpa : ∀ k, k < wk → par_ k = pa k) : CV l G (tys3 cI cC cZ) yX7_stride cX7_stride 6 ({ frames := 3, cells := 0, slots := 0, locals := 68 }) [.ref qs, .ref q, .int (nI w)] [(qs, .inr (7, [.ref qsc])), (qsc, .inl (cI, 18, .inl c)), (q, .inr (5, [.int (nI P), .int gr, .int (nI wd), .int (nI g), .int (nI wk), .int fr, .ref qd, .ref qh, .ref qp])), (qd, .inl (cI, 8, .inl dyr)), (qp, .inl (cI, 4, .inl par_))] (S := (Nat → Int32)) (fun (u : (Nat → Int32)) => scR u (upd3 nw w (sdP (fun k9 t9 => yG P (dy k9) gr t9) (nw 1) (pa w) (nw 0) pos (nw (3 * w + 3)) (nw (3 * w + 4)))) wk) (fun (u : (Nat → Int32)) => [(qs, .inr (7, [.ref qsc])), (qsc, .inl (cI, 18, .inl u)), (q, .inr (5, [.int (nI P), .int gr, .int (nI wd), .int (nI g), .int (nI wk), .int fr, .ref qd, .ref qh, .ref qp])), (qd, .inl (cI, 8, .inl dyr)), (qp, .inl (cI, 4, .inl par_))]) := by
  refine CV.intro (by decide) (Nat.le_of_ble_eq_true rfl) ?_
  intro p0 e0 s0 m0 ar0 be0 me0 c0 A0 X hr
  have hpl := posOk_lt hg hpk
  obtain ⟨q2, q3, q4, q5⟩ := scR_q hsc hw hpos hpl
  by_cases hp : pos < 100
  · skip
    have k2 := q2.trans (hsN_t hp)
    have k3 := q3.trans (gpN_t hp)
    have hpg : pos ≤ g := by rcases hpk with z9 | z9 <;> omega
    refine J_aload_n (pc := 0) X 0 dX7_stride_0 rfl ?_
    refine J_iload_n (pc := 1) X 2 dX7_stride_1 rfl ?_
    refine J_callR (pc := 2) (As := [.int (nI w)]) (rest := []) X mtX7_isInGap g543 [0, 1] 0 (kX7_isInGap l G cI cC cZ qs qsc c w (by first | assumption | omega)) ⟨Nat.le_of_ble_eq_true rfl, Nat.le_of_ble_eq_true rfl⟩ rfl rfl rfl (by decide) rfl rfl rfl rfl rfl (Nat.le_of_ble_eq_true rfl) (Nat.zero_le _) (Nat.zero_le _) dX7_stride_2 (fun r_1 u_2 w_3 => ?_)
    try dsimp only at w_3
    subst w_3
    refine J_top (y := (0 : Int32)) (bI_f (fun z9 => z9 k3)) ?_
    refine J_if_ne (pc := 5) X 9 dX7_stride_5 (by decide) (fun c_4 => ?_) (fun c_4 => ?_)
    · have c_4 : ¬ 0 = 0 := n_ne_of (a := 0) (b := 0) (by omega) (by omega) c_4
      exfalso; omega
    · have c_4 : 0 = 0 := n_eq_of (a := 0) (b := 0) (by omega) (by omega) c_4
      refine J_vret (pc := 8) X hr c dX7_stride_8 ?_ rfl
      refine scR_lv (by rw [upd3_same hpos]; exact hsc) ?_
      exact (if_pos hp).symm
  · skip
    have k2 := q2.trans (hsN_f hp)
    have k3 := q3.trans (gpN_f hp)
    have hpg : 100 ≤ pos ∧ pos < 100 + g := by rcases hpk with z9 | z9 <;> omega
    refine J_aload_n (pc := 0) X 0 dX7_stride_0 rfl ?_
    refine J_iload_n (pc := 1) X 2 dX7_stride_1 rfl ?_
    refine J_callR (pc := 2) (As := [.int (nI w)]) (rest := []) X mtX7_isInGap g543 [0, 1] 0 (kX7_isInGap l G cI cC cZ qs qsc c w (by first | assumption | omega)) ⟨Nat.le_of_ble_eq_true rfl, Nat.le_of_ble_eq_true rfl⟩ rfl rfl rfl (by decide) rfl rfl rfl rfl rfl (Nat.le_of_ble_eq_true rfl) (Nat.zero_le _) (Nat.zero_le _) dX7_stride_2 (fun r_5 u_6 w_7 => ?_)
    try dsimp only at w_7
    subst w_7
    refine J_top (y := (1 : Int32)) (bI_t (by rw [k3]; exact nI_ne_m1 (by omega))) ?_
    refine J_if_ne (pc := 5) X 9 dX7_stride_5 (by decide) (fun c_8 => ?_) (fun c_8 => ?_)
    · have c_8 : ¬ 1 = 0 := n_ne_of (a := 1) (b := 0) (by omega) (by omega) c_8
      refine J_aload_n (pc := 9) X 0 dX7_stride_9 rfl ?_
      refine J_iload_n (pc := 10) X 2 dX7_stride_10 rfl ?_
      refine J_callR (pc := 11) (As := [.int (nI w)]) (rest := []) X mtX7_gapOf g554 [0, 1] 0 (kX7_gapOf l G cI cC cZ qs qsc c w (by first | assumption | omega)) ⟨Nat.le_of_ble_eq_true rfl, Nat.le_of_ble_eq_true rfl⟩ rfl rfl rfl (by decide) rfl rfl rfl rfl rfl (Nat.le_of_ble_eq_true rfl) (Nat.zero_le _) (Nat.zero_le _) dX7_stride_11 (fun r_9 u_10 w_11 => ?_)
      try dsimp only at w_11
      subst w_11
      refine J_top (y := nI (pos - 100)) k3 ?_
      refine J_istore_n (pc := 14) X [(3, .int (nI (pos - 100))), (0, .ref qs), (1, .ref q), (2, .int (nI w))] dX7_stride_14 (by decide) rfl ?_
      refine J_aload_n (pc := 15) X 2 dX7_stride_15 rfl ?_
      refine J_iload_n (pc := 16) X 3 dX7_stride_16 rfl ?_
      refine J_callR (pc := 17) (As := [.int (nI w)]) (rest := []) X mtX5_paceOf g617 [2, 4] 0 (kX5_paceOf l G cI cC cZ q qd qh qp P gr wd g wk fr par_ w pa (by first | assumption | omega) (by first | assumption | omega) (by first | assumption | omega) (by first | assumption | omega) (by first | assumption | omega) (by first | assumption | omega)) ⟨Nat.le_of_ble_eq_true rfl, Nat.le_of_ble_eq_true rfl⟩ rfl rfl rfl (by decide) rfl rfl rfl rfl rfl (Nat.le_of_ble_eq_true rfl) (Nat.zero_le _) (Nat.zero_le _) dX7_stride_17 (fun r_12 u_13 w_14 => ?_)
      try dsimp only at w_14
      subst w_14
      refine J_istore (pc := 20) X [(4, .int (pa w)), (3, .int (nI (pos - 100))), (0, .ref qs), (1, .ref q), (2, .int (nI w))] dX7_stride_20 (by decide) rfl ?_
      refine J_aload_n (pc := 22) X 2 dX7_stride_22 rfl ?_
      refine J_iload_n (pc := 23) X 4 dX7_stride_23 rfl ?_
      refine J_callR (pc := 24) (As := [.int (nI w)]) (rest := []) X mtX7_yardsOf g556 [0, 1] 0 (kX7_yardsOf l G cI cC cZ qs qsc c w (by first | assumption | omega)) ⟨Nat.le_of_ble_eq_true rfl, Nat.le_of_ble_eq_true rfl⟩ rfl rfl rfl (by decide) rfl rfl rfl rfl rfl (Nat.le_of_ble_eq_true rfl) (Nat.zero_le _) (Nat.zero_le _) dX7_stride_24 (fun r_15 u_16 w_17 => ?_)
      try dsimp only at w_17
      subst w_17
      refine J_top (y := nw (3 * w + 3)) q4 ?_
      refine J_aload_n (pc := 27) X 2 dX7_stride_27 rfl ?_
      refine J_iload_n (pc := 28) X 1 dX7_stride_28 rfl ?_
      refine J_callR (pc := 29) (As := [.int (nI (pos - 100))]) (rest := [.int (nw (3 * w + 3))]) X mtX7_hasRope g618 [0, 1] 0 (kX7_hasRope l G cI cC cZ qs qsc c (pos - 100) ) ⟨Nat.le_of_ble_eq_true rfl, Nat.le_of_ble_eq_true rfl⟩ rfl rfl rfl (by decide) rfl rfl rfl rfl rfl (Nat.le_of_ble_eq_true rfl) (Nat.zero_le _) (Nat.zero_le _) dX7_stride_29 (fun r_18 u_19 w_20 => ?_)
      try dsimp only at w_20
      subst w_20
      refine J_top (y := bI (hasR (nw 1) (pos - 100))) (by rw [hsc.2.1]) ?_
      refine J_bif_eq (pc := 32) X 42 dX7_stride_32 (by decide) (fun c_21 => ?_) (fun c_21 => ?_)
      · skip
        refine J_iload (pc := 42) X 0 dX7_stride_42 rfl ?_
        refine J_iadd (pc := 44) X dX7_stride_44 ?_
        refine J_istore (pc := 45) X [(5, .int ((nw (3 * w + 3)) + (pa w))), (4, .int (pa w)), (3, .int (nI (pos - 100))), (0, .ref qs), (1, .ref q), (2, .int (nI w))] dX7_stride_45 (by decide) rfl ?_
        refine J_iload (pc := 47) X 0 dX7_stride_47 rfl ?_
        refine J_aload_n (pc := 49) X 4 dX7_stride_49 rfl ?_
        refine J_iload_n (pc := 50) X 2 dX7_stride_50 rfl ?_
        refine J_aload_n (pc := 51) X 3 dX7_stride_51 rfl ?_
        refine J_callR (pc := 52) (As := []) (rest := [.int (nI (pos - 100)), .ref q, .int ((nw (3 * w + 3)) + (pa w))]) X mtX7_clock g548 [0, 1] 0 (kX7_clock l G cI cC cZ qs qsc c ) ⟨Nat.le_of_ble_eq_true rfl, Nat.le_of_ble_eq_true rfl⟩ rfl rfl rfl (by decide) rfl rfl rfl rfl rfl (Nat.le_of_ble_eq_true rfl) (Nat.zero_le _) (Nat.zero_le _) dX7_stride_52 (fun r_22 u_23 w_24 => ?_)
        try dsimp only at w_24
        subst w_24
        refine J_top (y := nw 0) hsc.1 ?_
        refine J_callR (pc := 55) (As := [.int (nI (pos - 100)), .int (nw 0)]) (rest := [.int ((nw (3 * w + 3)) + (pa w))]) X mtX5_yardsAt g555 [2, 3] 0 (kX5_yardsAt l G cI cC cZ q qd qh qp P gr wd g wk fr dyr (pos - 100) (nw 0) dy (by first | assumption | omega) (by first | assumption | omega) (by first | assumption | omega) (by first | assumption | omega) (by first | assumption | omega) (by first | assumption | omega) (by first | assumption | omega)) ⟨Nat.le_of_ble_eq_true rfl, Nat.le_of_ble_eq_true rfl⟩ rfl rfl rfl (by decide) rfl rfl rfl rfl rfl (Nat.le_of_ble_eq_true rfl) (Nat.zero_le _) (Nat.zero_le _) dX7_stride_55 (fun r_25 u_26 w_27 => ?_)
        try dsimp only at w_27
        subst w_27
        refine J_icmp_lt (pc := 58) X 85 dX7_stride_58 (by decide) (fun c_28 => ?_) (fun c_28 => ?_)
        · skip
          refine J_aload_n (pc := 85) X 3 dX7_stride_85 rfl ?_
          refine J_iload_n (pc := 86) X 5 dX7_stride_86 rfl ?_
          refine J_iconst (pc := 87) X 2 dX7_stride_87 (by decide) ?_
          refine J_iload (pc := 88) X 0 dX7_stride_88 rfl ?_
          refine J_callV (pc := 90) (As := [.int (nI w), .int 2, .int ((nw (3 * w + 3)) + (pa w))]) (rest := []) X mtX7_set g407 [0, 1] [2, 3, 4] [3, 4, 0, 1, 2] 0 (fun u => [(qs, .inr (7, [.ref qsc])), (qsc, .inl (cI, 18, .inl (upd c (4 * w + 2 + 2) ((nw (3 * w + 3)) + (pa w))))), (q, .inr (5, [.int (nI P), .int gr, .int (nI wd), .int (nI g), .int (nI wk), .int fr, .ref qd, .ref qh, .ref qp])), (qd, .inl (cI, 8, .inl dyr)), (qp, .inl (cI, 4, .inl par_))]) (kX7_set l G cI cC cZ qs qsc c w 2 ((nw (3 * w + 3)) + (pa w)) (by first | assumption | omega) (by first | assumption | omega)) ⟨Nat.le_of_ble_eq_true rfl, Nat.le_of_ble_eq_true rfl⟩ rfl rfl rfl (by decide) (wr := [(q, .inr (5, [.int (nI P), .int gr, .int (nI wd), .int (nI g), .int (nI wk), .int fr, .ref qd, .ref qh, .ref qp])), (qd, .inl (cI, 8, .inl dyr)), (qp, .inl (cI, 4, .inl par_))]) rfl (by decide) (by decide) (fun _ => rfl) (by decide) rfl rfl rfl rfl rfl (Nat.le_of_ble_eq_true rfl) (Nat.zero_le _) (Nat.zero_le _) dX7_stride_90 (fun u_30 w_31 => ?_)
          try dsimp only at w_31
          refine J_vret (pc := 93) X hr (upd c (4 * w + 2 + 2) ((nw (3 * w + 3)) + (pa w))) dX7_stride_93 ?_ rfl
          refine scR_lv (sd_go hsc hw hpos hpl) ?_
          rw [sdP, if_neg hp, goK_go (by first | exact if_pos (by assumption) | exact if_neg (by assumption)) (by assumption), show 100 + (pos - 100) = pos from by omega]
        · skip
          refine J_aload_n (pc := 61) X 3 dX7_stride_61 rfl ?_
          refine J_iload_n (pc := 62) X 5 dX7_stride_62 rfl ?_
          refine J_aload_n (pc := 63) X 3 dX7_stride_63 rfl ?_
          refine J_iload_n (pc := 64) X 5 dX7_stride_64 rfl ?_
          refine J_callR (pc := 65) (As := [.int (nI w)]) (rest := [.int (nI w), .ref qs]) X mtX7_wayOf g558 [0, 1] 0 (kX7_wayOf l G cI cC cZ qs qsc c w (by first | assumption | omega)) ⟨Nat.le_of_ble_eq_true rfl, Nat.le_of_ble_eq_true rfl⟩ rfl rfl rfl (by decide) rfl rfl rfl rfl rfl (Nat.le_of_ble_eq_true rfl) (Nat.zero_le _) (Nat.zero_le _) dX7_stride_65 (fun r_32 u_33 w_34 => ?_)
          try dsimp only at w_34
          subst w_34
          refine J_top (y := nw (3 * w + 4)) q5 ?_
          refine J_iconst (pc := 68) X 2 dX7_stride_68 (by decide) ?_
          refine J_icmp_ne (pc := 69) X 78 dX7_stride_69 (by decide) (fun c_35 => ?_) (fun c_35 => ?_)
          · skip
            refine J_iload_n (pc := 78) X 2 dX7_stride_78 rfl ?_
            refine J_callV (pc := 79) (As := [.int (nI w), .int (nI (pos - 100))]) (rest := []) X mtX7_stand g403 [0, 1] [2, 3, 4] [3, 4, 0, 1, 2] 0 (fun u => [(qs, .inr (7, [.ref qsc])), (qsc, .inl (cI, 18, .inl (upd (upd (upd c (4 * w + 0 + 2) (nI (pos - 100))) (4 * w + 1 + 2) (-1)) (4 * w + 2 + 2) 0))), (q, .inr (5, [.int (nI P), .int gr, .int (nI wd), .int (nI g), .int (nI wk), .int fr, .ref qd, .ref qh, .ref qp])), (qd, .inl (cI, 8, .inl dyr)), (qp, .inl (cI, 4, .inl par_))]) (kX7_stand l G cI cC cZ qs qsc c w (nI (pos - 100)) (by first | assumption | omega)) ⟨Nat.le_of_ble_eq_true rfl, Nat.le_of_ble_eq_true rfl⟩ rfl rfl rfl (by decide) (wr := [(q, .inr (5, [.int (nI P), .int gr, .int (nI wd), .int (nI g), .int (nI wk), .int fr, .ref qd, .ref qh, .ref qp])), (qd, .inl (cI, 8, .inl dyr)), (qp, .inl (cI, 4, .inl par_))]) rfl (by decide) (by decide) (fun _ => rfl) (by decide) rfl rfl rfl rfl rfl (Nat.le_of_ble_eq_true rfl) (Nat.zero_le _) (Nat.zero_le _) dX7_stride_79 (fun u_37 w_38 => ?_)
            try dsimp only at w_38
            refine J_goto (pc := 82) X 93 dX7_stride_82 (by decide) ?_
            refine J_vret (pc := 93) X hr (upd (upd (upd c (4 * w + 0 + 2) (nI (pos - 100))) (4 * w + 1 + 2) (-1)) (4 * w + 2 + 2) 0) dX7_stride_93 ?_ rfl
            refine scR_lv (sd_stand hsc hw (k := pos - 100) (by omega)) ?_
            rw [sdP, if_neg hp]
            exact (goK_in (by first | exact if_pos (by assumption) | exact if_neg (by assumption)) (by assumption) (if_neg (by assumption)).symm).symm
          · skip
            refine J_iload_n (pc := 72) X 2 dX7_stride_72 rfl ?_
            refine J_iconst (pc := 73) X 1 dX7_stride_73 (by decide) ?_
            refine J_iadd (pc := 74) X dX7_stride_74 ?_
            refine J_top (y := nI (pos - 99)) (n_add (x := pos - 100) (y := 1) rfl rfl (by omega)) ?_
            refine J_goto (pc := 75) X 79 dX7_stride_75 (by decide) ?_
            refine J_callV (pc := 79) (As := [.int (nI w), .int (nI (pos - 99))]) (rest := []) X mtX7_stand g403 [0, 1] [2, 3, 4] [3, 4, 0, 1, 2] 0 (fun u => [(qs, .inr (7, [.ref qsc])), (qsc, .inl (cI, 18, .inl (upd (upd (upd c (4 * w + 0 + 2) (nI (pos - 99))) (4 * w + 1 + 2) (-1)) (4 * w + 2 + 2) 0))), (q, .inr (5, [.int (nI P), .int gr, .int (nI wd), .int (nI g), .int (nI wk), .int fr, .ref qd, .ref qh, .ref qp])), (qd, .inl (cI, 8, .inl dyr)), (qp, .inl (cI, 4, .inl par_))]) (kX7_stand l G cI cC cZ qs qsc c w (nI (pos - 99)) (by first | assumption | omega)) ⟨Nat.le_of_ble_eq_true rfl, Nat.le_of_ble_eq_true rfl⟩ rfl rfl rfl (by decide) (wr := [(q, .inr (5, [.int (nI P), .int gr, .int (nI wd), .int (nI g), .int (nI wk), .int fr, .ref qd, .ref qh, .ref qp])), (qd, .inl (cI, 8, .inl dyr)), (qp, .inl (cI, 4, .inl par_))]) rfl (by decide) (by decide) (fun _ => rfl) (by decide) rfl rfl rfl rfl rfl (Nat.le_of_ble_eq_true rfl) (Nat.zero_le _) (Nat.zero_le _) dX7_stride_79 (fun u_40 w_41 => ?_)
            try dsimp only at w_41
            refine J_goto (pc := 82) X 93 dX7_stride_82 (by decide) ?_
            refine J_vret (pc := 93) X hr (upd (upd (upd c (4 * w + 0 + 2) (nI (pos - 99))) (4 * w + 1 + 2) (-1)) (4 * w + 2 + 2) 0) dX7_stride_93 ?_ rfl
            rw [show pos - 99 = pos - 100 + 1 from by omega]
            refine scR_lv (sd_stand hsc hw (k := pos - 100 + 1) (by omega)) ?_
            rw [sdP, if_neg hp]
            exact (goK_in (by first | exact if_pos (by assumption) | exact if_neg (by assumption)) (by assumption) (if_pos (by assumption)).symm).symm
      · skip
        refine J_iconst (pc := 35) X 2 dX7_stride_35 (by decide) ?_
        refine J_iload (pc := 36) X 0 dX7_stride_36 rfl ?_
        refine J_imul (pc := 38) X dX7_stride_38 ?_
        refine J_goto (pc := 39) X 44 dX7_stride_39 (by decide) ?_
        refine J_iadd (pc := 44) X dX7_stride_44 ?_
        refine J_istore (pc := 45) X [(5, .int ((nw (3 * w + 3)) + (2 * (pa w)))), (4, .int (pa w)), (3, .int (nI (pos - 100))), (0, .ref qs), (1, .ref q), (2, .int (nI w))] dX7_stride_45 (by decide) rfl ?_
        refine J_iload (pc := 47) X 0 dX7_stride_47 rfl ?_
        refine J_aload_n (pc := 49) X 4 dX7_stride_49 rfl ?_
        refine J_iload_n (pc := 50) X 2 dX7_stride_50 rfl ?_
        refine J_aload_n (pc := 51) X 3 dX7_stride_51 rfl ?_
        refine J_callR (pc := 52) (As := []) (rest := [.int (nI (pos - 100)), .ref q, .int ((nw (3 * w + 3)) + (2 * (pa w)))]) X mtX7_clock g548 [0, 1] 0 (kX7_clock l G cI cC cZ qs qsc c ) ⟨Nat.le_of_ble_eq_true rfl, Nat.le_of_ble_eq_true rfl⟩ rfl rfl rfl (by decide) rfl rfl rfl rfl rfl (Nat.le_of_ble_eq_true rfl) (Nat.zero_le _) (Nat.zero_le _) dX7_stride_52 (fun r_42 u_43 w_44 => ?_)
        try dsimp only at w_44
        subst w_44
        refine J_top (y := nw 0) hsc.1 ?_
        refine J_callR (pc := 55) (As := [.int (nI (pos - 100)), .int (nw 0)]) (rest := [.int ((nw (3 * w + 3)) + (2 * (pa w)))]) X mtX5_yardsAt g555 [2, 3] 0 (kX5_yardsAt l G cI cC cZ q qd qh qp P gr wd g wk fr dyr (pos - 100) (nw 0) dy (by first | assumption | omega) (by first | assumption | omega) (by first | assumption | omega) (by first | assumption | omega) (by first | assumption | omega) (by first | assumption | omega) (by first | assumption | omega)) ⟨Nat.le_of_ble_eq_true rfl, Nat.le_of_ble_eq_true rfl⟩ rfl rfl rfl (by decide) rfl rfl rfl rfl rfl (Nat.le_of_ble_eq_true rfl) (Nat.zero_le _) (Nat.zero_le _) dX7_stride_55 (fun r_45 u_46 w_47 => ?_)
        try dsimp only at w_47
        subst w_47
        refine J_icmp_lt (pc := 58) X 85 dX7_stride_58 (by decide) (fun c_48 => ?_) (fun c_48 => ?_)
        · skip
          refine J_aload_n (pc := 85) X 3 dX7_stride_85 rfl ?_
          refine J_iload_n (pc := 86) X 5 dX7_stride_86 rfl ?_
          refine J_iconst (pc := 87) X 2 dX7_stride_87 (by decide) ?_
          refine J_iload (pc := 88) X 0 dX7_stride_88 rfl ?_
          refine J_callV (pc := 90) (As := [.int (nI w), .int 2, .int ((nw (3 * w + 3)) + (2 * (pa w)))]) (rest := []) X mtX7_set g407 [0, 1] [2, 3, 4] [3, 4, 0, 1, 2] 0 (fun u => [(qs, .inr (7, [.ref qsc])), (qsc, .inl (cI, 18, .inl (upd c (4 * w + 2 + 2) ((nw (3 * w + 3)) + (2 * (pa w)))))), (q, .inr (5, [.int (nI P), .int gr, .int (nI wd), .int (nI g), .int (nI wk), .int fr, .ref qd, .ref qh, .ref qp])), (qd, .inl (cI, 8, .inl dyr)), (qp, .inl (cI, 4, .inl par_))]) (kX7_set l G cI cC cZ qs qsc c w 2 ((nw (3 * w + 3)) + (2 * (pa w))) (by first | assumption | omega) (by first | assumption | omega)) ⟨Nat.le_of_ble_eq_true rfl, Nat.le_of_ble_eq_true rfl⟩ rfl rfl rfl (by decide) (wr := [(q, .inr (5, [.int (nI P), .int gr, .int (nI wd), .int (nI g), .int (nI wk), .int fr, .ref qd, .ref qh, .ref qp])), (qd, .inl (cI, 8, .inl dyr)), (qp, .inl (cI, 4, .inl par_))]) rfl (by decide) (by decide) (fun _ => rfl) (by decide) rfl rfl rfl rfl rfl (Nat.le_of_ble_eq_true rfl) (Nat.zero_le _) (Nat.zero_le _) dX7_stride_90 (fun u_50 w_51 => ?_)
          try dsimp only at w_51
          refine J_vret (pc := 93) X hr (upd c (4 * w + 2 + 2) ((nw (3 * w + 3)) + (2 * (pa w)))) dX7_stride_93 ?_ rfl
          refine scR_lv (sd_go hsc hw hpos hpl) ?_
          rw [sdP, if_neg hp, goK_go (by first | exact if_pos (by assumption) | exact if_neg (by assumption)) (by assumption), show 100 + (pos - 100) = pos from by omega]
        · skip
          refine J_aload_n (pc := 61) X 3 dX7_stride_61 rfl ?_
          refine J_iload_n (pc := 62) X 5 dX7_stride_62 rfl ?_
          refine J_aload_n (pc := 63) X 3 dX7_stride_63 rfl ?_
          refine J_iload_n (pc := 64) X 5 dX7_stride_64 rfl ?_
          refine J_callR (pc := 65) (As := [.int (nI w)]) (rest := [.int (nI w), .ref qs]) X mtX7_wayOf g558 [0, 1] 0 (kX7_wayOf l G cI cC cZ qs qsc c w (by first | assumption | omega)) ⟨Nat.le_of_ble_eq_true rfl, Nat.le_of_ble_eq_true rfl⟩ rfl rfl rfl (by decide) rfl rfl rfl rfl rfl (Nat.le_of_ble_eq_true rfl) (Nat.zero_le _) (Nat.zero_le _) dX7_stride_65 (fun r_52 u_53 w_54 => ?_)
          try dsimp only at w_54
          subst w_54
          refine J_top (y := nw (3 * w + 4)) q5 ?_
          refine J_iconst (pc := 68) X 2 dX7_stride_68 (by decide) ?_
          refine J_icmp_ne (pc := 69) X 78 dX7_stride_69 (by decide) (fun c_55 => ?_) (fun c_55 => ?_)
          · skip
            refine J_iload_n (pc := 78) X 2 dX7_stride_78 rfl ?_
            refine J_callV (pc := 79) (As := [.int (nI w), .int (nI (pos - 100))]) (rest := []) X mtX7_stand g403 [0, 1] [2, 3, 4] [3, 4, 0, 1, 2] 0 (fun u => [(qs, .inr (7, [.ref qsc])), (qsc, .inl (cI, 18, .inl (upd (upd (upd c (4 * w + 0 + 2) (nI (pos - 100))) (4 * w + 1 + 2) (-1)) (4 * w + 2 + 2) 0))), (q, .inr (5, [.int (nI P), .int gr, .int (nI wd), .int (nI g), .int (nI wk), .int fr, .ref qd, .ref qh, .ref qp])), (qd, .inl (cI, 8, .inl dyr)), (qp, .inl (cI, 4, .inl par_))]) (kX7_stand l G cI cC cZ qs qsc c w (nI (pos - 100)) (by first | assumption | omega)) ⟨Nat.le_of_ble_eq_true rfl, Nat.le_of_ble_eq_true rfl⟩ rfl rfl rfl (by decide) (wr := [(q, .inr (5, [.int (nI P), .int gr, .int (nI wd), .int (nI g), .int (nI wk), .int fr, .ref qd, .ref qh, .ref qp])), (qd, .inl (cI, 8, .inl dyr)), (qp, .inl (cI, 4, .inl par_))]) rfl (by decide) (by decide) (fun _ => rfl) (by decide) rfl rfl rfl rfl rfl (Nat.le_of_ble_eq_true rfl) (Nat.zero_le _) (Nat.zero_le _) dX7_stride_79 (fun u_57 w_58 => ?_)
            try dsimp only at w_58
            refine J_goto (pc := 82) X 93 dX7_stride_82 (by decide) ?_
            refine J_vret (pc := 93) X hr (upd (upd (upd c (4 * w + 0 + 2) (nI (pos - 100))) (4 * w + 1 + 2) (-1)) (4 * w + 2 + 2) 0) dX7_stride_93 ?_ rfl
            refine scR_lv (sd_stand hsc hw (k := pos - 100) (by omega)) ?_
            rw [sdP, if_neg hp]
            exact (goK_in (by first | exact if_pos (by assumption) | exact if_neg (by assumption)) (by assumption) (if_neg (by assumption)).symm).symm
          · skip
            refine J_iload_n (pc := 72) X 2 dX7_stride_72 rfl ?_
            refine J_iconst (pc := 73) X 1 dX7_stride_73 (by decide) ?_
            refine J_iadd (pc := 74) X dX7_stride_74 ?_
            refine J_top (y := nI (pos - 99)) (n_add (x := pos - 100) (y := 1) rfl rfl (by omega)) ?_
            refine J_goto (pc := 75) X 79 dX7_stride_75 (by decide) ?_
            refine J_callV (pc := 79) (As := [.int (nI w), .int (nI (pos - 99))]) (rest := []) X mtX7_stand g403 [0, 1] [2, 3, 4] [3, 4, 0, 1, 2] 0 (fun u => [(qs, .inr (7, [.ref qsc])), (qsc, .inl (cI, 18, .inl (upd (upd (upd c (4 * w + 0 + 2) (nI (pos - 99))) (4 * w + 1 + 2) (-1)) (4 * w + 2 + 2) 0))), (q, .inr (5, [.int (nI P), .int gr, .int (nI wd), .int (nI g), .int (nI wk), .int fr, .ref qd, .ref qh, .ref qp])), (qd, .inl (cI, 8, .inl dyr)), (qp, .inl (cI, 4, .inl par_))]) (kX7_stand l G cI cC cZ qs qsc c w (nI (pos - 99)) (by first | assumption | omega)) ⟨Nat.le_of_ble_eq_true rfl, Nat.le_of_ble_eq_true rfl⟩ rfl rfl rfl (by decide) (wr := [(q, .inr (5, [.int (nI P), .int gr, .int (nI wd), .int (nI g), .int (nI wk), .int fr, .ref qd, .ref qh, .ref qp])), (qd, .inl (cI, 8, .inl dyr)), (qp, .inl (cI, 4, .inl par_))]) rfl (by decide) (by decide) (fun _ => rfl) (by decide) rfl rfl rfl rfl rfl (Nat.le_of_ble_eq_true rfl) (Nat.zero_le _) (Nat.zero_le _) dX7_stride_79 (fun u_60 w_61 => ?_)
            try dsimp only at w_61
            refine J_goto (pc := 82) X 93 dX7_stride_82 (by decide) ?_
            refine J_vret (pc := 93) X hr (upd (upd (upd c (4 * w + 0 + 2) (nI (pos - 99))) (4 * w + 1 + 2) (-1)) (4 * w + 2 + 2) 0) dX7_stride_93 ?_ rfl
            rw [show pos - 99 = pos - 100 + 1 from by omega]
            refine scR_lv (sd_stand hsc hw (k := pos - 100 + 1) (by omega)) ?_
            rw [sdP, if_neg hp]
            exact (goK_in (by first | exact if_pos (by assumption) | exact if_neg (by assumption)) (by assumption) (if_pos (by assumption)).symm).symm
    · have c_8 : 1 = 0 := n_eq_of (a := 1) (b := 0) (by omega) (by omega) c_8
      exfalso; omega
