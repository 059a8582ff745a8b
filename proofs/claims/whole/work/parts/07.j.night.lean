set_option maxRecDepth 100000 in
set_option maxHeartbeats 600000 in
theorem kJ6_compare_7cf53 (l : Launch) (G : va_G) (cI cC cZ : ClassId) (x : Int32) (y : Int32) : CI l G (tys3 cI cC cZ) yJ6_compare_7cf53 cJ6_compare_7cf53 2 (some .int) ({ frames := 0, cells := 0, slots := 0, locals := 0 }) [.int x, .int y] [] (S := Unit) (fun (r : Int32) (u : Unit) => r = cmp3 x y) (fun _ => []) := by
  refine CI.intro (by decide) (Nat.le_of_ble_eq_true rfl) ?_
  intro p0 e0 s0 m0 ar0 be0 me0 c0 A0 X hr
  refine J_iload_n (pc := 0) X 0 dJ6_compare_7cf53_0 rfl ?_
  refine J_iload_n (pc := 1) X 1 dJ6_compare_7cf53_1 rfl ?_
  refine J_icmp_ge (pc := 2) X 9 dJ6_compare_7cf53_2 (by decide) (fun c_1 => ?_) (fun c_1 => ?_)
  · have c_1 := Int32.not_lt.mpr c_1
    refine J_iload_n (pc := 9) X 0 dJ6_compare_7cf53_9 rfl ?_
    refine J_iload_n (pc := 10) X 1 dJ6_compare_7cf53_10 rfl ?_
    refine J_icmp_ne (pc := 11) X 18 dJ6_compare_7cf53_11 (by decide) (fun c_2 => ?_) (fun c_2 => ?_)
    · skip
      refine J_iconst (pc := 18) X 1 dJ6_compare_7cf53_18 (by decide) ?_
      refine J_iret (pc := 19) X hr () dJ6_compare_7cf53_19 ?_ rfl
      first | exact (if_pos (by assumption)).symm | (rw [cmp3, if_neg (by assumption)]; first | exact (if_pos (by assumption)).symm | exact (if_neg (by assumption)).symm)
    · skip
      refine J_iconst (pc := 14) X 0 dJ6_compare_7cf53_14 (by decide) ?_
      refine J_goto (pc := 15) X 19 dJ6_compare_7cf53_15 (by decide) ?_
      refine J_iret (pc := 19) X hr () dJ6_compare_7cf53_19 ?_ rfl
      first | exact (if_pos (by assumption)).symm | (rw [cmp3, if_neg (by assumption)]; first | exact (if_pos (by assumption)).symm | exact (if_neg (by assumption)).symm)
  · have c_1 := Int32.not_le.mp c_1
    refine J_iconst (pc := 5) X (-1) dJ6_compare_7cf53_5 (by decide) ?_
    refine J_goto (pc := 6) X 19 dJ6_compare_7cf53_6 (by decide) ?_
    refine J_iret (pc := 19) X hr () dJ6_compare_7cf53_19 ?_ rfl
    first | exact (if_pos (by assumption)).symm | (rw [cmp3, if_neg (by assumption)]; first | exact (if_pos (by assumption)).symm | exact (if_neg (by assumption)).symm)
set_option maxRecDepth 100000 in
set_option maxHeartbeats 600000 in
theorem kX9_setOut (l : Launch) (G : va_G) (cI cC cZ : ClassId) (qx : Nat) (q : Nat) (qq : Nat) (qr : Nat) (qs : Nat) (qt : Nat) (qpa : Nat) (qi : Nat) (ql : Nat) (qb : Nat) (qg : Nat) (qw : Nat) (qn : Nat) (qd : Nat) (qh : Nat) (qp : Nat) (P : Nat) (gr : Int32) (wd : Nat) (g : Nat) (wk : Nat) (fr : Int32) (dyr : Nat → Int32) (qsc : Nat) (c : Nat → Int32) (sa : Int32) (sb : Int32) (sn : Nat) (hs : Nat) (nw : Nat → Int32) (dy : Nat → Int32) (a : Int32) (b : Int32) (v : Int32) (uu : Int32) (what : Int32) (hPl : P ≤ 60) (hg : g ≤ 8) (hwk : wk ≤ 4) (hwd : wd ≤ 50) (hP0 : 0 < g → 0 < P) (hhs : (g = 0 ∧ hs = 0) ∨ (0 < g ∧ hs = g + 1)) (hdy : ∀ k, k < g → dyr k = dy k) (hsc : scR c nw wk) : CI l G (tys3 cI cC cZ) yX9_setOut cX9_setOut 7 (some .int) ({ frames := 4, cells := 0, slots := 0, locals := 98 }) [.ref qx, .int a, .int b, .int v, .int uu, .int what] [(qx, .inr (9, [.ref q, .ref qq, .ref qr, .ref qs, .ref qt, .ref qpa, .ref qi, .ref ql, .ref qb, .ref qg, .ref qw, .ref qn])), (q, .inr (5, [.int (nI P), .int gr, .int (nI wd), .int (nI g), .int (nI wk), .int fr, .ref qd, .ref qh, .ref qp])), (qd, .inl (cI, 8, .inl dyr)), (qs, .inr (7, [.ref qsc])), (qsc, .inl (cI, 18, .inl c)), (qn, .inr (8, [.int sa, .int sb, .int (nI sn)]))] (S := Int32 × Int32 × Nat) (fun (r : Int32) (u : Int32 × Int32 × Nat) => r = spSetOut hs (fun k9 t9 => yG P (dy k9) gr t9) (nw 1) a b v uu what) (fun (u : Int32 × Int32 × Nat) => [(qx, .inr (9, [.ref q, .ref qq, .ref qr, .ref qs, .ref qt, .ref qpa, .ref qi, .ref ql, .ref qb, .ref qg, .ref qw, .ref qn])), (q, .inr (5, [.int (nI P), .int gr, .int (nI wd), .int (nI g), .int (nI wk), .int fr, .ref qd, .ref qh, .ref qp])), (qd, .inl (cI, 8, .inl dyr)), (qs, .inr (7, [.ref qsc])), (qsc, .inl (cI, 18, .inl c)), (qn, .inr (8, [.int u.1, .int u.2.1, .int (nI u.2.2)]))]) := by
  refine CI.intro (by decide) (Nat.le_of_ble_eq_true rfl) ?_
  intro p0 e0 s0 m0 ar0 be0 me0 c0 A0 X hr
  refine J_aload_n (pc := 0) X 0 dX9_setOut_0 rfl ?_
  refine J_iload_n (pc := 1) X 1 dX9_setOut_1 rfl ?_
  refine J_iload_n (pc := 2) X 2 dX9_setOut_2 rfl ?_
  refine J_callR (pc := 3) (As := [.int a, .int b]) (rest := []) X mtX9_areTwoHouses g668 [0, 1] 0 (kX9_areTwoHouses l G cI cC cZ qx q qq qr qs qt qpa qi ql qb qg qw qn qd qh qp P gr wd g wk fr hs a b (by first | assumption | omega) (by first | assumption | omega) (by first | assumption | omega) (by first | assumption | omega) (by first | assumption | omega)) ⟨Nat.le_of_ble_eq_true rfl, Nat.le_of_ble_eq_true rfl⟩ rfl rfl rfl (by decide) rfl rfl rfl rfl rfl (Nat.le_of_ble_eq_true rfl) (Nat.zero_le _) (Nat.zero_le _) dX9_setOut_3 (fun r_1 u_2 w_3 => ?_)
  try dsimp only at w_3
  subst w_3
  refine J_bif_ne (pc := 6) X 12 dX9_setOut_6 (by decide) (fun c_4 => ?_) (fun c_4 => ?_)
  · skip
    have htwo := c_4
    obtain ⟨hta, htb, hnab⟩ := c_4
    obtain ⟨an, han, rfl⟩ := inB_ex (by omega) hta
    obtain ⟨bn, hbn, rfl⟩ := inB_ex (by omega) htb
    have hne : ¬ an = bn := fun e9 => hnab (congrArg nI e9)
    have ca := nI_clamp (n := an) (by omega)
    have cb := nI_clamp (n := bn) (by omega)
    refine J_iload_n (pc := 12) X 3 dX9_setOut_12 rfl ?_
    refine J_callS (pc := 13) (As := [.int v]) (rest := []) X mtX9_isPace g677 [] (kX9_isPace l G cI cC cZ v ) ⟨Nat.le_of_ble_eq_true rfl, Nat.le_of_ble_eq_true rfl⟩ rfl rfl rfl (by decide) rfl rfl (Nat.le_of_ble_eq_true rfl) (Nat.zero_le _) (Nat.zero_le _) dX9_setOut_13 (fun r_5 u_6 w_7 => ?_)
    try dsimp only at w_7
    subst w_7
    refine J_bif_eq (pc := 16) X 40 dX9_setOut_16 (by decide) (fun c_8 => ?_) (fun c_8 => ?_)
    · skip
      refine J_ldc (pc := 40) X g285 dX9_setOut_40 ?_
      refine J_iret (pc := 42) X hr (sa, sb, sn) dX9_setOut_42 ?_ rfl
      rw [spSetOut, if_pos htwo, ca, cb]
      first | exact (if_neg (fun z => absurd z.1 (by assumption))).symm | exact (if_neg (fun z => absurd z.2.1 (by assumption))).symm | exact (if_neg (fun z => absurd z.2.2 (by assumption))).symm
    · skip
      refine J_iload (pc := 19) X 4 dX9_setOut_19 rfl ?_
      refine J_iconst (pc := 21) X 0 dX9_setOut_21 (by decide) ?_
      refine J_bipush (pc := 22) X 119 dX9_setOut_22 (by decide) ?_
      refine J_callS (pc := 24) (As := [.int uu, .int 0, .int 119]) (rest := []) X mtX9_isWithin g282 [] (kX9_isWithin l G cI cC cZ uu 0 119 ) ⟨Nat.le_of_ble_eq_true rfl, Nat.le_of_ble_eq_true rfl⟩ rfl rfl rfl (by decide) rfl rfl (Nat.le_of_ble_eq_true rfl) (Nat.zero_le _) (Nat.zero_le _) dX9_setOut_24 (fun r_9 u_10 w_11 => ?_)
      try dsimp only at w_11
      subst w_11
      refine J_bif_eq (pc := 27) X 40 dX9_setOut_27 (by decide) (fun c_12 => ?_) (fun c_12 => ?_)
      · skip
        refine J_ldc (pc := 40) X g285 dX9_setOut_40 ?_
        refine J_iret (pc := 42) X hr (sa, sb, sn) dX9_setOut_42 ?_ rfl
        rw [spSetOut, if_pos htwo, ca, cb]
        first | exact (if_neg (fun z => absurd z.1 (by assumption))).symm | exact (if_neg (fun z => absurd z.2.1 (by assumption))).symm | exact (if_neg (fun z => absurd z.2.2 (by assumption))).symm
      · skip
        refine J_iload (pc := 30) X 5 dX9_setOut_30 rfl ?_
        refine J_iconst (pc := 32) X 0 dX9_setOut_32 (by decide) ?_
        refine J_iconst (pc := 33) X 2 dX9_setOut_33 (by decide) ?_
        refine J_callS (pc := 34) (As := [.int what, .int 0, .int 2]) (rest := []) X mtX9_isWithin g282 [] (kX9_isWithin l G cI cC cZ what 0 2 ) ⟨Nat.le_of_ble_eq_true rfl, Nat.le_of_ble_eq_true rfl⟩ rfl rfl rfl (by decide) rfl rfl (Nat.le_of_ble_eq_true rfl) (Nat.zero_le _) (Nat.zero_le _) dX9_setOut_34 (fun r_13 u_14 w_15 => ?_)
        try dsimp only at w_15
        subst w_15
        refine J_bif_ne (pc := 37) X 43 dX9_setOut_37 (by decide) (fun c_16 => ?_) (fun c_16 => ?_)
        · skip
          have hwu := c_12
          obtain ⟨un, hun1, hun2, rfl⟩ := wIn_ex 0 119 (by decide) (by decide) c_12
          have cu := nI_clamp (n := un) (by omega)
          refine J_aload_n (pc := 43) X 0 dX9_setOut_43 rfl ?_
          refine J_get (pc := 44) X clX9 0 11 rfl (by decide) g252 rfl dX9_setOut_44 ?_
          refine J_callV (pc := 47) (As := []) (rest := []) X mtX8_clear g688 [5] [0, 1, 2, 3, 4] [0, 1, 2, 3, 4, 5] 0 (fun u => [(qx, .inr (9, [.ref q, .ref qq, .ref qr, .ref qs, .ref qt, .ref qpa, .ref qi, .ref ql, .ref qb, .ref qg, .ref qw, .ref qn])), (q, .inr (5, [.int (nI P), .int gr, .int (nI wd), .int (nI g), .int (nI wk), .int fr, .ref qd, .ref qh, .ref qp])), (qd, .inl (cI, 8, .inl dyr)), (qs, .inr (7, [.ref qsc])), (qsc, .inl (cI, 18, .inl c)), (qn, .inr (8, [.int (-1), .int (-1), .int 0]))]) (kX8_clear l G cI cC cZ qn sa sb sn ) ⟨Nat.le_of_ble_eq_true rfl, Nat.le_of_ble_eq_true rfl⟩ rfl rfl rfl (by decide) (wr := [(qx, .inr (9, [.ref q, .ref qq, .ref qr, .ref qs, .ref qt, .ref qpa, .ref qi, .ref ql, .ref qb, .ref qg, .ref qw, .ref qn])), (q, .inr (5, [.int (nI P), .int gr, .int (nI wd), .int (nI g), .int (nI wk), .int fr, .ref qd, .ref qh, .ref qp])), (qd, .inl (cI, 8, .inl dyr)), (qs, .inr (7, [.ref qsc])), (qsc, .inl (cI, 18, .inl c))]) rfl (by decide) (by decide) (fun _ => rfl) (by decide) rfl rfl rfl rfl rfl (Nat.le_of_ble_eq_true rfl) (Nat.zero_le _) (Nat.zero_le _) dX9_setOut_47 (fun u_18 w_19 => ?_)
          try dsimp only at w_19
          refine J_iconst (pc := 50) X 0 dX9_setOut_50 (by decide) ?_
          refine J_istore (pc := 51) X [(6, .int 0), (0, .ref qx), (1, .int (nI an)), (2, .int (nI bn)), (3, .int v), (4, .int (nI un)), (5, .int what)] dX9_setOut_51 (by decide) rfl ?_
          have L_53 : ∀ (n_53 : Nat) (i : Nat) (a1 : Int32) (b1 : Int32) (m : Nat) (hi : i ≤ un + 1) (hm : m ≤ i) (hsp : (a1, b1, m) = spn (soQ (fun k9 t9 => yG P (dy k9) gr t9) (nw 1) v an bn un) i), (un + 1 - i) < n_53 → JJ p0 l e0 ({ frames := 4, cells := 0, slots := 0, locals := 98 }) s0 m0 ar0 be0 me0 c0 A0 G 7 0 0 (QI be0 ar0 s0 A0 G (tys3 cI cC cZ) (S := Int32 × Int32 × Nat) (fun (r : Int32) (u : Int32 × Int32 × Nat) => r = spSetOut hs (fun k9 t9 => yG P (dy k9) gr t9) (nw 1) (nI an) (nI bn) v (nI un) what) (fun (u : Int32 × Int32 × Nat) => [(qx, .inr (9, [.ref q, .ref qq, .ref qr, .ref qs, .ref qt, .ref qpa, .ref qi, .ref ql, .ref qb, .ref qg, .ref qw, .ref qn])), (q, .inr (5, [.int (nI P), .int gr, .int (nI wd), .int (nI g), .int (nI wk), .int fr, .ref qd, .ref qh, .ref qp])), (qd, .inl (cI, 8, .inl dyr)), (qs, .inr (7, [.ref qsc])), (qsc, .inl (cI, 18, .inl c)), (qn, .inr (8, [.int u.1, .int u.2.1, .int (nI u.2.2)]))])) [(qx, .inr (9, [.ref q, .ref qq, .ref qr, .ref qs, .ref qt, .ref qpa, .ref qi, .ref ql, .ref qb, .ref qg, .ref qw, .ref qn])), (q, .inr (5, [.int (nI P), .int gr, .int (nI wd), .int (nI g), .int (nI wk), .int fr, .ref qd, .ref qh, .ref qp])), (qd, .inl (cI, 8, .inl dyr)), (qs, .inr (7, [.ref qsc])), (qsc, .inl (cI, 18, .inl c)), (qn, .inr (8, [.int a1, .int b1, .int (nI m)]))] 53 [(0, .ref qx), (1, .int (nI an)), (2, .int (nI bn)), (3, .int v), (4, .int (nI un)), (5, .int what), (6, .int (nI i))] [] := by
            intro n_53
            induction n_53 with
            | zero => intro i a1 b1 m hi hm hsp hm_53; exact absurd hm_53 (Nat.not_lt_zero _)
            | succ n_53 ih_53 =>
              intro i a1 b1 m hi hm hsp hm_53
              refine J_iload (pc := 53) X 6 dX9_setOut_53 rfl ?_
              refine J_iload (pc := 55) X 4 dX9_setOut_55 rfl ?_
              refine J_icmp_gt (pc := 57) X 103 dX9_setOut_57 (by decide) (fun c_20 => ?_) (fun c_20 => ?_)
              · have c_20 : un < i := n_lt_of (a := un) (b := i) (by omega) (by omega) c_20
                refine J_iload (pc := 103) X 5 dX9_setOut_103 rfl ?_
                refine J_if_ne (pc := 105) X 118 dX9_setOut_105 (by decide) (fun c_21 => ?_) (fun c_21 => ?_)
                · skip
                  refine J_iload (pc := 118) X 5 dX9_setOut_118 rfl ?_
                  refine J_iconst (pc := 120) X 1 dX9_setOut_120 (by decide) ?_
                  refine J_icmp_ne (pc := 121) X 134 dX9_setOut_121 (by decide) (fun c_22 => ?_) (fun c_22 => ?_)
                  · skip
                    refine J_aload_n (pc := 134) X 0 dX9_setOut_134 rfl ?_
                    refine J_get (pc := 135) X clX9 0 11 rfl (by decide) g252 rfl dX9_setOut_135 ?_
                    refine J_callR (pc := 138) (As := []) (rest := []) X mtX8_size g704 [5] 0 (kX8_size l G cI cC cZ qn a1 b1 m ) ⟨Nat.le_of_ble_eq_true rfl, Nat.le_of_ble_eq_true rfl⟩ rfl rfl rfl (by decide) rfl rfl rfl rfl rfl (Nat.le_of_ble_eq_true rfl) (Nat.zero_le _) (Nat.zero_le _) dX9_setOut_138 (fun r_23 u_24 w_25 => ?_)
                    try dsimp only at w_25
                    subst w_25
                    refine J_iret (pc := 141) X hr (a1, b1, m) dX9_setOut_141 ?_ rfl
                    rw [spSetOut, if_pos htwo, ca, cb]
                    rw [if_pos ⟨by assumption, hwu, by assumption⟩, cu, show un + 1 = i from by omega, ← hsp]
                    simp [pick3, c_8, c_16, c_20, c_21, c_22]
                  · skip
                    refine J_aload_n (pc := 124) X 0 dX9_setOut_124 rfl ?_
                    refine J_get (pc := 125) X clX9 0 11 rfl (by decide) g252 rfl dX9_setOut_125 ?_
                    refine J_callR (pc := 128) (As := []) (rest := []) X mtX8_last g700 [5] 0 (kX8_last l G cI cC cZ qn a1 b1 m ) ⟨Nat.le_of_ble_eq_true rfl, Nat.le_of_ble_eq_true rfl⟩ rfl rfl rfl (by decide) rfl rfl rfl rfl rfl (Nat.le_of_ble_eq_true rfl) (Nat.zero_le _) (Nat.zero_le _) dX9_setOut_128 (fun r_26 u_27 w_28 => ?_)
                    try dsimp only at w_28
                    have w_28 := w_28.symm; subst w_28
                    refine J_goto (pc := 131) X 141 dX9_setOut_131 (by decide) ?_
                    refine J_iret (pc := 141) X hr (a1, b1, m) dX9_setOut_141 ?_ rfl
                    rw [spSetOut, if_pos htwo, ca, cb]
                    rw [if_pos ⟨by assumption, hwu, by assumption⟩, cu, show un + 1 = i from by omega, ← hsp]
                    simp [pick3, c_8, c_16, c_20, c_21, c_22]
                · skip
                  refine J_aload_n (pc := 108) X 0 dX9_setOut_108 rfl ?_
                  refine J_get (pc := 109) X clX9 0 11 rfl (by decide) g252 rfl dX9_setOut_109 ?_
                  refine J_callR (pc := 112) (As := []) (rest := []) X mtX8_first g696 [5] 0 (kX8_first l G cI cC cZ qn a1 b1 m ) ⟨Nat.le_of_ble_eq_true rfl, Nat.le_of_ble_eq_true rfl⟩ rfl rfl rfl (by decide) rfl rfl rfl rfl rfl (Nat.le_of_ble_eq_true rfl) (Nat.zero_le _) (Nat.zero_le _) dX9_setOut_112 (fun r_29 u_30 w_31 => ?_)
                  try dsimp only at w_31
                  have w_31 := w_31.symm; subst w_31
                  refine J_goto (pc := 115) X 141 dX9_setOut_115 (by decide) ?_
                  refine J_iret (pc := 141) X hr (a1, b1, m) dX9_setOut_141 ?_ rfl
                  rw [spSetOut, if_pos htwo, ca, cb]
                  rw [if_pos ⟨by assumption, hwu, by assumption⟩, cu, show un + 1 = i from by omega, ← hsp]
                  simp [pick3, c_8, c_16, c_20, c_21]
              · have c_20 : i ≤ un := n_nlt_of (a := un) (b := i) (by omega) (by omega) c_20
                refine J_aload_n (pc := 60) X 0 dX9_setOut_60 rfl ?_
                refine J_get (pc := 61) X clX9 0 0 rfl (by decide) g241 rfl dX9_setOut_61 ?_
                refine J_iload_n (pc := 64) X 1 dX9_setOut_64 rfl ?_
                refine J_iload_n (pc := 65) X 2 dX9_setOut_65 rfl ?_
                refine J_iload_n (pc := 66) X 3 dX9_setOut_66 rfl ?_
                refine J_iload (pc := 67) X 6 dX9_setOut_67 rfl ?_
                refine J_aload_n (pc := 69) X 0 dX9_setOut_69 rfl ?_
                refine J_get (pc := 70) X clX9 0 3 rfl (by decide) g244 rfl dX9_setOut_70 ?_
                refine J_callR (pc := 73) (As := []) (rest := [.int (nI i), .int v, .int (nI bn), .int (nI an), .ref q]) X mtX7_ropeSet g453 [3, 4] 0 (kX7_ropeSet l G cI cC cZ qs qsc c ) ⟨Nat.le_of_ble_eq_true rfl, Nat.le_of_ble_eq_true rfl⟩ rfl rfl rfl (by decide) rfl rfl rfl rfl rfl (Nat.le_of_ble_eq_true rfl) (Nat.zero_le _) (Nat.zero_le _) dX9_setOut_73 (fun r_32 u_33 w_34 => ?_)
                try dsimp only at w_34
                subst w_34
                refine J_top (y := nw 1) hsc.2.1 ?_
                refine J_iload (pc := 76) X 4 dX9_setOut_76 rfl ?_
                refine J_iload (pc := 78) X 6 dX9_setOut_78 rfl ?_
                refine J_isub (pc := 80) X dX9_setOut_80 ?_
                refine J_top (y := nI (un - i)) (n_sub (x := un) (y := i) rfl rfl (by omega) (by omega)) ?_
                refine J_callR (pc := 81) (As := [.int (nI an), .int (nI bn), .int v, .int (nI i), .int (nw 1), .int (nI (un - i))]) (rest := []) X mtX5_walkTime g680 [1, 2] 0 (kX5_walkTime l G cI cC cZ q qd qh qp P gr wd g wk fr dyr an bn v (nI i) (nw 1) (un - i) dy (by first | assumption | omega) (by first | assumption | omega) (by first | assumption | omega) (by first | assumption | omega) (by first | assumption | omega) (by first | assumption | omega) (by first | assumption | omega) (by first | assumption | omega) (by first | assumption | omega)) ⟨Nat.le_of_ble_eq_true rfl, Nat.le_of_ble_eq_true rfl⟩ rfl rfl rfl (by decide) rfl rfl rfl rfl rfl (Nat.le_of_ble_eq_true rfl) (Nat.zero_le _) (Nat.zero_le _) dX9_setOut_81 (fun r_35 u_36 w_37 => ?_)
                try dsimp only at w_37
                subst w_37
                refine J_iconst (pc := 84) X (-1) dX9_setOut_84 (by decide) ?_
                refine J_icmp_eq (pc := 85) X 97 dX9_setOut_85 (by decide) (fun c_38 => ?_) (fun c_38 => ?_)
                · skip
                  refine J_iinc (pc := 97) X (nI (i + 1)) 6 [(6, .int (nI (i + 1))), (0, .ref qx), (1, .int (nI an)), (2, .int (nI bn)), (3, .int v), (4, .int (nI un)), (5, .int what)] dX9_setOut_97 rfl (n_add (x := i) (y := 1) rfl rfl (by omega)) (by decide) rfl ?_
                  refine J_goto (pc := 100) X 53 dX9_setOut_100 (by decide) ?_
                  refine J_loc [1, 2, 3, 4, 5, 6, 0] (lv2 := [(0, .ref qx), (1, .int (nI an)), (2, .int (nI bn)), (3, .int v), (4, .int (nI un)), (5, .int what), (6, .int (nI (i + 1)))]) rfl ?_
                  exact ih_53  (i + 1) a1 b1 m (by first | assumption | omega | simp_all) (by first | assumption | omega | simp_all) (by first | exact spn_out hsp (fun z9 => ((so_iff (by omega) (by omega)).mp z9) (by assumption)) | (rw [hnt]; exact spn_in hsp ((so_iff (by omega) (by omega)).mpr (by assumption)))) (by omega)
                · skip
                  refine J_aload_n (pc := 88) X 0 dX9_setOut_88 rfl ?_
                  refine J_get (pc := 89) X clX9 0 11 rfl (by decide) g252 rfl dX9_setOut_89 ?_
                  refine J_iload (pc := 92) X 6 dX9_setOut_92 rfl ?_
                  refine J_callV (pc := 94) (As := [.int (nI i)]) (rest := []) X mtX8_note g692 [5] [0, 1, 2, 3, 4] [0, 1, 2, 3, 4, 5] 0 (fun u => [(qx, .inr (9, [.ref q, .ref qq, .ref qr, .ref qs, .ref qt, .ref qpa, .ref qi, .ref ql, .ref qb, .ref qg, .ref qw, .ref qn])), (q, .inr (5, [.int (nI P), .int gr, .int (nI wd), .int (nI g), .int (nI wk), .int fr, .ref qd, .ref qh, .ref qp])), (qd, .inl (cI, 8, .inl dyr)), (qs, .inr (7, [.ref qsc])), (qsc, .inl (cI, 18, .inl c)), (qn, .inr (8, [.int u, .int (nI i), .int (nI (m + 1))]))]) (kX8_note l G cI cC cZ qn a1 b1 m (nI i) (by first | assumption | omega)) ⟨Nat.le_of_ble_eq_true rfl, Nat.le_of_ble_eq_true rfl⟩ rfl rfl rfl (by decide) (wr := [(qx, .inr (9, [.ref q, .ref qq, .ref qr, .ref qs, .ref qt, .ref qpa, .ref qi, .ref ql, .ref qb, .ref qg, .ref qw, .ref qn])), (q, .inr (5, [.int (nI P), .int gr, .int (nI wd), .int (nI g), .int (nI wk), .int fr, .ref qd, .ref qh, .ref qp])), (qd, .inl (cI, 8, .inl dyr)), (qs, .inr (7, [.ref qsc])), (qsc, .inl (cI, 18, .inl c))]) rfl (by decide) (by decide) (fun _ => rfl) (by decide) rfl rfl rfl rfl rfl (Nat.le_of_ble_eq_true rfl) (Nat.zero_le _) (Nat.zero_le _) dX9_setOut_94 (fun u_40 w_41 => ?_)
                  obtain ⟨aA, rfl⟩ : ∃ z, z = u_40 := ⟨_, rfl⟩
                  try dsimp only at w_41
                  have hnt := w_41
                  refine J_iinc (pc := 97) X (nI (i + 1)) 6 [(6, .int (nI (i + 1))), (0, .ref qx), (1, .int (nI an)), (2, .int (nI bn)), (3, .int v), (4, .int (nI un)), (5, .int what)] dX9_setOut_97 rfl (n_add (x := i) (y := 1) rfl rfl (by omega)) (by decide) rfl ?_
                  refine J_goto (pc := 100) X 53 dX9_setOut_100 (by decide) ?_
                  refine J_loc [1, 2, 3, 4, 5, 6, 0] (lv2 := [(0, .ref qx), (1, .int (nI an)), (2, .int (nI bn)), (3, .int v), (4, .int (nI un)), (5, .int what), (6, .int (nI (i + 1)))]) rfl ?_
                  exact ih_53  (i + 1) aA (nI i) (m + 1) (by first | assumption | omega | simp_all) (by first | assumption | omega | simp_all) (by first | exact spn_out hsp (fun z9 => ((so_iff (by omega) (by omega)).mp z9) (by assumption)) | (rw [hnt]; exact spn_in hsp ((so_iff (by omega) (by omega)).mpr (by assumption)))) (by omega)
          refine J_loc [1, 2, 3, 4, 5, 6, 0] (lv2 := [(0, .ref qx), (1, .int (nI an)), (2, .int (nI bn)), (3, .int v), (4, .int (nI un)), (5, .int what), (6, .int 0)]) rfl ?_
          exact L_53 _  0 (-1) (-1) 0 (by first | assumption | omega | simp_all) (by first | assumption | omega | simp_all) rfl (Nat.lt_succ_self _)
        · skip
          refine J_ldc (pc := 40) X g285 dX9_setOut_40 ?_
          refine J_iret (pc := 42) X hr (sa, sb, sn) dX9_setOut_42 ?_ rfl
          rw [spSetOut, if_pos htwo, ca, cb]
          first | exact (if_neg (fun z => absurd z.1 (by assumption))).symm | exact (if_neg (fun z => absurd z.2.1 (by assumption))).symm | exact (if_neg (fun z => absurd z.2.2 (by assumption))).symm
  · skip
    refine J_ldc (pc := 9) X g473 dX9_setOut_9 ?_
    refine J_iret (pc := 11) X hr (sa, sb, sn) dX9_setOut_11 ?_ rfl
    exact (if_neg (by assumption)).symm
set_option maxRecDepth 100000 in
set_option maxHeartbeats 600000 in
theorem kX9_comes (l : Launch) (G : va_G) (cI cC cZ : ClassId) (qx : Nat) (q : Nat) (qq : Nat) (qr : Nat) (qs : Nat) (qt : Nat) (qpa : Nat) (qi : Nat) (ql : Nat) (qb : Nat) (qg : Nat) (qw : Nat) (qn : Nat) (qd : Nat) (qh : Nat) (qp : Nat) (P : Nat) (gr : Int32) (wd : Nat) (g : Nat) (wk : Nat) (fr : Int32) (dyr : Nat → Int32) (par_ : Nat → Int32) (qsc : Nat) (c : Nat → Int32) (qtc : Nat) (c9 : Nat → Int32) (hs : Nat) (nw : Nat → Int32) (dy : Nat → Int32) (pa : Nat → Int32) (w : Int32) (h : Int32) (hPl : P ≤ 60) (hg : g ≤ 8) (hwk : wk ≤ 4) (hwd : wd ≤ 50) (hP0 : 0 < g → 0 < P) (hhs : (g = 0 ∧ hs = 0) ∨ (0 < g ∧ hs = g + 1)) (hdy : ∀ k, k < g → dyr k = dy k) (hpa : ∀ k, k < wk → par_ k = pa k) (hsc : scR c nw wk) (hok : okS g wk nw) : CI l G (tys3 cI cC cZ) yX9_comes cX9_comes 4 (some .int) ({ frames := 5, cells := 0, slots := 0, locals := 115 }) [.ref qx, .int w, .int h] [(qx, .inr (9, [.ref q, .ref qq, .ref qr, .ref qs, .ref qt, .ref qpa, .ref qi, .ref ql, .ref qb, .ref qg, .ref qw, .ref qn])), (q, .inr (5, [.int (nI P), .int gr, .int (nI wd), .int (nI g), .int (nI wk), .int fr, .ref qd, .ref qh, .ref qp])), (qd, .inl (cI, 8, .inl dyr)), (qp, .inl (cI, 4, .inl par_)), (qs, .inr (7, [.ref qsc])), (qsc, .inl (cI, 18, .inl c)), (qt, .inr (7, [.ref qtc])), (qtc, .inl (cI, 18, .inl c9))] (S := (Nat → Int32)) (fun (r : Int32) (u : (Nat → Int32)) => r = spComes g wk hs (fun k9 t9 => yG P (dy k9) gr t9) pa nw w h) (fun (u : (Nat → Int32)) => [(qx, .inr (9, [.ref q, .ref qq, .ref qr, .ref qs, .ref qt, .ref qpa, .ref qi, .ref ql, .ref qb, .ref qg, .ref qw, .ref qn])), (q, .inr (5, [.int (nI P), .int gr, .int (nI wd), .int (nI g), .int (nI wk), .int fr, .ref qd, .ref qh, .ref qp])), (qd, .inl (cI, 8, .inl dyr)), (qp, .inl (cI, 4, .inl par_)), (qs, .inr (7, [.ref qsc])), (qsc, .inl (cI, 18, .inl c)), (qt, .inr (7, [.ref qtc])), (qtc, .inl (cI, 18, .inl u))]) := by
  refine CI.intro (by decide) (Nat.le_of_ble_eq_true rfl) ?_
  intro p0 e0 s0 m0 ar0 be0 me0 c0 A0 X hr
  refine J_aload_n (pc := 0) X 0 dX9_comes_0 rfl ?_
  refine J_get (pc := 1) X clX9 0 0 rfl (by decide) g241 rfl dX9_comes_1 ?_
  refine J_iload_n (pc := 4) X 1 dX9_comes_4 rfl ?_
  refine J_callR (pc := 5) (As := [.int w]) (rest := []) X mtX5_hasWalker g511 [1] 0 (kX5_hasWalker l G cI cC cZ q qd qh qp P gr wd g wk fr w (by first | assumption | omega) (by first | assumption | omega) (by first | assumption | omega) (by first | assumption | omega)) ⟨Nat.le_of_ble_eq_true rfl, Nat.le_of_ble_eq_true rfl⟩ rfl rfl rfl (by decide) rfl rfl rfl rfl rfl (Nat.le_of_ble_eq_true rfl) (Nat.zero_le _) (Nat.zero_le _) dX9_comes_5 (fun r_1 u_2 w_3 => ?_)
  try dsimp only at w_3
  subst w_3
  refine J_bif_eq (pc := 8) X 22 dX9_comes_8 (by decide) (fun c_4 => ?_) (fun c_4 => ?_)
  · skip
    refine J_ldc (pc := 22) X g473 dX9_comes_22 ?_
    refine J_iret (pc := 24) X hr c9 dX9_comes_24 ?_ rfl
    exact (if_neg (fun z => absurd z.1 (by assumption))).symm
  · skip
    obtain ⟨wn, hwn, rfl⟩ := inB_ex (by omega) c_4
    refine J_aload_n (pc := 11) X 0 dX9_comes_11 rfl ?_
    refine J_get (pc := 12) X clX9 0 0 rfl (by decide) g241 rfl dX9_comes_12 ?_
    refine J_iload_n (pc := 15) X 2 dX9_comes_15 rfl ?_
    refine J_callR (pc := 16) (As := [.int h]) (rest := []) X mtX5_hasHouse g672 [1] 0 (kX5_hasHouse l G cI cC cZ q qd qh qp P gr wd g wk fr h hs (by first | assumption | omega) (by first | assumption | omega) (by first | assumption | omega) (by first | assumption | omega) (by first | assumption | omega)) ⟨Nat.le_of_ble_eq_true rfl, Nat.le_of_ble_eq_true rfl⟩ rfl rfl rfl (by decide) rfl rfl rfl rfl rfl (Nat.le_of_ble_eq_true rfl) (Nat.zero_le _) (Nat.zero_le _) dX9_comes_16 (fun r_5 u_6 w_7 => ?_)
    try dsimp only at w_7
    subst w_7
    refine J_bif_ne (pc := 19) X 25 dX9_comes_19 (by decide) (fun c_8 => ?_) (fun c_8 => ?_)
    · skip
      obtain ⟨hn, hhn, rfl⟩ := inB_ex (by omega) c_8
      refine J_aload_n (pc := 25) X 0 dX9_comes_25 rfl ?_
      refine J_get (pc := 26) X clX9 0 4 rfl (by decide) g245 rfl dX9_comes_26 ?_
      refine J_aload_n (pc := 29) X 0 dX9_comes_29 rfl ?_
      refine J_get (pc := 30) X clX9 0 3 rfl (by decide) g244 rfl dX9_comes_30 ?_
      refine J_callV (pc := 33) (As := [.ref qs]) (rest := []) X mtX7_copyFrom g712 [6, 7, 4, 5] [0, 1, 2, 3] [0, 1, 2, 3, 6, 7, 4, 5] 0 (fun u => [(qx, .inr (9, [.ref q, .ref qq, .ref qr, .ref qs, .ref qt, .ref qpa, .ref qi, .ref ql, .ref qb, .ref qg, .ref qw, .ref qn])), (q, .inr (5, [.int (nI P), .int gr, .int (nI wd), .int (nI g), .int (nI wk), .int fr, .ref qd, .ref qh, .ref qp])), (qd, .inl (cI, 8, .inl dyr)), (qp, .inl (cI, 4, .inl par_)), (qs, .inr (7, [.ref qsc])), (qsc, .inl (cI, 18, .inl c)), (qt, .inr (7, [.ref qtc])), (qtc, .inl (cI, 18, .inl (va_cpy c c9 0 0 18)))]) (kX7_copyFrom l G cI cC cZ qt qtc c9 qs qsc c ) ⟨Nat.le_of_ble_eq_true rfl, Nat.le_of_ble_eq_true rfl⟩ rfl rfl rfl (by decide) (wr := [(qx, .inr (9, [.ref q, .ref qq, .ref qr, .ref qs, .ref qt, .ref qpa, .ref qi, .ref ql, .ref qb, .ref qg, .ref qw, .ref qn])), (q, .inr (5, [.int (nI P), .int gr, .int (nI wd), .int (nI g), .int (nI wk), .int fr, .ref qd, .ref qh, .ref qp])), (qd, .inl (cI, 8, .inl dyr)), (qp, .inl (cI, 4, .inl par_))]) rfl (by decide) (by decide) (fun _ => rfl) (by decide) rfl rfl rfl rfl rfl (Nat.le_of_ble_eq_true rfl) (Nat.zero_le _) (Nat.zero_le _) dX9_comes_33 (fun u_10 w_11 => ?_)
      try dsimp only at w_11
      refine J_iconst (pc := 36) X 0 dX9_comes_36 (by decide) ?_
      refine J_istore_n (pc := 37) X [(3, .int 0), (0, .ref qx), (1, .int (nI wn)), (2, .int (nI hn))] dX9_comes_37 (by decide) rfl ?_
      have L_38 : ∀ (n_38 : Nat) (n : Nat) (cc_ : Nat → Int32) (nwc : Nat → Int32) (hn9 : n ≤ 301) (hsc9 : scR cc_ nwc wk) (hoc9 : okS g wk nwc) (hnw : nwc = itr (pm g (fun k9 t9 => yG P (dy k9) gr t9) pa wk) n nw) (hf : fstN (coQ g (fun k9 t9 => yG P (dy k9) gr t9) pa nw wn hn) (301 - n) n = fstN (coQ g (fun k9 t9 => yG P (dy k9) gr t9) pa nw wn hn) 301 0), (301 - n) < n_38 → JJ p0 l e0 ({ frames := 5, cells := 0, slots := 0, locals := 115 }) s0 m0 ar0 be0 me0 c0 A0 G 4 0 0 (QI be0 ar0 s0 A0 G (tys3 cI cC cZ) (S := (Nat → Int32)) (fun (r : Int32) (u : (Nat → Int32)) => r = spComes g wk hs (fun k9 t9 => yG P (dy k9) gr t9) pa nw (nI wn) (nI hn)) (fun (u : (Nat → Int32)) => [(qx, .inr (9, [.ref q, .ref qq, .ref qr, .ref qs, .ref qt, .ref qpa, .ref qi, .ref ql, .ref qb, .ref qg, .ref qw, .ref qn])), (q, .inr (5, [.int (nI P), .int gr, .int (nI wd), .int (nI g), .int (nI wk), .int fr, .ref qd, .ref qh, .ref qp])), (qd, .inl (cI, 8, .inl dyr)), (qp, .inl (cI, 4, .inl par_)), (qs, .inr (7, [.ref qsc])), (qsc, .inl (cI, 18, .inl c)), (qt, .inr (7, [.ref qtc])), (qtc, .inl (cI, 18, .inl u))])) [(qx, .inr (9, [.ref q, .ref qq, .ref qr, .ref qs, .ref qt, .ref qpa, .ref qi, .ref ql, .ref qb, .ref qg, .ref qw, .ref qn])), (q, .inr (5, [.int (nI P), .int gr, .int (nI wd), .int (nI g), .int (nI wk), .int fr, .ref qd, .ref qh, .ref qp])), (qd, .inl (cI, 8, .inl dyr)), (qp, .inl (cI, 4, .inl par_)), (qs, .inr (7, [.ref qsc])), (qsc, .inl (cI, 18, .inl c)), (qt, .inr (7, [.ref qtc])), (qtc, .inl (cI, 18, .inl cc_))] 38 [(0, .ref qx), (1, .int (nI wn)), (2, .int (nI hn)), (3, .int (nI n))] [] := by
        intro n_38
        induction n_38 with
        | zero => intro n cc_ nwc hn9 hsc9 hoc9 hnw hf hm_38; exact absurd hm_38 (Nat.not_lt_zero _)
        | succ n_38 ih_38 =>
          intro n cc_ nwc hn9 hsc9 hoc9 hnw hf hm_38
          refine J_iload_n (pc := 38) X 3 dX9_comes_38 rfl ?_
          refine J_sipush (pc := 39) X 300 dX9_comes_39 (by decide) ?_
          refine J_icmp_gt (pc := 42) X 76 dX9_comes_42 (by decide) (fun c_12 => ?_) (fun c_12 => ?_)
          · have c_12 : 300 < n := n_lt_of (a := 300) (b := n) (by omega) (by omega) c_12
            refine J_iconst (pc := 76) X (-1) dX9_comes_76 (by decide) ?_
            refine J_iret (pc := 77) X hr cc_ dX9_comes_77 ?_ rfl
            rw [spComes, if_pos ⟨(inB_nI (by omega)).mpr hwn, (inB_nI (by omega)).mpr hhn⟩, nI_clamp (n := wn) (by omega), nI_clamp (n := hn) (by omega)]
            exact fst_out hf (by omega)
          · have c_12 : n ≤ 300 := n_nlt_of (a := 300) (b := n) (by omega) (by omega) c_12
            refine J_aload_n (pc := 45) X 0 dX9_comes_45 rfl ?_
            refine J_get (pc := 46) X clX9 0 4 rfl (by decide) g245 rfl dX9_comes_46 ?_
            refine J_iload_n (pc := 49) X 1 dX9_comes_49 rfl ?_
            refine J_callR (pc := 50) (As := [.int (nI wn)]) (rest := []) X mtX7_houseOf g515 [6, 7] 0 (kX7_houseOf l G cI cC cZ qt qtc cc_ wn (by first | assumption | omega)) ⟨Nat.le_of_ble_eq_true rfl, Nat.le_of_ble_eq_true rfl⟩ rfl rfl rfl (by decide) rfl rfl rfl rfl rfl (Nat.le_of_ble_eq_true rfl) (Nat.zero_le _) (Nat.zero_le _) dX9_comes_50 (fun r_13 u_14 w_15 => ?_)
            try dsimp only at w_15
            subst w_15
            refine J_iload_n (pc := 53) X 2 dX9_comes_53 rfl ?_
            refine J_icmp_ne (pc := 54) X 59 dX9_comes_54 (by decide) (fun c_16 => ?_) (fun c_16 => ?_)
            · skip
              refine J_aload_n (pc := 59) X 0 dX9_comes_59 rfl ?_
              refine J_get (pc := 60) X clX9 0 4 rfl (by decide) g245 rfl dX9_comes_60 ?_
              refine J_aload_n (pc := 63) X 0 dX9_comes_63 rfl ?_
              refine J_get (pc := 64) X clX9 0 0 rfl (by decide) g241 rfl dX9_comes_64 ?_
              refine J_callV (pc := 67) (As := [.ref q]) (rest := []) X mtX7_passMinute g603 [6, 7, 1, 2, 3] [0, 4, 5] [0, 5, 6, 7, 1, 2, 3, 4] 0 (fun u => [(qx, .inr (9, [.ref q, .ref qq, .ref qr, .ref qs, .ref qt, .ref qpa, .ref qi, .ref ql, .ref qb, .ref qg, .ref qw, .ref qn])), (q, .inr (5, [.int (nI P), .int gr, .int (nI wd), .int (nI g), .int (nI wk), .int fr, .ref qd, .ref qh, .ref qp])), (qd, .inl (cI, 8, .inl dyr)), (qp, .inl (cI, 4, .inl par_)), (qs, .inr (7, [.ref qsc])), (qsc, .inl (cI, 18, .inl c)), (qt, .inr (7, [.ref qtc])), (qtc, .inl (cI, 18, .inl u))]) (kX7_passMinute l G cI cC cZ qt qtc cc_ q qd qh qp P gr wd g wk fr dyr par_ nwc dy pa (by first | assumption | omega) (by first | assumption | omega) (by first | assumption | omega) (by first | assumption | omega) (by first | assumption | omega) (by first | assumption | omega) (by first | assumption | omega) hsc9 hoc9) ⟨Nat.le_of_ble_eq_true rfl, Nat.le_of_ble_eq_true rfl⟩ rfl rfl rfl (by decide) (wr := [(qx, .inr (9, [.ref q, .ref qq, .ref qr, .ref qs, .ref qt, .ref qpa, .ref qi, .ref ql, .ref qb, .ref qg, .ref qw, .ref qn])), (qs, .inr (7, [.ref qsc])), (qsc, .inl (cI, 18, .inl c))]) rfl (by decide) (by decide) (fun _ => rfl) (by decide) rfl rfl rfl rfl rfl (Nat.le_of_ble_eq_true rfl) (Nat.zero_le _) (Nat.zero_le _) dX9_comes_67 (fun u_18 w_19 => ?_)
              obtain ⟨cA, rfl⟩ : ∃ z, z = u_18 := ⟨_, rfl⟩
              try dsimp only at w_19
              have hpm := w_19
              refine J_iinc (pc := 70) X (nI (n + 1)) 3 [(3, .int (nI (n + 1))), (0, .ref qx), (1, .int (nI wn)), (2, .int (nI hn))] dX9_comes_70 rfl (n_add (x := n) (y := 1) rfl rfl (by omega)) (by decide) rfl ?_
              refine J_goto (pc := 73) X 38 dX9_comes_73 (by decide) ?_
              refine J_loc [1, 2, 3, 0] (lv2 := [(0, .ref qx), (1, .int (nI wn)), (2, .int (nI hn)), (3, .int (nI (n + 1)))]) rfl ?_
              exact ih_38  (n + 1) cA (pm g (fun k9 t9 => yG P (dy k9) gr t9) pa wk nwc) (by first | assumption | omega | simp_all) hpm.1 hpm.2 (by rw [hnw]; rfl) (fst_on hf (by omega) (fun z9 => absurd ((co_iff hg hok hnw hsc9 hwn (by omega)).mp z9) (by assumption))) (by omega)
            · skip
              refine J_iload_n (pc := 57) X 3 dX9_comes_57 rfl ?_
              refine J_iret (pc := 58) X hr cc_ dX9_comes_58 ?_ rfl
              rw [spComes, if_pos ⟨(inB_nI (by omega)).mpr hwn, (inB_nI (by omega)).mpr hhn⟩, nI_clamp (n := wn) (by omega), nI_clamp (n := hn) (by omega)]
              exact fst_in hf (by omega) ((co_iff hg hok hnw hsc9 hwn (by omega)).mpr (by assumption))
      refine J_loc [1, 2, 3, 0] (lv2 := [(0, .ref qx), (1, .int (nI wn)), (2, .int (nI hn)), (3, .int 0)]) rfl ?_
      exact L_38 _  0 (va_cpy c c9 0 0 18) nw (by first | assumption | omega | simp_all) (scR_cpy hwk hsc) hok rfl rfl (Nat.lt_succ_self _)
    · skip
      refine J_ldc (pc := 22) X g473 dX9_comes_22 ?_
      refine J_iret (pc := 24) X hr c9 dX9_comes_24 ?_ rfl
      exact (if_neg (fun z => absurd z.2 (by assumption))).symm
set_option maxRecDepth 100000 in
set_option maxHeartbeats 600000 in
theorem kX9_sideInTrial (l : Launch) (G : va_G) (cI cC cZ : ClassId) (qx : Nat) (q : Nat) (qq : Nat) (qr : Nat) (qs : Nat) (qt : Nat) (qpa : Nat) (qi : Nat) (ql : Nat) (qb : Nat) (qg : Nat) (qw : Nat) (qn : Nat) (qd : Nat) (qh : Nat) (qp : Nat) (P : Nat) (gr : Int32) (wd : Nat) (g : Nat) (wk : Nat) (fr : Int32) (dyr : Nat → Int32) (qtc : Nat) (c9 : Nat → Int32) (nwt : Nat → Int32) (dy : Nat → Int32) (an : Nat) (bn : Nat) (hPl : P ≤ 60) (hg : g ≤ 8) (hwk : wk ≤ 4) (hwd : wd ≤ 50) (hP0 : 0 < g → 0 < P) (hdy : ∀ k, k < g → dyr k = dy k) (hsc : scR c9 nwt wk) (hok : okS g wk nwt) (han : an < wk) (hbn : bn < wk) : CI l G (tys3 cI cC cZ) yX9_sideInTrial cX9_sideInTrial 3 (some .int) ({ frames := 5, cells := 0, slots := 0, locals := 117 }) [.ref qx, .int (nI an), .int (nI bn)] [(qx, .inr (9, [.ref q, .ref qq, .ref qr, .ref qs, .ref qt, .ref qpa, .ref qi, .ref ql, .ref qb, .ref qg, .ref qw, .ref qn])), (q, .inr (5, [.int (nI P), .int gr, .int (nI wd), .int (nI g), .int (nI wk), .int fr, .ref qd, .ref qh, .ref qp])), (qd, .inl (cI, 8, .inl dyr)), (qt, .inr (7, [.ref qtc])), (qtc, .inl (cI, 18, .inl c9))] (S := Unit) (fun (r : Int32) (u : Unit) => r = cmp3 (whN (fun k9 t9 => yG P (dy k9) gr t9) nwt an) (whN (fun k9 t9 => yG P (dy k9) gr t9) nwt bn)) (fun _ => [(qx, .inr (9, [.ref q, .ref qq, .ref qr, .ref qs, .ref qt, .ref qpa, .ref qi, .ref ql, .ref qb, .ref qg, .ref qw, .ref qn])), (q, .inr (5, [.int (nI P), .int gr, .int (nI wd), .int (nI g), .int (nI wk), .int fr, .ref qd, .ref qh, .ref qp])), (qd, .inl (cI, 8, .inl dyr)), (qt, .inr (7, [.ref qtc])), (qtc, .inl (cI, 18, .inl c9))]) := by
  refine CI.intro (by decide) (Nat.le_of_ble_eq_true rfl) ?_
  intro p0 e0 s0 m0 ar0 be0 me0 c0 A0 X hr
  obtain ⟨ps1, hps1, hpk1⟩ := hok an han
  have hpl1 := posOk_lt hg hpk1
  obtain ⟨ps2, hps2, hpk2⟩ := hok bn hbn
  have hpl2 := posOk_lt hg hpk2
  refine J_aload_n (pc := 0) X 0 dX9_sideInTrial_0 rfl ?_
  refine J_get (pc := 1) X clX9 0 4 rfl (by decide) g245 rfl dX9_sideInTrial_1 ?_
  refine J_aload_n (pc := 4) X 0 dX9_sideInTrial_4 rfl ?_
  refine J_get (pc := 5) X clX9 0 0 rfl (by decide) g241 rfl dX9_sideInTrial_5 ?_
  refine J_iload_n (pc := 8) X 1 dX9_sideInTrial_8 rfl ?_
  refine J_callR (pc := 9) (As := [.ref q, .int (nI an)]) (rest := []) X mtX7_placeOf g539 [3, 4, 1, 2] 0 (kX7_placeOf l G cI cC cZ qt qtc c9 q qd qh qp P gr wd g wk fr dyr an ps1 nwt dy (by first | assumption | omega) (by first | assumption | omega) (by first | assumption | omega) (by first | assumption | omega) (by first | assumption | omega) (by first | assumption | omega) (by first | assumption | omega) hsc hps1 hpk1) ⟨Nat.le_of_ble_eq_true rfl, Nat.le_of_ble_eq_true rfl⟩ rfl rfl rfl (by decide) rfl rfl rfl rfl rfl (Nat.le_of_ble_eq_true rfl) (Nat.zero_le _) (Nat.zero_le _) dX9_sideInTrial_9 (fun r_1 u_2 w_3 => ?_)
  try dsimp only at w_3
  subst w_3
  refine J_aload_n (pc := 12) X 0 dX9_sideInTrial_12 rfl ?_
  refine J_get (pc := 13) X clX9 0 4 rfl (by decide) g245 rfl dX9_sideInTrial_13 ?_
  refine J_aload_n (pc := 16) X 0 dX9_sideInTrial_16 rfl ?_
  refine J_get (pc := 17) X clX9 0 0 rfl (by decide) g241 rfl dX9_sideInTrial_17 ?_
  refine J_iload_n (pc := 20) X 2 dX9_sideInTrial_20 rfl ?_
  refine J_callR (pc := 21) (As := [.ref q, .int (nI bn)]) (rest := [.int (whP (fun k9 => yG P (dy k9) gr (nwt 0)) ps1 (nwt (3 * an + 3)) (nwt (3 * an + 4)))]) X mtX7_placeOf g539 [3, 4, 1, 2] 0 (kX7_placeOf l G cI cC cZ qt qtc c9 q qd qh qp P gr wd g wk fr dyr bn ps2 nwt dy (by first | assumption | omega) (by first | assumption | omega) (by first | assumption | omega) (by first | assumption | omega) (by first | assumption | omega) (by first | assumption | omega) (by first | assumption | omega) hsc hps2 hpk2) ⟨Nat.le_of_ble_eq_true rfl, Nat.le_of_ble_eq_true rfl⟩ rfl rfl rfl (by decide) rfl rfl rfl rfl rfl (Nat.le_of_ble_eq_true rfl) (Nat.zero_le _) (Nat.zero_le _) dX9_sideInTrial_21 (fun r_4 u_5 w_6 => ?_)
  try dsimp only at w_6
  subst w_6
  refine J_callS (pc := 24) (As := [.int (whP (fun k9 => yG P (dy k9) gr (nwt 0)) ps1 (nwt (3 * an + 3)) (nwt (3 * an + 4))), .int (whP (fun k9 => yG P (dy k9) gr (nwt 0)) ps2 (nwt (3 * bn + 3)) (nwt (3 * bn + 4)))]) (rest := []) X mtJ6_compare_7cf53 g724 [] (kJ6_compare_7cf53 l G cI cC cZ (whP (fun k9 => yG P (dy k9) gr (nwt 0)) ps1 (nwt (3 * an + 3)) (nwt (3 * an + 4))) (whP (fun k9 => yG P (dy k9) gr (nwt 0)) ps2 (nwt (3 * bn + 3)) (nwt (3 * bn + 4))) ) ⟨Nat.le_of_ble_eq_true rfl, Nat.le_of_ble_eq_true rfl⟩ rfl rfl rfl (by decide) rfl rfl (Nat.le_of_ble_eq_true rfl) (Nat.zero_le _) (Nat.zero_le _) dX9_sideInTrial_24 (fun r_7 u_8 w_9 => ?_)
  try dsimp only at w_9
  subst w_9
  refine J_iret (pc := 27) X hr () dX9_sideInTrial_27 ?_ rfl
  rw [whN, whN, posF_of hps1 hpl1, posF_of hps2 hpl2]
set_option maxRecDepth 100000 in
set_option maxHeartbeats 600000 in
theorem kX9_meets (l : Launch) (G : va_G) (cI cC cZ : ClassId) (qx : Nat) (q : Nat) (qq : Nat) (qr : Nat) (qs : Nat) (qt : Nat) (qpa : Nat) (qi : Nat) (ql : Nat) (qb : Nat) (qg : Nat) (qw : Nat) (qn : Nat) (qd : Nat) (qh : Nat) (qp : Nat) (P : Nat) (gr : Int32) (wd : Nat) (g : Nat) (wk : Nat) (fr : Int32) (dyr : Nat → Int32) (par_ : Nat → Int32) (qsc : Nat) (c : Nat → Int32) (qtc : Nat) (c9 : Nat → Int32) (nw : Nat → Int32) (dy : Nat → Int32) (pa : Nat → Int32) (w : Int32) (z : Int32) (hPl : P ≤ 60) (hg : g ≤ 8) (hwk : wk ≤ 4) (hwd : wd ≤ 50) (hP0 : 0 < g → 0 < P) (hdy : ∀ k, k < g → dyr k = dy k) (hpa : ∀ k, k < wk → par_ k = pa k) (hsc : scR c nw wk) (hok : okS g wk nw) : CI l G (tys3 cI cC cZ) yX9_meets cX9_meets 6 (some .int) ({ frames := 6, cells := 0, slots := 0, locals := 139 }) [.ref qx, .int w, .int z] [(qx, .inr (9, [.ref q, .ref qq, .ref qr, .ref qs, .ref qt, .ref qpa, .ref qi, .ref ql, .ref qb, .ref qg, .ref qw, .ref qn])), (q, .inr (5, [.int (nI P), .int gr, .int (nI wd), .int (nI g), .int (nI wk), .int fr, .ref qd, .ref qh, .ref qp])), (qd, .inl (cI, 8, .inl dyr)), (qp, .inl (cI, 4, .inl par_)), (qs, .inr (7, [.ref qsc])), (qsc, .inl (cI, 18, .inl c)), (qt, .inr (7, [.ref qtc])), (qtc, .inl (cI, 18, .inl c9))] (S := (Nat → Int32)) (fun (r : Int32) (u : (Nat → Int32)) => r = spMeets g wk (fun k9 t9 => yG P (dy k9) gr t9) pa nw w z) (fun (u : (Nat → Int32)) => [(qx, .inr (9, [.ref q, .ref qq, .ref qr, .ref qs, .ref qt, .ref qpa, .ref qi, .ref ql, .ref qb, .ref qg, .ref qw, .ref qn])), (q, .inr (5, [.int (nI P), .int gr, .int (nI wd), .int (nI g), .int (nI wk), .int fr, .ref qd, .ref qh, .ref qp])), (qd, .inl (cI, 8, .inl dyr)), (qp, .inl (cI, 4, .inl par_)), (qs, .inr (7, [.ref qsc])), (qsc, .inl (cI, 18, .inl c)), (qt, .inr (7, [.ref qtc])), (qtc, .inl (cI, 18, .inl u))]) := by
  refine CI.intro (by decide) (Nat.le_of_ble_eq_true rfl) ?_
  intro p0 e0 s0 m0 ar0 be0 me0 c0 A0 X hr
  refine J_aload_n (pc := 0) X 0 dX9_meets_0 rfl ?_
  refine J_iload_n (pc := 1) X 1 dX9_meets_1 rfl ?_
  refine J_iload_n (pc := 2) X 2 dX9_meets_2 rfl ?_
  refine J_callR (pc := 3) (As := [.int w, .int z]) (rest := []) X mtX9_areTwoWalkers g651 [0, 1] 0 (kX9_areTwoWalkers l G cI cC cZ qx q qq qr qs qt qpa qi ql qb qg qw qn qd qh qp P gr wd g wk fr w z (by first | assumption | omega) (by first | assumption | omega) (by first | assumption | omega) (by first | assumption | omega)) ⟨Nat.le_of_ble_eq_true rfl, Nat.le_of_ble_eq_true rfl⟩ rfl rfl rfl (by decide) rfl rfl rfl rfl rfl (Nat.le_of_ble_eq_true rfl) (Nat.zero_le _) (Nat.zero_le _) dX9_meets_3 (fun r_1 u_2 w_3 => ?_)
  try dsimp only at w_3
  subst w_3
  refine J_bif_ne (pc := 6) X 12 dX9_meets_6 (by decide) (fun c_4 => ?_) (fun c_4 => ?_)
  · skip
    have htwo := c_4
    obtain ⟨hta, htb, hnab⟩ := c_4
    obtain ⟨an, han, rfl⟩ := inB_ex (by omega) hta
    obtain ⟨bn, hbn, rfl⟩ := inB_ex (by omega) htb
    have hne : ¬ an = bn := fun e9 => hnab (congrArg nI e9)
    have ca := nI_clamp (n := an) (by omega)
    have cb := nI_clamp (n := bn) (by omega)
    refine J_aload_n (pc := 12) X 0 dX9_meets_12 rfl ?_
    refine J_get (pc := 13) X clX9 0 4 rfl (by decide) g245 rfl dX9_meets_13 ?_
    refine J_aload_n (pc := 16) X 0 dX9_meets_16 rfl ?_
    refine J_get (pc := 17) X clX9 0 3 rfl (by decide) g244 rfl dX9_meets_17 ?_
    refine J_callV (pc := 20) (As := [.ref qs]) (rest := []) X mtX7_copyFrom g712 [6, 7, 4, 5] [0, 1, 2, 3] [0, 1, 2, 3, 6, 7, 4, 5] 0 (fun u => [(qx, .inr (9, [.ref q, .ref qq, .ref qr, .ref qs, .ref qt, .ref qpa, .ref qi, .ref ql, .ref qb, .ref qg, .ref qw, .ref qn])), (q, .inr (5, [.int (nI P), .int gr, .int (nI wd), .int (nI g), .int (nI wk), .int fr, .ref qd, .ref qh, .ref qp])), (qd, .inl (cI, 8, .inl dyr)), (qp, .inl (cI, 4, .inl par_)), (qs, .inr (7, [.ref qsc])), (qsc, .inl (cI, 18, .inl c)), (qt, .inr (7, [.ref qtc])), (qtc, .inl (cI, 18, .inl (va_cpy c c9 0 0 18)))]) (kX7_copyFrom l G cI cC cZ qt qtc c9 qs qsc c ) ⟨Nat.le_of_ble_eq_true rfl, Nat.le_of_ble_eq_true rfl⟩ rfl rfl rfl (by decide) (wr := [(qx, .inr (9, [.ref q, .ref qq, .ref qr, .ref qs, .ref qt, .ref qpa, .ref qi, .ref ql, .ref qb, .ref qg, .ref qw, .ref qn])), (q, .inr (5, [.int (nI P), .int gr, .int (nI wd), .int (nI g), .int (nI wk), .int fr, .ref qd, .ref qh, .ref qp])), (qd, .inl (cI, 8, .inl dyr)), (qp, .inl (cI, 4, .inl par_))]) rfl (by decide) (by decide) (fun _ => rfl) (by decide) rfl rfl rfl rfl rfl (Nat.le_of_ble_eq_true rfl) (Nat.zero_le _) (Nat.zero_le _) dX9_meets_20 (fun u_6 w_7 => ?_)
    try dsimp only at w_7
    have hct := scR_cpy (c9 := c9) hwk hsc
    refine J_aload_n (pc := 23) X 0 dX9_meets_23 rfl ?_
    refine J_iload_n (pc := 24) X 1 dX9_meets_24 rfl ?_
    refine J_iload_n (pc := 25) X 2 dX9_meets_25 rfl ?_
    refine J_callR (pc := 26) (As := [.int (nI an), .int (nI bn)]) (rest := []) X mtX9_sideInTrial g720 [0, 1, 2, 6, 7] 0 (kX9_sideInTrial l G cI cC cZ qx q qq qr qs qt qpa qi ql qb qg qw qn qd qh qp P gr wd g wk fr dyr qtc (va_cpy c c9 0 0 18) nw dy an bn (by first | assumption | omega) (by first | assumption | omega) (by first | assumption | omega) (by first | assumption | omega) (by first | assumption | omega) (by first | assumption | omega) hct hok (by first | assumption | omega) (by first | assumption | omega)) ⟨Nat.le_of_ble_eq_true rfl, Nat.le_of_ble_eq_true rfl⟩ rfl rfl rfl (by decide) rfl rfl rfl rfl rfl (Nat.le_of_ble_eq_true rfl) (Nat.zero_le _) (Nat.zero_le _) dX9_meets_26 (fun r_8 u_9 w_10 => ?_)
    try dsimp only at w_10
    subst w_10
    refine J_top (y := cmp3 ((cW g (fun k9 t9 => yG P (dy k9) gr t9) pa nw an) 0) ((cW g (fun k9 t9 => yG P (dy k9) gr t9) pa nw bn) 0)) (by rw [cW_eq hg hok (show nw = itr (pm g (fun k9 t9 => yG P (dy k9) gr t9) pa wk) 0 nw from rfl) han, cW_eq hg hok (show nw = itr (pm g (fun k9 t9 => yG P (dy k9) gr t9) pa wk) 0 nw from rfl) hbn]) ?_
    refine J_istore_n (pc := 29) X [(3, .int (cmp3 ((cW g (fun k9 t9 => yG P (dy k9) gr t9) pa nw an) 0) ((cW g (fun k9 t9 => yG P (dy k9) gr t9) pa nw bn) 0))), (0, .ref qx), (1, .int (nI an)), (2, .int (nI bn))] dX9_meets_29 (by decide) rfl ?_
    refine J_iconst (pc := 30) X 0 dX9_meets_30 (by decide) ?_
    refine J_istore (pc := 31) X [(4, .int 0), (3, .int (cmp3 ((cW g (fun k9 t9 => yG P (dy k9) gr t9) pa nw an) 0) ((cW g (fun k9 t9 => yG P (dy k9) gr t9) pa nw bn) 0))), (0, .ref qx), (1, .int (nI an)), (2, .int (nI bn))] dX9_meets_31 (by decide) rfl ?_
    have L_33 : ∀ (n_33 : Nat) (n : Nat) (cc_ : Nat → Int32) (nwc : Nat → Int32) (hn9 : n ≤ 301) (hsc9 : scR cc_ nwc wk) (hoc9 : okS g wk nwc) (hnw : nwc = itr (pm g (fun k9 t9 => yG P (dy k9) gr t9) pa wk) n nw) (h00 : n = 0 ∨ ¬ (cW g (fun k9 t9 => yG P (dy k9) gr t9) pa nw an) 0 = (cW g (fun k9 t9 => yG P (dy k9) gr t9) pa nw bn) 0) (hf : fstN (meQ (cW g (fun k9 t9 => yG P (dy k9) gr t9) pa nw an) (cW g (fun k9 t9 => yG P (dy k9) gr t9) pa nw bn)) (301 - n) n = fstN (meQ (cW g (fun k9 t9 => yG P (dy k9) gr t9) pa nw an) (cW g (fun k9 t9 => yG P (dy k9) gr t9) pa nw bn)) 301 0), (301 - n) < n_33 → JJ p0 l e0 ({ frames := 6, cells := 0, slots := 0, locals := 139 }) s0 m0 ar0 be0 me0 c0 A0 G 6 0 0 (QI be0 ar0 s0 A0 G (tys3 cI cC cZ) (S := (Nat → Int32)) (fun (r : Int32) (u : (Nat → Int32)) => r = spMeets g wk (fun k9 t9 => yG P (dy k9) gr t9) pa nw (nI an) (nI bn)) (fun (u : (Nat → Int32)) => [(qx, .inr (9, [.ref q, .ref qq, .ref qr, .ref qs, .ref qt, .ref qpa, .ref qi, .ref ql, .ref qb, .ref qg, .ref qw, .ref qn])), (q, .inr (5, [.int (nI P), .int gr, .int (nI wd), .int (nI g), .int (nI wk), .int fr, .ref qd, .ref qh, .ref qp])), (qd, .inl (cI, 8, .inl dyr)), (qp, .inl (cI, 4, .inl par_)), (qs, .inr (7, [.ref qsc])), (qsc, .inl (cI, 18, .inl c)), (qt, .inr (7, [.ref qtc])), (qtc, .inl (cI, 18, .inl u))])) [(qx, .inr (9, [.ref q, .ref qq, .ref qr, .ref qs, .ref qt, .ref qpa, .ref qi, .ref ql, .ref qb, .ref qg, .ref qw, .ref qn])), (q, .inr (5, [.int (nI P), .int gr, .int (nI wd), .int (nI g), .int (nI wk), .int fr, .ref qd, .ref qh, .ref qp])), (qd, .inl (cI, 8, .inl dyr)), (qp, .inl (cI, 4, .inl par_)), (qs, .inr (7, [.ref qsc])), (qsc, .inl (cI, 18, .inl c)), (qt, .inr (7, [.ref qtc])), (qtc, .inl (cI, 18, .inl cc_))] 33 [(0, .ref qx), (1, .int (nI an)), (2, .int (nI bn)), (3, .int (cmp3 ((cW g (fun k9 t9 => yG P (dy k9) gr t9) pa nw an) 0) ((cW g (fun k9 t9 => yG P (dy k9) gr t9) pa nw bn) 0))), (4, .int (nI n))] [] := by
      intro n_33
      induction n_33 with
      | zero => intro n cc_ nwc hn9 hsc9 hoc9 hnw h00 hf hm_33; exact absurd hm_33 (Nat.not_lt_zero _)
      | succ n_33 ih_33 =>
        intro n cc_ nwc hn9 hsc9 hoc9 hnw h00 hf hm_33
        refine J_iload (pc := 33) X 4 dX9_meets_33 rfl ?_
        refine J_sipush (pc := 35) X 300 dX9_meets_35 (by decide) ?_
        refine J_icmp_gt (pc := 38) X 80 dX9_meets_38 (by decide) (fun c_11 => ?_) (fun c_11 => ?_)
        · have c_11 : 300 < n := n_lt_of (a := 300) (b := n) (by omega) (by omega) c_11
          refine J_iconst (pc := 80) X (-1) dX9_meets_80 (by decide) ?_
          refine J_iret (pc := 81) X hr cc_ dX9_meets_81 ?_ rfl
          rw [spMeets, if_pos htwo, ca, cb]
          exact fst_out hf (by omega)
        · have c_11 : n ≤ 300 := n_nlt_of (a := 300) (b := n) (by omega) (by omega) c_11
          refine J_aload_n (pc := 41) X 0 dX9_meets_41 rfl ?_
          refine J_iload_n (pc := 42) X 1 dX9_meets_42 rfl ?_
          refine J_iload_n (pc := 43) X 2 dX9_meets_43 rfl ?_
          refine J_callR (pc := 44) (As := [.int (nI an), .int (nI bn)]) (rest := []) X mtX9_sideInTrial g720 [0, 1, 2, 6, 7] 0 (kX9_sideInTrial l G cI cC cZ qx q qq qr qs qt qpa qi ql qb qg qw qn qd qh qp P gr wd g wk fr dyr qtc cc_ nwc dy an bn (by first | assumption | omega) (by first | assumption | omega) (by first | assumption | omega) (by first | assumption | omega) (by first | assumption | omega) (by first | assumption | omega) hsc9 hoc9 (by first | assumption | omega) (by first | assumption | omega)) ⟨Nat.le_of_ble_eq_true rfl, Nat.le_of_ble_eq_true rfl⟩ rfl rfl rfl (by decide) rfl rfl rfl rfl rfl (Nat.le_of_ble_eq_true rfl) (Nat.zero_le _) (Nat.zero_le _) dX9_meets_44 (fun r_12 u_13 w_14 => ?_)
          try dsimp only at w_14
          subst w_14
          refine J_top (y := cmp3 ((cW g (fun k9 t9 => yG P (dy k9) gr t9) pa nw an) n) ((cW g (fun k9 t9 => yG P (dy k9) gr t9) pa nw bn) n)) (by rw [cW_eq hg hok hnw han, cW_eq hg hok hnw hbn]) ?_
          refine J_istore (pc := 47) X [(5, .int (cmp3 ((cW g (fun k9 t9 => yG P (dy k9) gr t9) pa nw an) n) ((cW g (fun k9 t9 => yG P (dy k9) gr t9) pa nw bn) n))), (0, .ref qx), (1, .int (nI an)), (2, .int (nI bn)), (3, .int (cmp3 ((cW g (fun k9 t9 => yG P (dy k9) gr t9) pa nw an) 0) ((cW g (fun k9 t9 => yG P (dy k9) gr t9) pa nw bn) 0))), (4, .int (nI n))] dX9_meets_47 (by decide) rfl ?_
          refine J_iload (pc := 49) X 0 dX9_meets_49 rfl ?_
          refine J_if_eq (pc := 51) X 60 dX9_meets_51 (by decide) (fun c_15 => ?_) (fun c_15 => ?_)
          · skip
            refine J_iload (pc := 60) X 5 dX9_meets_60 rfl ?_
            refine J_iret (pc := 62) X hr cc_ dX9_meets_62 ?_ rfl
            rw [spMeets, if_pos htwo, ca, cb]
            exact fst_in hf (by omega) ((me_iff h00).mpr (by first | exact Or.inl (by assumption) | exact Or.inr (by assumption)))
          · skip
            refine J_iload (pc := 54) X 0 dX9_meets_54 rfl ?_
            refine J_iload_n (pc := 56) X 4 dX9_meets_56 rfl ?_
            refine J_icmp_eq (pc := 57) X 63 dX9_meets_57 (by decide) (fun c_16 => ?_) (fun c_16 => ?_)
            · skip
              refine J_aload_n (pc := 63) X 1 dX9_meets_63 rfl ?_
              refine J_get (pc := 64) X clX9 0 4 rfl (by decide) g245 rfl dX9_meets_64 ?_
              refine J_aload_n (pc := 67) X 1 dX9_meets_67 rfl ?_
              refine J_get (pc := 68) X clX9 0 0 rfl (by decide) g241 rfl dX9_meets_68 ?_
              refine J_callV (pc := 71) (As := [.ref q]) (rest := []) X mtX7_passMinute g603 [6, 7, 1, 2, 3] [0, 4, 5] [0, 5, 6, 7, 1, 2, 3, 4] 0 (fun u => [(qx, .inr (9, [.ref q, .ref qq, .ref qr, .ref qs, .ref qt, .ref qpa, .ref qi, .ref ql, .ref qb, .ref qg, .ref qw, .ref qn])), (q, .inr (5, [.int (nI P), .int gr, .int (nI wd), .int (nI g), .int (nI wk), .int fr, .ref qd, .ref qh, .ref qp])), (qd, .inl (cI, 8, .inl dyr)), (qp, .inl (cI, 4, .inl par_)), (qs, .inr (7, [.ref qsc])), (qsc, .inl (cI, 18, .inl c)), (qt, .inr (7, [.ref qtc])), (qtc, .inl (cI, 18, .inl u))]) (kX7_passMinute l G cI cC cZ qt qtc cc_ q qd qh qp P gr wd g wk fr dyr par_ nwc dy pa (by first | assumption | omega) (by first | assumption | omega) (by first | assumption | omega) (by first | assumption | omega) (by first | assumption | omega) (by first | assumption | omega) (by first | assumption | omega) hsc9 hoc9) ⟨Nat.le_of_ble_eq_true rfl, Nat.le_of_ble_eq_true rfl⟩ rfl rfl rfl (by decide) (wr := [(qx, .inr (9, [.ref q, .ref qq, .ref qr, .ref qs, .ref qt, .ref qpa, .ref qi, .ref ql, .ref qb, .ref qg, .ref qw, .ref qn])), (qs, .inr (7, [.ref qsc])), (qsc, .inl (cI, 18, .inl c))]) rfl (by decide) (by decide) (fun _ => rfl) (by decide) rfl rfl rfl rfl rfl (Nat.le_of_ble_eq_true rfl) (Nat.zero_le _) (Nat.zero_le _) dX9_meets_71 (fun u_18 w_19 => ?_)
              obtain ⟨cA, rfl⟩ : ∃ z, z = u_18 := ⟨_, rfl⟩
              try dsimp only at w_19
              have hpm := w_19
              refine J_iinc (pc := 74) X (nI (n + 1)) 5 [(4, .int (nI (n + 1))), (5, .int (cmp3 ((cW g (fun k9 t9 => yG P (dy k9) gr t9) pa nw an) n) ((cW g (fun k9 t9 => yG P (dy k9) gr t9) pa nw bn) n))), (0, .ref qx), (1, .int (nI an)), (2, .int (nI bn)), (3, .int (cmp3 ((cW g (fun k9 t9 => yG P (dy k9) gr t9) pa nw an) 0) ((cW g (fun k9 t9 => yG P (dy k9) gr t9) pa nw bn) 0)))] dX9_meets_74 rfl (n_add (x := n) (y := 1) rfl rfl (by omega)) (by decide) rfl ?_
              refine J_goto (pc := 77) X 33 dX9_meets_77 (by decide) ?_
              refine J_loc [2, 3, 4, 5, 0] (lv2 := [(0, .ref qx), (1, .int (nI an)), (2, .int (nI bn)), (3, .int (cmp3 ((cW g (fun k9 t9 => yG P (dy k9) gr t9) pa nw an) 0) ((cW g (fun k9 t9 => yG P (dy k9) gr t9) pa nw bn) 0))), (4, .int (nI (n + 1)))]) rfl ?_
              exact ih_33  (n + 1) cA (pm g (fun k9 t9 => yG P (dy k9) gr t9) pa wk nwc) (by first | assumption | omega | simp_all) hpm.1 hpm.2 (by rw [hnw]; rfl) (Or.inr (h00.elim (fun e9 => by subst e9; exact fun z9 => absurd (cmp3_0.mpr z9) (by assumption)) id)) (fst_on hf (by omega) (fun z9 => ((me_iff h00).mp z9).elim (fun q9 => absurd q9 (by assumption)) (fun q9 => absurd (by assumption) q9))) (by omega)
            · skip
              refine J_iload (pc := 60) X 5 dX9_meets_60 rfl ?_
              refine J_iret (pc := 62) X hr cc_ dX9_meets_62 ?_ rfl
              rw [spMeets, if_pos htwo, ca, cb]
              exact fst_in hf (by omega) ((me_iff h00).mpr (by first | exact Or.inl (by assumption) | exact Or.inr (by assumption)))
    refine J_loc [2, 3, 4, 1, 0] (lv2 := [(0, .ref qx), (1, .int (nI an)), (2, .int (nI bn)), (3, .int (cmp3 ((cW g (fun k9 t9 => yG P (dy k9) gr t9) pa nw an) 0) ((cW g (fun k9 t9 => yG P (dy k9) gr t9) pa nw bn) 0))), (4, .int 0)]) rfl ?_
    exact L_33 _  0 (va_cpy c c9 0 0 18) nw (by first | assumption | omega | simp_all) hct hok rfl (Or.inl rfl) rfl (Nat.lt_succ_self _)
  · skip
    refine J_ldc (pc := 9) X g473 dX9_meets_9 ?_
    refine J_iret (pc := 11) X hr c9 dX9_meets_11 ?_ rfl
    exact (if_neg (by assumption)).symm
