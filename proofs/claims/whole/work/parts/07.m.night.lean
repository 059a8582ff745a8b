set_option maxRecDepth 100000 in
set_option maxHeartbeats 600000 in
theorem kJ6_bitCount_0f7a4 (l : Launch) (G : va_G) (cI cC cZ : ClassId) (x : Int32) : CI l G (tys3 cI cC cZ) yJ6_bitCount_0f7a4 cJ6_bitCount_0f7a4 1 (some .int) ({ frames := 0, cells := 0, slots := 0, locals := 0 }) [.int x] [] (S := Unit) (fun (r : Int32) (u : Unit) => r = bitC x) (fun _ => []) := by
  refine CI.intro (by decide) (Nat.le_of_ble_eq_true rfl) ?_
  intro p0 e0 s0 m0 ar0 be0 me0 c0 A0 X hr
  refine J_iload_n (pc := 0) X 0 dJ6_bitCount_0f7a4_0 rfl ?_
  refine J_iload_n (pc := 1) X 0 dJ6_bitCount_0f7a4_1 rfl ?_
  refine J_iconst (pc := 2) X 1 dJ6_bitCount_0f7a4_2 (by decide) ?_
  refine J_iushr (pc := 3) X dJ6_bitCount_0f7a4_3 ?_
  refine J_ldcw (pc := 4) X g738 dJ6_bitCount_0f7a4_4 ?_
  refine J_iand (pc := 7) X dJ6_bitCount_0f7a4_7 ?_
  refine J_isub (pc := 8) X dJ6_bitCount_0f7a4_8 ?_
  refine J_top (y := bc1 x) rfl ?_
  refine J_istore_n (pc := 9) X [(0, .int (bc1 x))] dJ6_bitCount_0f7a4_9 (by decide) rfl ?_
  refine J_iload_n (pc := 10) X 0 dJ6_bitCount_0f7a4_10 rfl ?_
  refine J_ldcw (pc := 11) X g739 dJ6_bitCount_0f7a4_11 ?_
  refine J_iand (pc := 14) X dJ6_bitCount_0f7a4_14 ?_
  refine J_iload_n (pc := 15) X 0 dJ6_bitCount_0f7a4_15 rfl ?_
  refine J_iconst (pc := 16) X 2 dJ6_bitCount_0f7a4_16 (by decide) ?_
  refine J_iushr (pc := 17) X dJ6_bitCount_0f7a4_17 ?_
  refine J_ldcw (pc := 18) X g739 dJ6_bitCount_0f7a4_18 ?_
  refine J_iand (pc := 21) X dJ6_bitCount_0f7a4_21 ?_
  refine J_iadd (pc := 22) X dJ6_bitCount_0f7a4_22 ?_
  refine J_top (y := bc2 x) rfl ?_
  refine J_istore_n (pc := 23) X [(0, .int (bc2 x))] dJ6_bitCount_0f7a4_23 (by decide) rfl ?_
  refine J_iload_n (pc := 24) X 0 dJ6_bitCount_0f7a4_24 rfl ?_
  refine J_iload_n (pc := 25) X 0 dJ6_bitCount_0f7a4_25 rfl ?_
  refine J_iconst (pc := 26) X 4 dJ6_bitCount_0f7a4_26 (by decide) ?_
  refine J_iushr (pc := 27) X dJ6_bitCount_0f7a4_27 ?_
  refine J_iadd (pc := 28) X dJ6_bitCount_0f7a4_28 ?_
  refine J_ldcw (pc := 29) X g740 dJ6_bitCount_0f7a4_29 ?_
  refine J_iand (pc := 32) X dJ6_bitCount_0f7a4_32 ?_
  refine J_top (y := bc3 x) rfl ?_
  refine J_istore_n (pc := 33) X [(0, .int (bc3 x))] dJ6_bitCount_0f7a4_33 (by decide) rfl ?_
  refine J_iload_n (pc := 34) X 0 dJ6_bitCount_0f7a4_34 rfl ?_
  refine J_iload_n (pc := 35) X 0 dJ6_bitCount_0f7a4_35 rfl ?_
  refine J_bipush (pc := 36) X 8 dJ6_bitCount_0f7a4_36 (by decide) ?_
  refine J_iushr (pc := 38) X dJ6_bitCount_0f7a4_38 ?_
  refine J_iadd (pc := 39) X dJ6_bitCount_0f7a4_39 ?_
  refine J_top (y := bc4 x) rfl ?_
  refine J_istore_n (pc := 40) X [(0, .int (bc4 x))] dJ6_bitCount_0f7a4_40 (by decide) rfl ?_
  refine J_iload_n (pc := 41) X 0 dJ6_bitCount_0f7a4_41 rfl ?_
  refine J_iload_n (pc := 42) X 0 dJ6_bitCount_0f7a4_42 rfl ?_
  refine J_bipush (pc := 43) X 16 dJ6_bitCount_0f7a4_43 (by decide) ?_
  refine J_iushr (pc := 45) X dJ6_bitCount_0f7a4_45 ?_
  refine J_iadd (pc := 46) X dJ6_bitCount_0f7a4_46 ?_
  refine J_top (y := bc5 x) rfl ?_
  refine J_istore_n (pc := 47) X [(0, .int (bc5 x))] dJ6_bitCount_0f7a4_47 (by decide) rfl ?_
  refine J_iload_n (pc := 48) X 0 dJ6_bitCount_0f7a4_48 rfl ?_
  refine J_bipush (pc := 49) X 63 dJ6_bitCount_0f7a4_49 (by decide) ?_
  refine J_iand (pc := 51) X dJ6_bitCount_0f7a4_51 ?_
  refine J_top (y := bitC x) rfl ?_
  refine J_iret (pc := 52) X hr () dJ6_bitCount_0f7a4_52 ?_ rfl
  rfl
set_option maxRecDepth 100000 in
set_option maxHeartbeats 600000 in
theorem kX9_ropes (l : Launch) (G : va_G) (cI cC cZ : ClassId) (qx : Nat) (q : Nat) (qq : Nat) (qr : Nat) (qs : Nat) (qt : Nat) (qpa : Nat) (qi : Nat) (ql : Nat) (qb : Nat) (qg : Nat) (qw : Nat) (qn : Nat) (qd : Nat) (qh : Nat) (qp : Nat) (P : Nat) (gr : Int32) (wd : Nat) (g : Nat) (wk : Nat) (fr : Int32) (dyr : Nat → Int32) (qsc : Nat) (c : Nat → Int32) (hs : Nat) (nw : Nat → Int32) (dy : Nat → Int32) (a : Int32) (b : Int32) (v : Int32) (n : Int32) (hPl : P ≤ 60) (hg : g ≤ 8) (hwk : wk ≤ 4) (hwd : wd ≤ 50) (hP0 : 0 < g → 0 < P) (hhs : (g = 0 ∧ hs = 0) ∨ (0 < g ∧ hs = g + 1)) (hdy : ∀ k, k < g → dyr k = dy k) (hsc : scR c nw wk) : CI l G (tys3 cI cC cZ) yX9_ropes cX9_ropes 9 (some .int) ({ frames := 4, cells := 0, slots := 0, locals := 98 }) [.ref qx, .int a, .int b, .int v, .int n] [(qx, .inr (9, [.ref q, .ref qq, .ref qr, .ref qs, .ref qt, .ref qpa, .ref qi, .ref ql, .ref qb, .ref qg, .ref qw, .ref qn])), (q, .inr (5, [.int (nI P), .int gr, .int (nI wd), .int (nI g), .int (nI wk), .int fr, .ref qd, .ref qh, .ref qp])), (qd, .inl (cI, 8, .inl dyr)), (qs, .inr (7, [.ref qsc])), (qsc, .inl (cI, 18, .inl c))] (S := Unit) (fun (r : Int32) (u : Unit) => r = spRopes g hs (fun k9 t9 => yG P (dy k9) gr t9) (nw 1) (nw 0) a b v n) (fun _ => [(qx, .inr (9, [.ref q, .ref qq, .ref qr, .ref qs, .ref qt, .ref qpa, .ref qi, .ref ql, .ref qb, .ref qg, .ref qw, .ref qn])), (q, .inr (5, [.int (nI P), .int gr, .int (nI wd), .int (nI g), .int (nI wk), .int fr, .ref qd, .ref qh, .ref qp])), (qd, .inl (cI, 8, .inl dyr)), (qs, .inr (7, [.ref qsc])), (qsc, .inl (cI, 18, .inl c))]) := by
  refine CI.intro (by decide) (Nat.le_of_ble_eq_true rfl) ?_
  intro p0 e0 s0 m0 ar0 be0 me0 c0 A0 X hr
  refine J_aload_n (pc := 0) X 0 dX9_ropes_0 rfl ?_
  refine J_iload_n (pc := 1) X 1 dX9_ropes_1 rfl ?_
  refine J_iload_n (pc := 2) X 2 dX9_ropes_2 rfl ?_
  refine J_callR (pc := 3) (As := [.int a, .int b]) (rest := []) X mtX9_areTwoHouses g668 [0, 1] 0 (kX9_areTwoHouses l G cI cC cZ qx q qq qr qs qt qpa qi ql qb qg qw qn qd qh qp P gr wd g wk fr hs a b (by first | assumption | omega) (by first | assumption | omega) (by first | assumption | omega) (by first | assumption | omega) (by first | assumption | omega)) ⟨Nat.le_of_ble_eq_true rfl, Nat.le_of_ble_eq_true rfl⟩ rfl rfl rfl (by decide) rfl rfl rfl rfl rfl (Nat.le_of_ble_eq_true rfl) (Nat.zero_le _) (Nat.zero_le _) dX9_ropes_3 (fun r_1 u_2 w_3 => ?_)
  try dsimp only at w_3
  subst w_3
  refine J_bif_ne (pc := 6) X 12 dX9_ropes_6 (by decide) (fun c_4 => ?_) (fun c_4 => ?_)
  · skip
    have htwo := c_4
    obtain ⟨hta, htb, hnab⟩ := c_4
    obtain ⟨an, han, rfl⟩ := inB_ex (by omega) hta
    obtain ⟨bn, hbn, rfl⟩ := inB_ex (by omega) htb
    have hne : ¬ an = bn := fun e9 => hnab (congrArg nI e9)
    have ca := nI_clamp (n := an) (by omega)
    have cb := nI_clamp (n := bn) (by omega)
    refine J_iload_n (pc := 12) X 3 dX9_ropes_12 rfl ?_
    refine J_callS (pc := 13) (As := [.int v]) (rest := []) X mtX9_isPace g677 [] (kX9_isPace l G cI cC cZ v ) ⟨Nat.le_of_ble_eq_true rfl, Nat.le_of_ble_eq_true rfl⟩ rfl rfl rfl (by decide) rfl rfl (Nat.le_of_ble_eq_true rfl) (Nat.zero_le _) (Nat.zero_le _) dX9_ropes_13 (fun r_5 u_6 w_7 => ?_)
    try dsimp only at w_7
    subst w_7
    refine J_bif_eq (pc := 16) X 31 dX9_ropes_16 (by decide) (fun c_8 => ?_) (fun c_8 => ?_)
    · skip
      refine J_ldc (pc := 31) X g285 dX9_ropes_31 ?_
      refine J_iret (pc := 33) X hr () dX9_ropes_33 ?_ rfl
      rw [spRopes, if_pos htwo, ca, cb]
      first | exact (if_neg (fun z => absurd z.1 (by assumption))).symm | exact (if_neg (fun z => absurd z.2 (by assumption))).symm
    · skip
      refine J_iload (pc := 19) X 4 dX9_ropes_19 rfl ?_
      refine J_iconst (pc := 21) X 0 dX9_ropes_21 (by decide) ?_
      refine J_sipush (pc := 22) X 300 dX9_ropes_22 (by decide) ?_
      refine J_callS (pc := 25) (As := [.int n, .int 0, .int 300]) (rest := []) X mtX9_isWithin g282 [] (kX9_isWithin l G cI cC cZ n 0 300 ) ⟨Nat.le_of_ble_eq_true rfl, Nat.le_of_ble_eq_true rfl⟩ rfl rfl rfl (by decide) rfl rfl (Nat.le_of_ble_eq_true rfl) (Nat.zero_le _) (Nat.zero_le _) dX9_ropes_25 (fun r_9 u_10 w_11 => ?_)
      try dsimp only at w_11
      subst w_11
      refine J_bif_ne (pc := 28) X 34 dX9_ropes_28 (by decide) (fun c_12 => ?_) (fun c_12 => ?_)
      · skip
        have hwn9 := c_12
        obtain ⟨nn, hnn1, hnn2, rfl⟩ := wIn_ex 0 300 (by decide) (by decide) c_12
        obtain ⟨lo, hi, hlo⟩ : ∃ lo hi, (an ≤ bn ∧ lo = an ∧ hi = bn) ∨ (bn < an ∧ lo = bn ∧ hi = an) := by
          by_cases z9 : an ≤ bn
          · exact ⟨an, bn, Or.inl ⟨z9, rfl, rfl⟩⟩
          · exact ⟨bn, an, Or.inr ⟨by omega, rfl, rfl⟩⟩
        refine J_aload_n (pc := 34) X 0 dX9_ropes_34 rfl ?_
        refine J_get (pc := 35) X clX9 0 0 rfl (by decide) g241 rfl dX9_ropes_35 ?_
        refine J_iload_n (pc := 38) X 1 dX9_ropes_38 rfl ?_
        refine J_iload_n (pc := 39) X 2 dX9_ropes_39 rfl ?_
        refine J_callR (pc := 40) (As := [.int (nI an), .int (nI bn)]) (rest := []) X mtX5_gapsBetween g731 [1] 0 (kX5_gapsBetween l G cI cC cZ q qd qh qp P gr wd g wk fr an bn lo hi (by first | assumption | omega) (by first | assumption | omega) (by first | assumption | omega) (by first | assumption | omega) (by first | assumption | omega) (by first | assumption | omega) hlo) ⟨Nat.le_of_ble_eq_true rfl, Nat.le_of_ble_eq_true rfl⟩ rfl rfl rfl (by decide) rfl rfl rfl rfl rfl (Nat.le_of_ble_eq_true rfl) (Nat.zero_le _) (Nat.zero_le _) dX9_ropes_40 (fun r_13 u_14 w_15 => ?_)
        try dsimp only at w_15
        subst w_15
        refine J_aload_n (pc := 43) X 0 dX9_ropes_43 rfl ?_
        refine J_get (pc := 44) X clX9 0 3 rfl (by decide) g244 rfl dX9_ropes_44 ?_
        refine J_callR (pc := 47) (As := []) (rest := [.int (gB lo hi g)]) X mtX7_ropeSet g453 [3, 4] 0 (kX7_ropeSet l G cI cC cZ qs qsc c ) ⟨Nat.le_of_ble_eq_true rfl, Nat.le_of_ble_eq_true rfl⟩ rfl rfl rfl (by decide) rfl rfl rfl rfl rfl (Nat.le_of_ble_eq_true rfl) (Nat.zero_le _) (Nat.zero_le _) dX9_ropes_47 (fun r_16 u_17 w_18 => ?_)
        try dsimp only at w_18
        subst w_18
        refine J_top (y := nw 1) hsc.2.1 ?_
        refine J_iconst (pc := 50) X (-1) dX9_ropes_50 (by decide) ?_
        refine J_ixor (pc := 51) X dX9_ropes_51 ?_
        refine J_iand (pc := 52) X dX9_ropes_52 ?_
        refine J_istore (pc := 53) X [(5, .int ((gB lo hi g) &&& ((nw 1) ^^^ (-1)))), (0, .ref qx), (1, .int (nI an)), (2, .int (nI bn)), (3, .int v), (4, .int (nI nn))] dX9_ropes_53 (by decide) rfl ?_
        refine J_iconst (pc := 55) X (-1) dX9_ropes_55 (by decide) ?_
        refine J_istore (pc := 56) X [(6, .int (-1)), (5, .int ((gB lo hi g) &&& ((nw 1) ^^^ (-1)))), (0, .ref qx), (1, .int (nI an)), (2, .int (nI bn)), (3, .int v), (4, .int (nI nn))] dX9_ropes_56 (by decide) rfl ?_
        refine J_iconst (pc := 58) X 0 dX9_ropes_58 (by decide) ?_
        refine J_istore (pc := 59) X [(7, .int 0), (6, .int (-1)), (5, .int ((gB lo hi g) &&& ((nw 1) ^^^ (-1)))), (0, .ref qx), (1, .int (nI an)), (2, .int (nI bn)), (3, .int v), (4, .int (nI nn))] dX9_ropes_59 (by decide) rfl ?_
        have L_61 : ∀ (n_61 : Nat) (s_ : Nat) (be : Int32) (hs9 : s_ ≤ 256) (hbe : be = rpC (fun s9 => rT (wT (fun k9 t9 => yG P (dy k9) gr t9) (nw 1 ||| nI s9) v (nw 0) bn nn an 0 0)) (gB lo hi g &&& (nw 1 ^^^ -1)) s_), (256 - s_) < n_61 → JJ p0 l e0 ({ frames := 4, cells := 0, slots := 0, locals := 98 }) s0 m0 ar0 be0 me0 c0 A0 G 9 0 0 (QI be0 ar0 s0 A0 G (tys3 cI cC cZ) (S := Unit) (fun (r : Int32) (u : Unit) => r = spRopes g hs (fun k9 t9 => yG P (dy k9) gr t9) (nw 1) (nw 0) (nI an) (nI bn) v (nI nn)) (fun _ => [(qx, .inr (9, [.ref q, .ref qq, .ref qr, .ref qs, .ref qt, .ref qpa, .ref qi, .ref ql, .ref qb, .ref qg, .ref qw, .ref qn])), (q, .inr (5, [.int (nI P), .int gr, .int (nI wd), .int (nI g), .int (nI wk), .int fr, .ref qd, .ref qh, .ref qp])), (qd, .inl (cI, 8, .inl dyr)), (qs, .inr (7, [.ref qsc])), (qsc, .inl (cI, 18, .inl c))])) [(qx, .inr (9, [.ref q, .ref qq, .ref qr, .ref qs, .ref qt, .ref qpa, .ref qi, .ref ql, .ref qb, .ref qg, .ref qw, .ref qn])), (q, .inr (5, [.int (nI P), .int gr, .int (nI wd), .int (nI g), .int (nI wk), .int fr, .ref qd, .ref qh, .ref qp])), (qd, .inl (cI, 8, .inl dyr)), (qs, .inr (7, [.ref qsc])), (qsc, .inl (cI, 18, .inl c))] 61 [(0, .ref qx), (1, .int (nI an)), (2, .int (nI bn)), (3, .int v), (4, .int (nI nn)), (5, .int ((gB lo hi g) &&& ((nw 1) ^^^ (-1)))), (6, .int be), (7, .int (nI s_))] [] := by
          intro n_61
          induction n_61 with
          | zero => intro s_ be hs9 hbe hm_61; exact absurd hm_61 (Nat.not_lt_zero _)
          | succ n_61 ih_61 =>
            intro s_ be hs9 hbe hm_61
            refine J_iload (pc := 61) X 7 dX9_ropes_61 rfl ?_
            refine J_sipush (pc := 63) X 256 dX9_ropes_63 (by decide) ?_
            refine J_icmp_ge (pc := 66) X 153 dX9_ropes_66 (by decide) (fun c_19 => ?_) (fun c_19 => ?_)
            · have c_19 : 256 ≤ s_ := n_le_of (a := 256) (b := s_) (by omega) (by omega) c_19
              refine J_iload (pc := 153) X 6 dX9_ropes_153 rfl ?_
              refine J_iret (pc := 155) X hr () dX9_ropes_155 ?_ rfl
              rw [spRopes, if_pos htwo, ca, cb]
              rw [if_pos ⟨by assumption, hwn9⟩, nI_clamp (n := nn) (by omega), ← rop_end hg (by omega) (by omega) hlo]
              exact hbe.trans (congrArg (rpC _ _) (show s_ = 256 by omega))
            · have c_19 : s_ < 256 := n_nle_of (a := 256) (b := s_) (by omega) (by omega) c_19
              refine J_iload (pc := 69) X 6 dX9_ropes_69 rfl ?_
              refine J_iconst (pc := 71) X (-1) dX9_ropes_71 (by decide) ?_
              refine J_icmp_eq (pc := 72) X 88 dX9_ropes_72 (by decide) (fun c_20 => ?_) (fun c_20 => ?_)
              · skip
                refine J_iconst (pc := 88) X 1 dX9_ropes_88 (by decide) ?_
                refine J_goto (pc := 89) X 93 dX9_ropes_89 (by decide) ?_
                refine J_istore (pc := 93) X [(8, .int 1), (0, .ref qx), (1, .int (nI an)), (2, .int (nI bn)), (3, .int v), (4, .int (nI nn)), (5, .int ((gB lo hi g) &&& ((nw 1) ^^^ (-1)))), (6, .int be), (7, .int (nI s_))] dX9_ropes_93 (by decide) rfl ?_
                refine J_iload (pc := 95) X 0 dX9_ropes_95 rfl ?_
                refine J_if_eq (pc := 97) X 147 dX9_ropes_97 (by decide) (fun c_21 => ?_) (fun c_21 => ?_)
                · have c_21 : 1 = 0 := n_eq_of (a := 1) (b := 0) (by omega) (by omega) c_21
                  exfalso; omega
                · have c_21 : ¬ 1 = 0 := n_ne_of (a := 1) (b := 0) (by omega) (by omega) c_21
                  refine J_iload (pc := 100) X 8 dX9_ropes_100 rfl ?_
                  refine J_iload (pc := 102) X 6 dX9_ropes_102 rfl ?_
                  refine J_iconst (pc := 104) X (-1) dX9_ropes_104 (by decide) ?_
                  refine J_ixor (pc := 105) X dX9_ropes_105 ?_
                  refine J_iand (pc := 106) X dX9_ropes_106 ?_
                  refine J_if_ne (pc := 107) X 147 dX9_ropes_107 (by decide) (fun c_22 => ?_) (fun c_22 => ?_)
                  · skip
                    refine J_iinc (pc := 147) X (nI (s_ + 1)) 8 [(7, .int (nI (s_ + 1))), (8, .int 1), (0, .ref qx), (1, .int (nI an)), (2, .int (nI bn)), (3, .int v), (4, .int (nI nn)), (5, .int ((gB lo hi g) &&& ((nw 1) ^^^ (-1)))), (6, .int be)] dX9_ropes_147 rfl (n_add (x := s_) (y := 1) rfl rfl (by omega)) (by decide) rfl ?_
                    refine J_goto (pc := 150) X 61 dX9_ropes_150 (by decide) ?_
                    refine J_loc [2, 3, 4, 5, 6, 7, 8, 0] (lv2 := [(0, .ref qx), (1, .int (nI an)), (2, .int (nI bn)), (3, .int v), (4, .int (nI nn)), (5, .int ((gB lo hi g) &&& ((nw 1) ^^^ (-1)))), (6, .int be), (7, .int (nI (s_ + 1)))]) rfl ?_
                    exact ih_61  (s_ + 1) be (by first | assumption | omega | simp_all) (rpC_out (p := (fun s9 => rT (wT (fun k9 t9 => yG P (dy k9) gr t9) (nw 1 ||| nI s9) v (nw 0) bn nn an 0 0))) hbe (fun z9 => absurd z9.2.1 c_22)) (by omega)
                  · skip
                    refine J_aload_n (pc := 110) X 1 dX9_ropes_110 rfl ?_
                    refine J_get (pc := 111) X clX9 0 0 rfl (by decide) g241 rfl dX9_ropes_111 ?_
                    refine J_iload_n (pc := 114) X 2 dX9_ropes_114 rfl ?_
                    refine J_iload_n (pc := 115) X 3 dX9_ropes_115 rfl ?_
                    refine J_iload_n (pc := 116) X 4 dX9_ropes_116 rfl ?_
                    refine J_aload_n (pc := 117) X 1 dX9_ropes_117 rfl ?_
                    refine J_get (pc := 118) X clX9 0 3 rfl (by decide) g244 rfl dX9_ropes_118 ?_
                    refine J_callR (pc := 121) (As := []) (rest := [.int v, .int (nI bn), .int (nI an), .ref q]) X mtX7_clock g449 [3, 4] 0 (kX7_clock l G cI cC cZ qs qsc c ) ⟨Nat.le_of_ble_eq_true rfl, Nat.le_of_ble_eq_true rfl⟩ rfl rfl rfl (by decide) rfl rfl rfl rfl rfl (Nat.le_of_ble_eq_true rfl) (Nat.zero_le _) (Nat.zero_le _) dX9_ropes_121 (fun r_23 u_24 w_25 => ?_)
                    try dsimp only at w_25
                    subst w_25
                    refine J_top (y := nw 0) hsc.1 ?_
                    refine J_aload_n (pc := 124) X 1 dX9_ropes_124 rfl ?_
                    refine J_get (pc := 125) X clX9 0 3 rfl (by decide) g244 rfl dX9_ropes_125 ?_
                    refine J_callR (pc := 128) (As := []) (rest := [.int (nw 0), .int v, .int (nI bn), .int (nI an), .ref q]) X mtX7_ropeSet g453 [3, 4] 0 (kX7_ropeSet l G cI cC cZ qs qsc c ) ⟨Nat.le_of_ble_eq_true rfl, Nat.le_of_ble_eq_true rfl⟩ rfl rfl rfl (by decide) rfl rfl rfl rfl rfl (Nat.le_of_ble_eq_true rfl) (Nat.zero_le _) (Nat.zero_le _) dX9_ropes_128 (fun r_26 u_27 w_28 => ?_)
                    try dsimp only at w_28
                    subst w_28
                    refine J_top (y := nw 1) hsc.2.1 ?_
                    refine J_iload (pc := 131) X 8 dX9_ropes_131 rfl ?_
                    refine J_ior (pc := 133) X dX9_ropes_133 ?_
                    refine J_iload (pc := 134) X 5 dX9_ropes_134 rfl ?_
                    refine J_callR (pc := 136) (As := [.int (nI an), .int (nI bn), .int v, .int (nw 0), .int ((nw 1) ||| (nI s_)), .int (nI nn)]) (rest := []) X mtX5_walkTime g680 [1, 2] 0 (kX5_walkTime l G cI cC cZ q qd qh qp P gr wd g wk fr dyr an bn v (nw 0) ((nw 1) ||| (nI s_)) nn dy (by first | assumption | omega) (by first | assumption | omega) (by first | assumption | omega) (by first | assumption | omega) (by first | assumption | omega) (by first | assumption | omega) (by first | assumption | omega) (by first | assumption | omega) (by first | assumption | omega)) ⟨Nat.le_of_ble_eq_true rfl, Nat.le_of_ble_eq_true rfl⟩ rfl rfl rfl (by decide) rfl rfl rfl rfl rfl (Nat.le_of_ble_eq_true rfl) (Nat.zero_le _) (Nat.zero_le _) dX9_ropes_136 (fun r_29 u_30 w_31 => ?_)
                    try dsimp only at w_31
                    subst w_31
                    refine J_iconst (pc := 139) X (-1) dX9_ropes_139 (by decide) ?_
                    refine J_icmp_eq (pc := 140) X 147 dX9_ropes_140 (by decide) (fun c_32 => ?_) (fun c_32 => ?_)
                    · skip
                      refine J_iinc (pc := 147) X (nI (s_ + 1)) 8 [(7, .int (nI (s_ + 1))), (8, .int 1), (0, .ref qx), (1, .int (nI an)), (2, .int (nI bn)), (3, .int v), (4, .int (nI nn)), (5, .int ((gB lo hi g) &&& ((nw 1) ^^^ (-1)))), (6, .int be)] dX9_ropes_147 rfl (n_add (x := s_) (y := 1) rfl rfl (by omega)) (by decide) rfl ?_
                      refine J_goto (pc := 150) X 61 dX9_ropes_150 (by decide) ?_
                      refine J_loc [2, 3, 4, 5, 6, 7, 8, 0] (lv2 := [(0, .ref qx), (1, .int (nI an)), (2, .int (nI bn)), (3, .int v), (4, .int (nI nn)), (5, .int ((gB lo hi g) &&& ((nw 1) ^^^ (-1)))), (6, .int be), (7, .int (nI (s_ + 1)))]) rfl ?_
                      exact ih_61  (s_ + 1) be (by first | assumption | omega | simp_all) (rpC_out (p := (fun s9 => rT (wT (fun k9 t9 => yG P (dy k9) gr t9) (nw 1 ||| nI s9) v (nw 0) bn nn an 0 0))) hbe (fun z9 => z9.2.2 c_32)) (by omega)
                    · skip
                      refine J_iload (pc := 143) X 8 dX9_ropes_143 rfl ?_
                      refine J_istore (pc := 145) X [(6, .int (nI s_)), (8, .int 1), (0, .ref qx), (1, .int (nI an)), (2, .int (nI bn)), (3, .int v), (4, .int (nI nn)), (5, .int ((gB lo hi g) &&& ((nw 1) ^^^ (-1)))), (7, .int (nI s_))] dX9_ropes_145 (by decide) rfl ?_
                      refine J_iinc (pc := 147) X (nI (s_ + 1)) 8 [(7, .int (nI (s_ + 1))), (6, .int (nI s_)), (8, .int 1), (0, .ref qx), (1, .int (nI an)), (2, .int (nI bn)), (3, .int v), (4, .int (nI nn)), (5, .int ((gB lo hi g) &&& ((nw 1) ^^^ (-1))))] dX9_ropes_147 rfl (n_add (x := s_) (y := 1) rfl rfl (by omega)) (by decide) rfl ?_
                      refine J_goto (pc := 150) X 61 dX9_ropes_150 (by decide) ?_
                      refine J_loc [3, 4, 5, 6, 7, 8, 1, 0] (lv2 := [(0, .ref qx), (1, .int (nI an)), (2, .int (nI bn)), (3, .int v), (4, .int (nI nn)), (5, .int ((gB lo hi g) &&& ((nw 1) ^^^ (-1)))), (6, .int (nI s_)), (7, .int (nI (s_ + 1)))]) rfl ?_
                      exact ih_61  (s_ + 1) (nI s_) (by first | assumption | omega | simp_all) (rpC_in (p := (fun s9 => rT (wT (fun k9 t9 => yG P (dy k9) gr t9) (nw 1 ||| nI s9) v (nw 0) bn nn an 0 0))) hbe (Or.inl c_20) c_22 c_32) (by omega)
              · skip
                refine J_iload (pc := 75) X 7 dX9_ropes_75 rfl ?_
                refine J_callS (pc := 77) (As := [.int (nI s_)]) (rest := []) X mtJ6_bitCount_0f7a4 g735 [] (kJ6_bitCount_0f7a4 l G cI cC cZ (nI s_) ) ⟨Nat.le_of_ble_eq_true rfl, Nat.le_of_ble_eq_true rfl⟩ rfl rfl rfl (by decide) rfl rfl (Nat.le_of_ble_eq_true rfl) (Nat.zero_le _) (Nat.zero_le _) dX9_ropes_77 (fun r_33 u_34 w_35 => ?_)
                try dsimp only at w_35
                subst w_35
                refine J_iload (pc := 80) X 6 dX9_ropes_80 rfl ?_
                refine J_callS (pc := 82) (As := [.int be]) (rest := [.int (bitC (nI s_))]) X mtJ6_bitCount_0f7a4 g735 [] (kJ6_bitCount_0f7a4 l G cI cC cZ be ) ⟨Nat.le_of_ble_eq_true rfl, Nat.le_of_ble_eq_true rfl⟩ rfl rfl rfl (by decide) rfl rfl (Nat.le_of_ble_eq_true rfl) (Nat.zero_le _) (Nat.zero_le _) dX9_ropes_82 (fun r_36 u_37 w_38 => ?_)
                try dsimp only at w_38
                subst w_38
                refine J_icmp_ge (pc := 85) X 92 dX9_ropes_85 (by decide) (fun c_39 => ?_) (fun c_39 => ?_)
                · have c_39 := Int32.not_lt.mpr c_39
                  refine J_iconst (pc := 92) X 0 dX9_ropes_92 (by decide) ?_
                  refine J_istore (pc := 93) X [(8, .int 0), (0, .ref qx), (1, .int (nI an)), (2, .int (nI bn)), (3, .int v), (4, .int (nI nn)), (5, .int ((gB lo hi g) &&& ((nw 1) ^^^ (-1)))), (6, .int be), (7, .int (nI s_))] dX9_ropes_93 (by decide) rfl ?_
                  refine J_iload (pc := 95) X 0 dX9_ropes_95 rfl ?_
                  refine J_if_eq (pc := 97) X 147 dX9_ropes_97 (by decide) (fun c_40 => ?_) (fun c_40 => ?_)
                  · have c_40 : 0 = 0 := n_eq_of (a := 0) (b := 0) (by omega) (by omega) c_40
                    refine J_iinc (pc := 147) X (nI (s_ + 1)) 8 [(7, .int (nI (s_ + 1))), (8, .int 0), (0, .ref qx), (1, .int (nI an)), (2, .int (nI bn)), (3, .int v), (4, .int (nI nn)), (5, .int ((gB lo hi g) &&& ((nw 1) ^^^ (-1)))), (6, .int be)] dX9_ropes_147 rfl (n_add (x := s_) (y := 1) rfl rfl (by omega)) (by decide) rfl ?_
                    refine J_goto (pc := 150) X 61 dX9_ropes_150 (by decide) ?_
                    refine J_loc [2, 3, 4, 5, 6, 7, 8, 0] (lv2 := [(0, .ref qx), (1, .int (nI an)), (2, .int (nI bn)), (3, .int v), (4, .int (nI nn)), (5, .int ((gB lo hi g) &&& ((nw 1) ^^^ (-1)))), (6, .int be), (7, .int (nI (s_ + 1)))]) rfl ?_
                    exact ih_61  (s_ + 1) be (by first | assumption | omega | simp_all) (rpC_out (p := (fun s9 => rT (wT (fun k9 t9 => yG P (dy k9) gr t9) (nw 1 ||| nI s9) v (nw 0) bn nn an 0 0))) hbe (fun z9 => z9.1.elim c_20 c_39)) (by omega)
                  · have c_40 : ¬ 0 = 0 := n_ne_of (a := 0) (b := 0) (by omega) (by omega) c_40
                    exfalso; omega
                · have c_39 := Int32.not_le.mp c_39
                  refine J_iconst (pc := 88) X 1 dX9_ropes_88 (by decide) ?_
                  refine J_goto (pc := 89) X 93 dX9_ropes_89 (by decide) ?_
                  refine J_istore (pc := 93) X [(8, .int 1), (0, .ref qx), (1, .int (nI an)), (2, .int (nI bn)), (3, .int v), (4, .int (nI nn)), (5, .int ((gB lo hi g) &&& ((nw 1) ^^^ (-1)))), (6, .int be), (7, .int (nI s_))] dX9_ropes_93 (by decide) rfl ?_
                  refine J_iload (pc := 95) X 0 dX9_ropes_95 rfl ?_
                  refine J_if_eq (pc := 97) X 147 dX9_ropes_97 (by decide) (fun c_41 => ?_) (fun c_41 => ?_)
                  · have c_41 : 1 = 0 := n_eq_of (a := 1) (b := 0) (by omega) (by omega) c_41
                    exfalso; omega
                  · have c_41 : ¬ 1 = 0 := n_ne_of (a := 1) (b := 0) (by omega) (by omega) c_41
                    refine J_iload (pc := 100) X 8 dX9_ropes_100 rfl ?_
                    refine J_iload (pc := 102) X 6 dX9_ropes_102 rfl ?_
                    refine J_iconst (pc := 104) X (-1) dX9_ropes_104 (by decide) ?_
                    refine J_ixor (pc := 105) X dX9_ropes_105 ?_
                    refine J_iand (pc := 106) X dX9_ropes_106 ?_
                    refine J_if_ne (pc := 107) X 147 dX9_ropes_107 (by decide) (fun c_42 => ?_) (fun c_42 => ?_)
                    · skip
                      refine J_iinc (pc := 147) X (nI (s_ + 1)) 8 [(7, .int (nI (s_ + 1))), (8, .int 1), (0, .ref qx), (1, .int (nI an)), (2, .int (nI bn)), (3, .int v), (4, .int (nI nn)), (5, .int ((gB lo hi g) &&& ((nw 1) ^^^ (-1)))), (6, .int be)] dX9_ropes_147 rfl (n_add (x := s_) (y := 1) rfl rfl (by omega)) (by decide) rfl ?_
                      refine J_goto (pc := 150) X 61 dX9_ropes_150 (by decide) ?_
                      refine J_loc [2, 3, 4, 5, 6, 7, 8, 0] (lv2 := [(0, .ref qx), (1, .int (nI an)), (2, .int (nI bn)), (3, .int v), (4, .int (nI nn)), (5, .int ((gB lo hi g) &&& ((nw 1) ^^^ (-1)))), (6, .int be), (7, .int (nI (s_ + 1)))]) rfl ?_
                      exact ih_61  (s_ + 1) be (by first | assumption | omega | simp_all) (rpC_out (p := (fun s9 => rT (wT (fun k9 t9 => yG P (dy k9) gr t9) (nw 1 ||| nI s9) v (nw 0) bn nn an 0 0))) hbe (fun z9 => absurd z9.2.1 c_42)) (by omega)
                    · skip
                      refine J_aload_n (pc := 110) X 1 dX9_ropes_110 rfl ?_
                      refine J_get (pc := 111) X clX9 0 0 rfl (by decide) g241 rfl dX9_ropes_111 ?_
                      refine J_iload_n (pc := 114) X 2 dX9_ropes_114 rfl ?_
                      refine J_iload_n (pc := 115) X 3 dX9_ropes_115 rfl ?_
                      refine J_iload_n (pc := 116) X 4 dX9_ropes_116 rfl ?_
                      refine J_aload_n (pc := 117) X 1 dX9_ropes_117 rfl ?_
                      refine J_get (pc := 118) X clX9 0 3 rfl (by decide) g244 rfl dX9_ropes_118 ?_
                      refine J_callR (pc := 121) (As := []) (rest := [.int v, .int (nI bn), .int (nI an), .ref q]) X mtX7_clock g449 [3, 4] 0 (kX7_clock l G cI cC cZ qs qsc c ) ⟨Nat.le_of_ble_eq_true rfl, Nat.le_of_ble_eq_true rfl⟩ rfl rfl rfl (by decide) rfl rfl rfl rfl rfl (Nat.le_of_ble_eq_true rfl) (Nat.zero_le _) (Nat.zero_le _) dX9_ropes_121 (fun r_43 u_44 w_45 => ?_)
                      try dsimp only at w_45
                      subst w_45
                      refine J_top (y := nw 0) hsc.1 ?_
                      refine J_aload_n (pc := 124) X 1 dX9_ropes_124 rfl ?_
                      refine J_get (pc := 125) X clX9 0 3 rfl (by decide) g244 rfl dX9_ropes_125 ?_
                      refine J_callR (pc := 128) (As := []) (rest := [.int (nw 0), .int v, .int (nI bn), .int (nI an), .ref q]) X mtX7_ropeSet g453 [3, 4] 0 (kX7_ropeSet l G cI cC cZ qs qsc c ) ⟨Nat.le_of_ble_eq_true rfl, Nat.le_of_ble_eq_true rfl⟩ rfl rfl rfl (by decide) rfl rfl rfl rfl rfl (Nat.le_of_ble_eq_true rfl) (Nat.zero_le _) (Nat.zero_le _) dX9_ropes_128 (fun r_46 u_47 w_48 => ?_)
                      try dsimp only at w_48
                      subst w_48
                      refine J_top (y := nw 1) hsc.2.1 ?_
                      refine J_iload (pc := 131) X 8 dX9_ropes_131 rfl ?_
                      refine J_ior (pc := 133) X dX9_ropes_133 ?_
                      refine J_iload (pc := 134) X 5 dX9_ropes_134 rfl ?_
                      refine J_callR (pc := 136) (As := [.int (nI an), .int (nI bn), .int v, .int (nw 0), .int ((nw 1) ||| (nI s_)), .int (nI nn)]) (rest := []) X mtX5_walkTime g680 [1, 2] 0 (kX5_walkTime l G cI cC cZ q qd qh qp P gr wd g wk fr dyr an bn v (nw 0) ((nw 1) ||| (nI s_)) nn dy (by first | assumption | omega) (by first | assumption | omega) (by first | assumption | omega) (by first | assumption | omega) (by first | assumption | omega) (by first | assumption | omega) (by first | assumption | omega) (by first | assumption | omega) (by first | assumption | omega)) ⟨Nat.le_of_ble_eq_true rfl, Nat.le_of_ble_eq_true rfl⟩ rfl rfl rfl (by decide) rfl rfl rfl rfl rfl (Nat.le_of_ble_eq_true rfl) (Nat.zero_le _) (Nat.zero_le _) dX9_ropes_136 (fun r_49 u_50 w_51 => ?_)
                      try dsimp only at w_51
                      subst w_51
                      refine J_iconst (pc := 139) X (-1) dX9_ropes_139 (by decide) ?_
                      refine J_icmp_eq (pc := 140) X 147 dX9_ropes_140 (by decide) (fun c_52 => ?_) (fun c_52 => ?_)
                      · skip
                        refine J_iinc (pc := 147) X (nI (s_ + 1)) 8 [(7, .int (nI (s_ + 1))), (8, .int 1), (0, .ref qx), (1, .int (nI an)), (2, .int (nI bn)), (3, .int v), (4, .int (nI nn)), (5, .int ((gB lo hi g) &&& ((nw 1) ^^^ (-1)))), (6, .int be)] dX9_ropes_147 rfl (n_add (x := s_) (y := 1) rfl rfl (by omega)) (by decide) rfl ?_
                        refine J_goto (pc := 150) X 61 dX9_ropes_150 (by decide) ?_
                        refine J_loc [2, 3, 4, 5, 6, 7, 8, 0] (lv2 := [(0, .ref qx), (1, .int (nI an)), (2, .int (nI bn)), (3, .int v), (4, .int (nI nn)), (5, .int ((gB lo hi g) &&& ((nw 1) ^^^ (-1)))), (6, .int be), (7, .int (nI (s_ + 1)))]) rfl ?_
                        exact ih_61  (s_ + 1) be (by first | assumption | omega | simp_all) (rpC_out (p := (fun s9 => rT (wT (fun k9 t9 => yG P (dy k9) gr t9) (nw 1 ||| nI s9) v (nw 0) bn nn an 0 0))) hbe (fun z9 => z9.2.2 c_52)) (by omega)
                      · skip
                        refine J_iload (pc := 143) X 8 dX9_ropes_143 rfl ?_
                        refine J_istore (pc := 145) X [(6, .int (nI s_)), (8, .int 1), (0, .ref qx), (1, .int (nI an)), (2, .int (nI bn)), (3, .int v), (4, .int (nI nn)), (5, .int ((gB lo hi g) &&& ((nw 1) ^^^ (-1)))), (7, .int (nI s_))] dX9_ropes_145 (by decide) rfl ?_
                        refine J_iinc (pc := 147) X (nI (s_ + 1)) 8 [(7, .int (nI (s_ + 1))), (6, .int (nI s_)), (8, .int 1), (0, .ref qx), (1, .int (nI an)), (2, .int (nI bn)), (3, .int v), (4, .int (nI nn)), (5, .int ((gB lo hi g) &&& ((nw 1) ^^^ (-1))))] dX9_ropes_147 rfl (n_add (x := s_) (y := 1) rfl rfl (by omega)) (by decide) rfl ?_
                        refine J_goto (pc := 150) X 61 dX9_ropes_150 (by decide) ?_
                        refine J_loc [3, 4, 5, 6, 7, 8, 1, 0] (lv2 := [(0, .ref qx), (1, .int (nI an)), (2, .int (nI bn)), (3, .int v), (4, .int (nI nn)), (5, .int ((gB lo hi g) &&& ((nw 1) ^^^ (-1)))), (6, .int (nI s_)), (7, .int (nI (s_ + 1)))]) rfl ?_
                        exact ih_61  (s_ + 1) (nI s_) (by first | assumption | omega | simp_all) (rpC_in (p := (fun s9 => rT (wT (fun k9 t9 => yG P (dy k9) gr t9) (nw 1 ||| nI s9) v (nw 0) bn nn an 0 0))) hbe (Or.inr c_39) c_42 c_52) (by omega)
        refine J_loc [3, 4, 5, 6, 7, 2, 1, 0] (lv2 := [(0, .ref qx), (1, .int (nI an)), (2, .int (nI bn)), (3, .int v), (4, .int (nI nn)), (5, .int ((gB lo hi g) &&& ((nw 1) ^^^ (-1)))), (6, .int (-1)), (7, .int 0)]) rfl ?_
        exact L_61 _  0 (-1) (by first | assumption | omega | simp_all) rfl (Nat.lt_succ_self _)
      · skip
        refine J_ldc (pc := 31) X g285 dX9_ropes_31 ?_
        refine J_iret (pc := 33) X hr () dX9_ropes_33 ?_ rfl
        rw [spRopes, if_pos htwo, ca, cb]
        first | exact (if_neg (fun z => absurd z.1 (by assumption))).symm | exact (if_neg (fun z => absurd z.2 (by assumption))).symm
  · skip
    refine J_ldc (pc := 9) X g473 dX9_ropes_9 ?_
    refine J_iret (pc := 11) X hr () dX9_ropes_11 ?_ rfl
    exact (if_neg (by assumption)).symm
