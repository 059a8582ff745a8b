set_option maxRecDepth 100000 in
set_option maxHeartbeats 600000 in
theorem kX5_yardsBelow (l : Launch) (G : va_G) (cI cC cZ : ClassId) (q : Nat) (qd : Nat) (qh : Nat) (qp : Nat) (P : Nat) (gr : Int32) (wd : Nat) (g : Nat) (wk : Nat) (fr : Int32) (dyr : Nat → Int32) (hn : Nat) (t : Int32) (dy : Nat → Int32) (hPl : P ≤ 60) (hg : g ≤ 8) (hwk : wk ≤ 4) (hwd : wd ≤ 50) (hhn : hn ≤ g) (hdy : ∀ k, k < g → dyr k = dy k) (hP0 : 0 < g → 0 < P) : CI l G (tys3 cI cC cZ) yX5_yardsBelow cX5_yardsBelow 5 (some .int) ({ frames := 3, cells := 0, slots := 0, locals := 68 }) [.ref q, .int (nI hn), .int t] [(q, .inr (5, [.int (nI P), .int gr, .int (nI wd), .int (nI g), .int (nI wk), .int fr, .ref qd, .ref qh, .ref qp])), (qd, .inl (cI, 8, .inl dyr))] (S := Unit) (fun (r : Int32) (u : Unit) => r = sumI (fun k9 => yG P (dy k9) gr t) hn) (fun _ => [(q, .inr (5, [.int (nI P), .int gr, .int (nI wd), .int (nI g), .int (nI wk), .int fr, .ref qd, .ref qh, .ref qp])), (qd, .inl (cI, 8, .inl dyr))]) := by
  refine CI.intro (by decide) (Nat.le_of_ble_eq_true rfl) ?_
  intro p0 e0 s0 m0 ar0 be0 me0 c0 A0 X hr
  refine J_iconst (pc := 0) X 0 dX5_yardsBelow_0 (by decide) ?_
  refine J_istore_n (pc := 1) X [(3, .int 0), (0, .ref q), (1, .int (nI hn)), (2, .int t)] dX5_yardsBelow_1 (by decide) rfl ?_
  refine J_iconst (pc := 2) X 0 dX5_yardsBelow_2 (by decide) ?_
  refine J_istore (pc := 3) X [(4, .int 0), (3, .int 0), (0, .ref q), (1, .int (nI hn)), (2, .int t)] dX5_yardsBelow_3 (by decide) rfl ?_
  have L_5 : ∀ (n_5 : Nat) (i : Nat) (hi : i ≤ hn), (hn - i) < n_5 → JJ p0 l e0 ({ frames := 3, cells := 0, slots := 0, locals := 68 }) s0 m0 ar0 be0 me0 c0 A0 G 5 0 0 (QI be0 ar0 s0 A0 G (tys3 cI cC cZ) (S := Unit) (fun (r : Int32) (u : Unit) => r = sumI (fun k9 => yG P (dy k9) gr t) hn) (fun _ => [(q, .inr (5, [.int (nI P), .int gr, .int (nI wd), .int (nI g), .int (nI wk), .int fr, .ref qd, .ref qh, .ref qp])), (qd, .inl (cI, 8, .inl dyr))])) [(q, .inr (5, [.int (nI P), .int gr, .int (nI wd), .int (nI g), .int (nI wk), .int fr, .ref qd, .ref qh, .ref qp])), (qd, .inl (cI, 8, .inl dyr))] 5 [(0, .ref q), (1, .int (nI hn)), (2, .int t), (3, .int (sumI (fun k9 => yG P (dy k9) gr t) i)), (4, .int (nI i))] [] := by
    intro n_5
    induction n_5 with
    | zero => intro i hi hm_5; exact absurd hm_5 (Nat.not_lt_zero _)
    | succ n_5 ih_5 =>
      intro i hi hm_5
      refine J_iload (pc := 5) X 4 dX5_yardsBelow_5 rfl ?_
      refine J_aload_n (pc := 7) X 0 dX5_yardsBelow_7 rfl ?_
      refine J_get (pc := 8) X clX5 0 3 rfl (by decide) g94 rfl dX5_yardsBelow_8 ?_
      refine J_icmp_ge (pc := 11) X 36 dX5_yardsBelow_11 (by decide) (fun c_1 => ?_) (fun c_1 => ?_)
      · have c_1 : g ≤ i := n_le_of (a := g) (b := i) (by omega) (by omega) c_1
        refine J_iload_n (pc := 36) X 3 dX5_yardsBelow_36 rfl ?_
        refine J_iret (pc := 37) X hr () dX5_yardsBelow_37 ?_ rfl
        exact congrArg (sumI _) (by omega)
      · have c_1 : i < g := n_nle_of (a := g) (b := i) (by omega) (by omega) c_1
        refine J_iload (pc := 14) X 4 dX5_yardsBelow_14 rfl ?_
        refine J_iload_n (pc := 16) X 1 dX5_yardsBelow_16 rfl ?_
        refine J_icmp_ge (pc := 17) X 36 dX5_yardsBelow_17 (by decide) (fun c_2 => ?_) (fun c_2 => ?_)
        · have c_2 : hn ≤ i := n_le_of (a := hn) (b := i) (by omega) (by omega) c_2
          refine J_iload_n (pc := 36) X 3 dX5_yardsBelow_36 rfl ?_
          refine J_iret (pc := 37) X hr () dX5_yardsBelow_37 ?_ rfl
          exact congrArg (sumI _) (by omega)
        · have c_2 : i < hn := n_nle_of (a := hn) (b := i) (by omega) (by omega) c_2
          refine J_iload_n (pc := 20) X 3 dX5_yardsBelow_20 rfl ?_
          refine J_aload_n (pc := 21) X 0 dX5_yardsBelow_21 rfl ?_
          refine J_iload (pc := 22) X 4 dX5_yardsBelow_22 rfl ?_
          refine J_iload_n (pc := 24) X 2 dX5_yardsBelow_24 rfl ?_
          refine J_callR (pc := 25) (As := [.int (nI i), .int t]) (rest := [.int (sumI (fun k9 => yG P (dy k9) gr t) i)]) X mtX5_yardsAt g553 [0, 1] 0 (kX5_yardsAt l G cI cC cZ q qd qh qp P gr wd g wk fr dyr i t dy (by first | assumption | omega) (by first | assumption | omega) (by first | assumption | omega) (by first | assumption | omega) (by first | assumption | omega) (by first | assumption | omega) (by first | assumption | omega)) ⟨Nat.le_of_ble_eq_true rfl, Nat.le_of_ble_eq_true rfl⟩ rfl rfl rfl (by decide) rfl rfl rfl rfl rfl (Nat.le_of_ble_eq_true rfl) (Nat.zero_le _) (Nat.zero_le _) dX5_yardsBelow_25 (fun r_3 u_4 w_5 => ?_)
          try dsimp only at w_5
          subst w_5
          refine J_iadd (pc := 28) X dX5_yardsBelow_28 ?_
          refine J_istore_n (pc := 29) X [(3, .int ((sumI (fun k9 => yG P (dy k9) gr t) i) + (yG P (dy i) gr t))), (0, .ref q), (1, .int (nI hn)), (2, .int t), (4, .int (nI i))] dX5_yardsBelow_29 (by decide) rfl ?_
          refine J_iinc (pc := 30) X (nI (i + 1)) 4 [(4, .int (nI (i + 1))), (3, .int ((sumI (fun k9 => yG P (dy k9) gr t) i) + (yG P (dy i) gr t))), (0, .ref q), (1, .int (nI hn)), (2, .int t)] dX5_yardsBelow_30 rfl (n_add (x := i) (y := 1) rfl rfl (by omega)) (by decide) rfl ?_
          refine J_goto (pc := 33) X 5 dX5_yardsBelow_33 (by decide) ?_
          refine J_loc [2, 3, 4, 1, 0] (lv2 := [(0, .ref q), (1, .int (nI hn)), (2, .int t), (3, .int (sumI (fun k9 => yG P (dy k9) gr t) (i + 1))), (4, .int (nI (i + 1)))]) rfl ?_
          exact ih_5  (i + 1) (by first | assumption | omega | simp_all) (by omega)
  refine J_loc [2, 3, 4, 1, 0] (lv2 := [(0, .ref q), (1, .int (nI hn)), (2, .int t), (3, .int (sumI (fun k9 => yG P (dy k9) gr t) 0)), (4, .int 0)]) rfl ?_
  exact L_5 _  0 (by first | assumption | omega | simp_all) (Nat.lt_succ_self _)
set_option maxRecDepth 100000 in
set_option maxHeartbeats 600000 in
theorem kX5_walkTime (l : Launch) (G : va_G) (cI cC cZ : ClassId) (q : Nat) (qd : Nat) (qh : Nat) (qp : Nat) (P : Nat) (gr : Int32) (wd : Nat) (g : Nat) (wk : Nat) (fr : Int32) (dyr : Nat → Int32) (a : Nat) (b : Nat) (v : Int32) (t : Int32) (rp : Int32) (M : Nat) (dy : Nat → Int32) (hPl : P ≤ 60) (hg : g ≤ 8) (hwk : wk ≤ 4) (hwd : wd ≤ 50) (ha : a ≤ g) (hb : b ≤ g) (hM : M ≤ 1000) (hdy : ∀ k, k < g → dyr k = dy k) (hP0 : 0 < g → 0 < P) : CI l G (tys3 cI cC cZ) yX5_walkTime cX5_walkTime 11 (some .int) ({ frames := 3, cells := 0, slots := 0, locals := 68 }) [.ref q, .int (nI a), .int (nI b), .int v, .int t, .int rp, .int (nI M)] [(q, .inr (5, [.int (nI P), .int gr, .int (nI wd), .int (nI g), .int (nI wk), .int fr, .ref qd, .ref qh, .ref qp])), (qd, .inl (cI, 8, .inl dyr))] (S := Unit) (fun (r : Int32) (u : Unit) => r = rT (wT (fun k9 t9 => yG P (dy k9) gr t9) rp v t b M a 0 0)) (fun _ => [(q, .inr (5, [.int (nI P), .int gr, .int (nI wd), .int (nI g), .int (nI wk), .int fr, .ref qd, .ref qh, .ref qp])), (qd, .inl (cI, 8, .inl dyr))]) := by
  refine CI.intro (by decide) (Nat.le_of_ble_eq_true rfl) ?_
  intro p0 e0 s0 m0 ar0 be0 me0 c0 A0 X hr
  refine J_iload_n (pc := 0) X 1 dX5_walkTime_0 rfl ?_
  refine J_istore (pc := 1) X [(7, .int (nI a)), (0, .ref q), (1, .int (nI a)), (2, .int (nI b)), (3, .int v), (4, .int t), (5, .int rp), (6, .int (nI M))] dX5_walkTime_1 (by decide) rfl ?_
  refine J_iconst (pc := 3) X 0 dX5_walkTime_3 (by decide) ?_
  refine J_istore (pc := 4) X [(8, .int 0), (7, .int (nI a)), (0, .ref q), (1, .int (nI a)), (2, .int (nI b)), (3, .int v), (4, .int t), (5, .int rp), (6, .int (nI M))] dX5_walkTime_4 (by decide) rfl ?_
  refine J_iconst (pc := 6) X 0 dX5_walkTime_6 (by decide) ?_
  refine J_istore (pc := 7) X [(9, .int 0), (8, .int 0), (7, .int (nI a)), (0, .ref q), (1, .int (nI a)), (2, .int (nI b)), (3, .int v), (4, .int t), (5, .int rp), (6, .int (nI M))] dX5_walkTime_7 (by decide) rfl ?_
  have L_9 : ∀ (n_9 : Nat) (h : Nat) (y : Int32) (m : Nat) (hh : h ≤ g) (hm : m ≤ M) (hw : wT (fun k9 t9 => yG P (dy k9) gr t9) rp v t b (M - m) h y m = wT (fun k9 t9 => yG P (dy k9) gr t9) rp v t b M a 0 0), (M - m) < n_9 → JJ p0 l e0 ({ frames := 3, cells := 0, slots := 0, locals := 68 }) s0 m0 ar0 be0 me0 c0 A0 G 11 0 0 (QI be0 ar0 s0 A0 G (tys3 cI cC cZ) (S := Unit) (fun (r : Int32) (u : Unit) => r = rT (wT (fun k9 t9 => yG P (dy k9) gr t9) rp v t b M a 0 0)) (fun _ => [(q, .inr (5, [.int (nI P), .int gr, .int (nI wd), .int (nI g), .int (nI wk), .int fr, .ref qd, .ref qh, .ref qp])), (qd, .inl (cI, 8, .inl dyr))])) [(q, .inr (5, [.int (nI P), .int gr, .int (nI wd), .int (nI g), .int (nI wk), .int fr, .ref qd, .ref qh, .ref qp])), (qd, .inl (cI, 8, .inl dyr))] 9 [(0, .ref q), (1, .int (nI a)), (2, .int (nI b)), (3, .int v), (4, .int t), (5, .int rp), (6, .int (nI M)), (7, .int (nI h)), (8, .int y), (9, .int (nI m))] [] := by
    intro n_9
    induction n_9 with
    | zero => intro h y m hh hm hw hm_9; exact absurd hm_9 (Nat.not_lt_zero _)
    | succ n_9 ih_9 =>
      intro h y m hh hm hw hm_9
      refine J_iload (pc := 9) X 7 dX5_walkTime_9 rfl ?_
      refine J_iload_n (pc := 11) X 2 dX5_walkTime_11 rfl ?_
      refine J_icmp_eq (pc := 12) X 106 dX5_walkTime_12 (by decide) (fun c_1 => ?_) (fun c_1 => ?_)
      · have c_1 : h = b := n_eq_of (a := h) (b := b) (by omega) (by omega) c_1
        refine J_iload (pc := 106) X 7 dX5_walkTime_106 rfl ?_
        refine J_iload_n (pc := 108) X 2 dX5_walkTime_108 rfl ?_
        refine J_icmp_ne (pc := 109) X 117 dX5_walkTime_109 (by decide) (fun c_2 => ?_) (fun c_2 => ?_)
        · have c_2 : ¬ h = b := n_ne_of (a := h) (b := b) (by omega) (by omega) c_2
          exfalso; omega
        · have c_2 : h = b := n_eq_of (a := h) (b := b) (by omega) (by omega) c_2
          refine J_iload (pc := 112) X 9 dX5_walkTime_112 rfl ?_
          refine J_goto (pc := 114) X 118 dX5_walkTime_114 (by decide) ?_
          refine J_iret (pc := 118) X hr () dX5_walkTime_118 ?_ rfl
          exact wT_end' hw (by omega)
      · have c_1 : ¬ h = b := n_ne_of (a := h) (b := b) (by omega) (by omega) c_1
        refine J_iload (pc := 15) X 9 dX5_walkTime_15 rfl ?_
        refine J_iload (pc := 17) X 6 dX5_walkTime_17 rfl ?_
        refine J_icmp_ge (pc := 19) X 106 dX5_walkTime_19 (by decide) (fun c_3 => ?_) (fun c_3 => ?_)
        · have c_3 : M ≤ m := n_le_of (a := M) (b := m) (by omega) (by omega) c_3
          refine J_iload (pc := 106) X 7 dX5_walkTime_106 rfl ?_
          refine J_iload_n (pc := 108) X 2 dX5_walkTime_108 rfl ?_
          refine J_icmp_ne (pc := 109) X 117 dX5_walkTime_109 (by decide) (fun c_4 => ?_) (fun c_4 => ?_)
          · have c_4 : ¬ h = b := n_ne_of (a := h) (b := b) (by omega) (by omega) c_4
            refine J_iconst (pc := 117) X (-1) dX5_walkTime_117 (by decide) ?_
            refine J_iret (pc := 118) X hr () dX5_walkTime_118 ?_ rfl
            exact wT_out hw (by omega) (by omega)
          · have c_4 : h = b := n_eq_of (a := h) (b := b) (by omega) (by omega) c_4
            exfalso; omega
        · have c_3 : m < M := n_nle_of (a := M) (b := m) (by omega) (by omega) c_3
          refine J_iload (pc := 22) X 7 dX5_walkTime_22 rfl ?_
          refine J_iload_n (pc := 24) X 2 dX5_walkTime_24 rfl ?_
          refine J_icmp_ge (pc := 25) X 33 dX5_walkTime_25 (by decide) (fun c_5 => ?_) (fun c_5 => ?_)
          · have c_5 : b ≤ h := n_le_of (a := b) (b := h) (by omega) (by omega) c_5
            have hbh : b < h := by omega
            refine J_iload (pc := 33) X 7 dX5_walkTime_33 rfl ?_
            refine J_iconst (pc := 35) X 1 dX5_walkTime_35 (by decide) ?_
            refine J_isub (pc := 36) X dX5_walkTime_36 ?_
            refine J_top (y := nI (h - 1)) (n_sub (x := h) (y := 1) rfl rfl (by omega) (by omega)) ?_
            refine J_istore (pc := 37) X [(10, .int (nI (h - 1))), (0, .ref q), (1, .int (nI a)), (2, .int (nI b)), (3, .int v), (4, .int t), (5, .int rp), (6, .int (nI M)), (7, .int (nI h)), (8, .int y), (9, .int (nI m))] dX5_walkTime_37 (by decide) rfl ?_
            refine J_iload (pc := 39) X 9 dX5_walkTime_39 rfl ?_
            refine J_iload (pc := 41) X 6 dX5_walkTime_41 rfl ?_
            refine J_iload (pc := 43) X 0 dX5_walkTime_43 rfl ?_
            refine J_ishr (pc := 45) X dX5_walkTime_45 ?_
            refine J_iconst (pc := 46) X 1 dX5_walkTime_46 (by decide) ?_
            refine J_iand (pc := 47) X dX5_walkTime_47 ?_
            refine J_iconst (pc := 48) X 1 dX5_walkTime_48 (by decide) ?_
            refine J_icmp_ne (pc := 49) X 58 dX5_walkTime_49 (by decide) (fun c_6 => ?_) (fun c_6 => ?_)
            · skip
              refine J_iload_n (pc := 58) X 4 dX5_walkTime_58 rfl ?_
              refine J_iadd (pc := 59) X dX5_walkTime_59 ?_
              refine J_istore (pc := 60) X [(8, .int (y + v)), (10, .int (nI (h - 1))), (0, .ref q), (1, .int (nI a)), (2, .int (nI b)), (3, .int v), (4, .int t), (5, .int rp), (6, .int (nI M)), (7, .int (nI h)), (9, .int (nI m))] dX5_walkTime_60 (by decide) rfl ?_
              refine J_iload (pc := 62) X 0 dX5_walkTime_62 rfl ?_
              refine J_aload_n (pc := 64) X 2 dX5_walkTime_64 rfl ?_
              refine J_iload (pc := 65) X 1 dX5_walkTime_65 rfl ?_
              refine J_iload (pc := 67) X 6 dX5_walkTime_67 rfl ?_
              refine J_iload (pc := 69) X 10 dX5_walkTime_69 rfl ?_
              refine J_iadd (pc := 71) X dX5_walkTime_71 ?_
              refine J_callR (pc := 72) (As := [.int (nI (h - 1)), .int (t + (nI m))]) (rest := [.int (y + v)]) X mtX5_yardsAt g553 [0, 1] 0 (kX5_yardsAt l G cI cC cZ q qd qh qp P gr wd g wk fr dyr (h - 1) (t + (nI m)) dy (by first | assumption | omega) (by first | assumption | omega) (by first | assumption | omega) (by first | assumption | omega) (by first | assumption | omega) (by first | assumption | omega) (by first | assumption | omega)) ⟨Nat.le_of_ble_eq_true rfl, Nat.le_of_ble_eq_true rfl⟩ rfl rfl rfl (by decide) rfl rfl rfl rfl rfl (Nat.le_of_ble_eq_true rfl) (Nat.zero_le _) (Nat.zero_le _) dX5_walkTime_72 (fun r_7 u_8 w_9 => ?_)
              try dsimp only at w_9
              subst w_9
              refine J_icmp_lt (pc := 75) X 100 dX5_walkTime_75 (by decide) (fun c_10 => ?_) (fun c_10 => ?_)
              · skip
                refine J_iinc (pc := 100) X (nI (m + 1)) 10 [(9, .int (nI (m + 1))), (8, .int (y + v)), (10, .int (nI (h - 1))), (0, .ref q), (1, .int (nI a)), (2, .int (nI b)), (3, .int v), (4, .int t), (5, .int rp), (6, .int (nI M)), (7, .int (nI h))] dX5_walkTime_100 rfl (n_add (x := m) (y := 1) rfl rfl (by omega)) (by decide) rfl ?_
                refine J_goto (pc := 103) X 9 dX5_walkTime_103 (by decide) ?_
                refine J_loc [3, 4, 5, 6, 7, 8, 9, 10, 1, 0] (lv2 := [(0, .ref q), (1, .int (nI a)), (2, .int (nI b)), (3, .int v), (4, .int t), (5, .int rp), (6, .int (nI M)), (7, .int (nI h)), (8, .int (y + v)), (9, .int (nI (m + 1)))]) rfl ?_
                exact ih_9  h (y + v) (m + 1) (by first | assumption | omega | simp_all) (by first | assumption | omega | simp_all) (by first | exact wS_ua hw (by omega) (by omega) (by first | exact if_pos (by assumption) | exact if_neg (by assumption)) (by assumption) | exact wS_un hw (by omega) (by omega) (by first | exact if_pos (by assumption) | exact if_neg (by assumption)) (by assumption) | exact wS_da hw (by omega) (by omega) (by first | exact if_pos (by assumption) | exact if_neg (by assumption)) (by assumption) | exact wS_dn hw (by omega) (by omega) (by first | exact if_pos (by assumption) | exact if_neg (by assumption)) (by assumption)) (by omega)
              · skip
                refine J_iload (pc := 78) X 9 dX5_walkTime_78 rfl ?_
                refine J_iload_n (pc := 80) X 4 dX5_walkTime_80 rfl ?_
                refine J_icmp_ge (pc := 81) X 91 dX5_walkTime_81 (by decide) (fun c_11 => ?_) (fun c_11 => ?_)
                · have c_11 : b ≤ h := n_le_of (a := b) (b := h) (by omega) (by omega) c_11
                  refine J_iload (pc := 91) X 9 dX5_walkTime_91 rfl ?_
                  refine J_iconst (pc := 93) X 1 dX5_walkTime_93 (by decide) ?_
                  refine J_isub (pc := 94) X dX5_walkTime_94 ?_
                  refine J_top (y := nI (h - 1)) (n_sub (x := h) (y := 1) rfl rfl (by omega) (by omega)) ?_
                  refine J_istore (pc := 95) X [(7, .int (nI (h - 1))), (8, .int (y + v)), (10, .int (nI (h - 1))), (0, .ref q), (1, .int (nI a)), (2, .int (nI b)), (3, .int v), (4, .int t), (5, .int rp), (6, .int (nI M)), (9, .int (nI m))] dX5_walkTime_95 (by decide) rfl ?_
                  refine J_iconst (pc := 97) X 0 dX5_walkTime_97 (by decide) ?_
                  refine J_istore (pc := 98) X [(8, .int 0), (7, .int (nI (h - 1))), (10, .int (nI (h - 1))), (0, .ref q), (1, .int (nI a)), (2, .int (nI b)), (3, .int v), (4, .int t), (5, .int rp), (6, .int (nI M)), (9, .int (nI m))] dX5_walkTime_98 (by decide) rfl ?_
                  refine J_iinc (pc := 100) X (nI (m + 1)) 10 [(9, .int (nI (m + 1))), (8, .int 0), (7, .int (nI (h - 1))), (10, .int (nI (h - 1))), (0, .ref q), (1, .int (nI a)), (2, .int (nI b)), (3, .int v), (4, .int t), (5, .int rp), (6, .int (nI M))] dX5_walkTime_100 rfl (n_add (x := m) (y := 1) rfl rfl (by omega)) (by decide) rfl ?_
                  refine J_goto (pc := 103) X 9 dX5_walkTime_103 (by decide) ?_
                  refine J_loc [4, 5, 6, 7, 8, 9, 10, 2, 1, 0] (lv2 := [(0, .ref q), (1, .int (nI a)), (2, .int (nI b)), (3, .int v), (4, .int t), (5, .int rp), (6, .int (nI M)), (7, .int (nI (h - 1))), (8, .int 0), (9, .int (nI (m + 1)))]) rfl ?_
                  exact ih_9  (h - 1) 0 (m + 1) (by first | assumption | omega | simp_all) (by first | assumption | omega | simp_all) (by first | exact wS_ua hw (by omega) (by omega) (by first | exact if_pos (by assumption) | exact if_neg (by assumption)) (by assumption) | exact wS_un hw (by omega) (by omega) (by first | exact if_pos (by assumption) | exact if_neg (by assumption)) (by assumption) | exact wS_da hw (by omega) (by omega) (by first | exact if_pos (by assumption) | exact if_neg (by assumption)) (by assumption) | exact wS_dn hw (by omega) (by omega) (by first | exact if_pos (by assumption) | exact if_neg (by assumption)) (by assumption)) (by omega)
                · have c_11 : h < b := n_nle_of (a := b) (b := h) (by omega) (by omega) c_11
                  exfalso; omega
            · skip
              refine J_iconst (pc := 52) X 2 dX5_walkTime_52 (by decide) ?_
              refine J_iload_n (pc := 53) X 4 dX5_walkTime_53 rfl ?_
              refine J_imul (pc := 54) X dX5_walkTime_54 ?_
              refine J_goto (pc := 55) X 59 dX5_walkTime_55 (by decide) ?_
              refine J_iadd (pc := 59) X dX5_walkTime_59 ?_
              refine J_istore (pc := 60) X [(8, .int (y + (2 * v))), (10, .int (nI (h - 1))), (0, .ref q), (1, .int (nI a)), (2, .int (nI b)), (3, .int v), (4, .int t), (5, .int rp), (6, .int (nI M)), (7, .int (nI h)), (9, .int (nI m))] dX5_walkTime_60 (by decide) rfl ?_
              refine J_iload (pc := 62) X 0 dX5_walkTime_62 rfl ?_
              refine J_aload_n (pc := 64) X 2 dX5_walkTime_64 rfl ?_
              refine J_iload (pc := 65) X 1 dX5_walkTime_65 rfl ?_
              refine J_iload (pc := 67) X 6 dX5_walkTime_67 rfl ?_
              refine J_iload (pc := 69) X 10 dX5_walkTime_69 rfl ?_
              refine J_iadd (pc := 71) X dX5_walkTime_71 ?_
              refine J_callR (pc := 72) (As := [.int (nI (h - 1)), .int (t + (nI m))]) (rest := [.int (y + (2 * v))]) X mtX5_yardsAt g553 [0, 1] 0 (kX5_yardsAt l G cI cC cZ q qd qh qp P gr wd g wk fr dyr (h - 1) (t + (nI m)) dy (by first | assumption | omega) (by first | assumption | omega) (by first | assumption | omega) (by first | assumption | omega) (by first | assumption | omega) (by first | assumption | omega) (by first | assumption | omega)) ⟨Nat.le_of_ble_eq_true rfl, Nat.le_of_ble_eq_true rfl⟩ rfl rfl rfl (by decide) rfl rfl rfl rfl rfl (Nat.le_of_ble_eq_true rfl) (Nat.zero_le _) (Nat.zero_le _) dX5_walkTime_72 (fun r_12 u_13 w_14 => ?_)
              try dsimp only at w_14
              subst w_14
              refine J_icmp_lt (pc := 75) X 100 dX5_walkTime_75 (by decide) (fun c_15 => ?_) (fun c_15 => ?_)
              · skip
                refine J_iinc (pc := 100) X (nI (m + 1)) 10 [(9, .int (nI (m + 1))), (8, .int (y + (2 * v))), (10, .int (nI (h - 1))), (0, .ref q), (1, .int (nI a)), (2, .int (nI b)), (3, .int v), (4, .int t), (5, .int rp), (6, .int (nI M)), (7, .int (nI h))] dX5_walkTime_100 rfl (n_add (x := m) (y := 1) rfl rfl (by omega)) (by decide) rfl ?_
                refine J_goto (pc := 103) X 9 dX5_walkTime_103 (by decide) ?_
                refine J_loc [3, 4, 5, 6, 7, 8, 9, 10, 1, 0] (lv2 := [(0, .ref q), (1, .int (nI a)), (2, .int (nI b)), (3, .int v), (4, .int t), (5, .int rp), (6, .int (nI M)), (7, .int (nI h)), (8, .int (y + (2 * v))), (9, .int (nI (m + 1)))]) rfl ?_
                exact ih_9  h (y + (2 * v)) (m + 1) (by first | assumption | omega | simp_all) (by first | assumption | omega | simp_all) (by first | exact wS_ua hw (by omega) (by omega) (by first | exact if_pos (by assumption) | exact if_neg (by assumption)) (by assumption) | exact wS_un hw (by omega) (by omega) (by first | exact if_pos (by assumption) | exact if_neg (by assumption)) (by assumption) | exact wS_da hw (by omega) (by omega) (by first | exact if_pos (by assumption) | exact if_neg (by assumption)) (by assumption) | exact wS_dn hw (by omega) (by omega) (by first | exact if_pos (by assumption) | exact if_neg (by assumption)) (by assumption)) (by omega)
              · skip
                refine J_iload (pc := 78) X 9 dX5_walkTime_78 rfl ?_
                refine J_iload_n (pc := 80) X 4 dX5_walkTime_80 rfl ?_
                refine J_icmp_ge (pc := 81) X 91 dX5_walkTime_81 (by decide) (fun c_16 => ?_) (fun c_16 => ?_)
                · have c_16 : b ≤ h := n_le_of (a := b) (b := h) (by omega) (by omega) c_16
                  refine J_iload (pc := 91) X 9 dX5_walkTime_91 rfl ?_
                  refine J_iconst (pc := 93) X 1 dX5_walkTime_93 (by decide) ?_
                  refine J_isub (pc := 94) X dX5_walkTime_94 ?_
                  refine J_top (y := nI (h - 1)) (n_sub (x := h) (y := 1) rfl rfl (by omega) (by omega)) ?_
                  refine J_istore (pc := 95) X [(7, .int (nI (h - 1))), (8, .int (y + (2 * v))), (10, .int (nI (h - 1))), (0, .ref q), (1, .int (nI a)), (2, .int (nI b)), (3, .int v), (4, .int t), (5, .int rp), (6, .int (nI M)), (9, .int (nI m))] dX5_walkTime_95 (by decide) rfl ?_
                  refine J_iconst (pc := 97) X 0 dX5_walkTime_97 (by decide) ?_
                  refine J_istore (pc := 98) X [(8, .int 0), (7, .int (nI (h - 1))), (10, .int (nI (h - 1))), (0, .ref q), (1, .int (nI a)), (2, .int (nI b)), (3, .int v), (4, .int t), (5, .int rp), (6, .int (nI M)), (9, .int (nI m))] dX5_walkTime_98 (by decide) rfl ?_
                  refine J_iinc (pc := 100) X (nI (m + 1)) 10 [(9, .int (nI (m + 1))), (8, .int 0), (7, .int (nI (h - 1))), (10, .int (nI (h - 1))), (0, .ref q), (1, .int (nI a)), (2, .int (nI b)), (3, .int v), (4, .int t), (5, .int rp), (6, .int (nI M))] dX5_walkTime_100 rfl (n_add (x := m) (y := 1) rfl rfl (by omega)) (by decide) rfl ?_
                  refine J_goto (pc := 103) X 9 dX5_walkTime_103 (by decide) ?_
                  refine J_loc [4, 5, 6, 7, 8, 9, 10, 2, 1, 0] (lv2 := [(0, .ref q), (1, .int (nI a)), (2, .int (nI b)), (3, .int v), (4, .int t), (5, .int rp), (6, .int (nI M)), (7, .int (nI (h - 1))), (8, .int 0), (9, .int (nI (m + 1)))]) rfl ?_
                  exact ih_9  (h - 1) 0 (m + 1) (by first | assumption | omega | simp_all) (by first | assumption | omega | simp_all) (by first | exact wS_ua hw (by omega) (by omega) (by first | exact if_pos (by assumption) | exact if_neg (by assumption)) (by assumption) | exact wS_un hw (by omega) (by omega) (by first | exact if_pos (by assumption) | exact if_neg (by assumption)) (by assumption) | exact wS_da hw (by omega) (by omega) (by first | exact if_pos (by assumption) | exact if_neg (by assumption)) (by assumption) | exact wS_dn hw (by omega) (by omega) (by first | exact if_pos (by assumption) | exact if_neg (by assumption)) (by assumption)) (by omega)
                · have c_16 : h < b := n_nle_of (a := b) (b := h) (by omega) (by omega) c_16
                  exfalso; omega
          · have c_5 : h < b := n_nle_of (a := b) (b := h) (by omega) (by omega) c_5
            refine J_iload (pc := 28) X 7 dX5_walkTime_28 rfl ?_
            refine J_goto (pc := 30) X 37 dX5_walkTime_30 (by decide) ?_
            refine J_istore (pc := 37) X [(10, .int (nI h)), (0, .ref q), (1, .int (nI a)), (2, .int (nI b)), (3, .int v), (4, .int t), (5, .int rp), (6, .int (nI M)), (7, .int (nI h)), (8, .int y), (9, .int (nI m))] dX5_walkTime_37 (by decide) rfl ?_
            refine J_iload (pc := 39) X 9 dX5_walkTime_39 rfl ?_
            refine J_iload (pc := 41) X 6 dX5_walkTime_41 rfl ?_
            refine J_iload (pc := 43) X 0 dX5_walkTime_43 rfl ?_
            refine J_ishr (pc := 45) X dX5_walkTime_45 ?_
            refine J_iconst (pc := 46) X 1 dX5_walkTime_46 (by decide) ?_
            refine J_iand (pc := 47) X dX5_walkTime_47 ?_
            refine J_iconst (pc := 48) X 1 dX5_walkTime_48 (by decide) ?_
            refine J_icmp_ne (pc := 49) X 58 dX5_walkTime_49 (by decide) (fun c_17 => ?_) (fun c_17 => ?_)
            · skip
              refine J_iload_n (pc := 58) X 4 dX5_walkTime_58 rfl ?_
              refine J_iadd (pc := 59) X dX5_walkTime_59 ?_
              refine J_istore (pc := 60) X [(8, .int (y + v)), (10, .int (nI h)), (0, .ref q), (1, .int (nI a)), (2, .int (nI b)), (3, .int v), (4, .int t), (5, .int rp), (6, .int (nI M)), (7, .int (nI h)), (9, .int (nI m))] dX5_walkTime_60 (by decide) rfl ?_
              refine J_iload (pc := 62) X 0 dX5_walkTime_62 rfl ?_
              refine J_aload_n (pc := 64) X 2 dX5_walkTime_64 rfl ?_
              refine J_iload (pc := 65) X 1 dX5_walkTime_65 rfl ?_
              refine J_iload (pc := 67) X 6 dX5_walkTime_67 rfl ?_
              refine J_iload (pc := 69) X 10 dX5_walkTime_69 rfl ?_
              refine J_iadd (pc := 71) X dX5_walkTime_71 ?_
              refine J_callR (pc := 72) (As := [.int (nI h), .int (t + (nI m))]) (rest := [.int (y + v)]) X mtX5_yardsAt g553 [0, 1] 0 (kX5_yardsAt l G cI cC cZ q qd qh qp P gr wd g wk fr dyr h (t + (nI m)) dy (by first | assumption | omega) (by first | assumption | omega) (by first | assumption | omega) (by first | assumption | omega) (by first | assumption | omega) (by first | assumption | omega) (by first | assumption | omega)) ⟨Nat.le_of_ble_eq_true rfl, Nat.le_of_ble_eq_true rfl⟩ rfl rfl rfl (by decide) rfl rfl rfl rfl rfl (Nat.le_of_ble_eq_true rfl) (Nat.zero_le _) (Nat.zero_le _) dX5_walkTime_72 (fun r_18 u_19 w_20 => ?_)
              try dsimp only at w_20
              subst w_20
              refine J_icmp_lt (pc := 75) X 100 dX5_walkTime_75 (by decide) (fun c_21 => ?_) (fun c_21 => ?_)
              · skip
                refine J_iinc (pc := 100) X (nI (m + 1)) 10 [(9, .int (nI (m + 1))), (8, .int (y + v)), (10, .int (nI h)), (0, .ref q), (1, .int (nI a)), (2, .int (nI b)), (3, .int v), (4, .int t), (5, .int rp), (6, .int (nI M)), (7, .int (nI h))] dX5_walkTime_100 rfl (n_add (x := m) (y := 1) rfl rfl (by omega)) (by decide) rfl ?_
                refine J_goto (pc := 103) X 9 dX5_walkTime_103 (by decide) ?_
                refine J_loc [3, 4, 5, 6, 7, 8, 9, 10, 1, 0] (lv2 := [(0, .ref q), (1, .int (nI a)), (2, .int (nI b)), (3, .int v), (4, .int t), (5, .int rp), (6, .int (nI M)), (7, .int (nI h)), (8, .int (y + v)), (9, .int (nI (m + 1)))]) rfl ?_
                exact ih_9  h (y + v) (m + 1) (by first | assumption | omega | simp_all) (by first | assumption | omega | simp_all) (by first | exact wS_ua hw (by omega) (by omega) (by first | exact if_pos (by assumption) | exact if_neg (by assumption)) (by assumption) | exact wS_un hw (by omega) (by omega) (by first | exact if_pos (by assumption) | exact if_neg (by assumption)) (by assumption) | exact wS_da hw (by omega) (by omega) (by first | exact if_pos (by assumption) | exact if_neg (by assumption)) (by assumption) | exact wS_dn hw (by omega) (by omega) (by first | exact if_pos (by assumption) | exact if_neg (by assumption)) (by assumption)) (by omega)
              · skip
                refine J_iload (pc := 78) X 9 dX5_walkTime_78 rfl ?_
                refine J_iload_n (pc := 80) X 4 dX5_walkTime_80 rfl ?_
                refine J_icmp_ge (pc := 81) X 91 dX5_walkTime_81 (by decide) (fun c_22 => ?_) (fun c_22 => ?_)
                · have c_22 : b ≤ h := n_le_of (a := b) (b := h) (by omega) (by omega) c_22
                  exfalso; omega
                · have c_22 : h < b := n_nle_of (a := b) (b := h) (by omega) (by omega) c_22
                  refine J_iload (pc := 84) X 9 dX5_walkTime_84 rfl ?_
                  refine J_iconst (pc := 86) X 1 dX5_walkTime_86 (by decide) ?_
                  refine J_iadd (pc := 87) X dX5_walkTime_87 ?_
                  refine J_top (y := nI (h + 1)) (n_add (x := h) (y := 1) rfl rfl (by omega)) ?_
                  refine J_goto (pc := 88) X 95 dX5_walkTime_88 (by decide) ?_
                  refine J_istore (pc := 95) X [(7, .int (nI (h + 1))), (8, .int (y + v)), (10, .int (nI h)), (0, .ref q), (1, .int (nI a)), (2, .int (nI b)), (3, .int v), (4, .int t), (5, .int rp), (6, .int (nI M)), (9, .int (nI m))] dX5_walkTime_95 (by decide) rfl ?_
                  refine J_iconst (pc := 97) X 0 dX5_walkTime_97 (by decide) ?_
                  refine J_istore (pc := 98) X [(8, .int 0), (7, .int (nI (h + 1))), (10, .int (nI h)), (0, .ref q), (1, .int (nI a)), (2, .int (nI b)), (3, .int v), (4, .int t), (5, .int rp), (6, .int (nI M)), (9, .int (nI m))] dX5_walkTime_98 (by decide) rfl ?_
                  refine J_iinc (pc := 100) X (nI (m + 1)) 10 [(9, .int (nI (m + 1))), (8, .int 0), (7, .int (nI (h + 1))), (10, .int (nI h)), (0, .ref q), (1, .int (nI a)), (2, .int (nI b)), (3, .int v), (4, .int t), (5, .int rp), (6, .int (nI M))] dX5_walkTime_100 rfl (n_add (x := m) (y := 1) rfl rfl (by omega)) (by decide) rfl ?_
                  refine J_goto (pc := 103) X 9 dX5_walkTime_103 (by decide) ?_
                  refine J_loc [4, 5, 6, 7, 8, 9, 10, 2, 1, 0] (lv2 := [(0, .ref q), (1, .int (nI a)), (2, .int (nI b)), (3, .int v), (4, .int t), (5, .int rp), (6, .int (nI M)), (7, .int (nI (h + 1))), (8, .int 0), (9, .int (nI (m + 1)))]) rfl ?_
                  exact ih_9  (h + 1) 0 (m + 1) (by first | assumption | omega | simp_all) (by first | assumption | omega | simp_all) (by first | exact wS_ua hw (by omega) (by omega) (by first | exact if_pos (by assumption) | exact if_neg (by assumption)) (by assumption) | exact wS_un hw (by omega) (by omega) (by first | exact if_pos (by assumption) | exact if_neg (by assumption)) (by assumption) | exact wS_da hw (by omega) (by omega) (by first | exact if_pos (by assumption) | exact if_neg (by assumption)) (by assumption) | exact wS_dn hw (by omega) (by omega) (by first | exact if_pos (by assumption) | exact if_neg (by assumption)) (by assumption)) (by omega)
            · skip
              refine J_iconst (pc := 52) X 2 dX5_walkTime_52 (by decide) ?_
              refine J_iload_n (pc := 53) X 4 dX5_walkTime_53 rfl ?_
              refine J_imul (pc := 54) X dX5_walkTime_54 ?_
              refine J_goto (pc := 55) X 59 dX5_walkTime_55 (by decide) ?_
              refine J_iadd (pc := 59) X dX5_walkTime_59 ?_
              refine J_istore (pc := 60) X [(8, .int (y + (2 * v))), (10, .int (nI h)), (0, .ref q), (1, .int (nI a)), (2, .int (nI b)), (3, .int v), (4, .int t), (5, .int rp), (6, .int (nI M)), (7, .int (nI h)), (9, .int (nI m))] dX5_walkTime_60 (by decide) rfl ?_
              refine J_iload (pc := 62) X 0 dX5_walkTime_62 rfl ?_
              refine J_aload_n (pc := 64) X 2 dX5_walkTime_64 rfl ?_
              refine J_iload (pc := 65) X 1 dX5_walkTime_65 rfl ?_
              refine J_iload (pc := 67) X 6 dX5_walkTime_67 rfl ?_
              refine J_iload (pc := 69) X 10 dX5_walkTime_69 rfl ?_
              refine J_iadd (pc := 71) X dX5_walkTime_71 ?_
              refine J_callR (pc := 72) (As := [.int (nI h), .int (t + (nI m))]) (rest := [.int (y + (2 * v))]) X mtX5_yardsAt g553 [0, 1] 0 (kX5_yardsAt l G cI cC cZ q qd qh qp P gr wd g wk fr dyr h (t + (nI m)) dy (by first | assumption | omega) (by first | assumption | omega) (by first | assumption | omega) (by first | assumption | omega) (by first | assumption | omega) (by first | assumption | omega) (by first | assumption | omega)) ⟨Nat.le_of_ble_eq_true rfl, Nat.le_of_ble_eq_true rfl⟩ rfl rfl rfl (by decide) rfl rfl rfl rfl rfl (Nat.le_of_ble_eq_true rfl) (Nat.zero_le _) (Nat.zero_le _) dX5_walkTime_72 (fun r_23 u_24 w_25 => ?_)
              try dsimp only at w_25
              subst w_25
              refine J_icmp_lt (pc := 75) X 100 dX5_walkTime_75 (by decide) (fun c_26 => ?_) (fun c_26 => ?_)
              · skip
                refine J_iinc (pc := 100) X (nI (m + 1)) 10 [(9, .int (nI (m + 1))), (8, .int (y + (2 * v))), (10, .int (nI h)), (0, .ref q), (1, .int (nI a)), (2, .int (nI b)), (3, .int v), (4, .int t), (5, .int rp), (6, .int (nI M)), (7, .int (nI h))] dX5_walkTime_100 rfl (n_add (x := m) (y := 1) rfl rfl (by omega)) (by decide) rfl ?_
                refine J_goto (pc := 103) X 9 dX5_walkTime_103 (by decide) ?_
                refine J_loc [3, 4, 5, 6, 7, 8, 9, 10, 1, 0] (lv2 := [(0, .ref q), (1, .int (nI a)), (2, .int (nI b)), (3, .int v), (4, .int t), (5, .int rp), (6, .int (nI M)), (7, .int (nI h)), (8, .int (y + (2 * v))), (9, .int (nI (m + 1)))]) rfl ?_
                exact ih_9  h (y + (2 * v)) (m + 1) (by first | assumption | omega | simp_all) (by first | assumption | omega | simp_all) (by first | exact wS_ua hw (by omega) (by omega) (by first | exact if_pos (by assumption) | exact if_neg (by assumption)) (by assumption) | exact wS_un hw (by omega) (by omega) (by first | exact if_pos (by assumption) | exact if_neg (by assumption)) (by assumption) | exact wS_da hw (by omega) (by omega) (by first | exact if_pos (by assumption) | exact if_neg (by assumption)) (by assumption) | exact wS_dn hw (by omega) (by omega) (by first | exact if_pos (by assumption) | exact if_neg (by assumption)) (by assumption)) (by omega)
              · skip
                refine J_iload (pc := 78) X 9 dX5_walkTime_78 rfl ?_
                refine J_iload_n (pc := 80) X 4 dX5_walkTime_80 rfl ?_
                refine J_icmp_ge (pc := 81) X 91 dX5_walkTime_81 (by decide) (fun c_27 => ?_) (fun c_27 => ?_)
                · have c_27 : b ≤ h := n_le_of (a := b) (b := h) (by omega) (by omega) c_27
                  exfalso; omega
                · have c_27 : h < b := n_nle_of (a := b) (b := h) (by omega) (by omega) c_27
                  refine J_iload (pc := 84) X 9 dX5_walkTime_84 rfl ?_
                  refine J_iconst (pc := 86) X 1 dX5_walkTime_86 (by decide) ?_
                  refine J_iadd (pc := 87) X dX5_walkTime_87 ?_
                  refine J_top (y := nI (h + 1)) (n_add (x := h) (y := 1) rfl rfl (by omega)) ?_
                  refine J_goto (pc := 88) X 95 dX5_walkTime_88 (by decide) ?_
                  refine J_istore (pc := 95) X [(7, .int (nI (h + 1))), (8, .int (y + (2 * v))), (10, .int (nI h)), (0, .ref q), (1, .int (nI a)), (2, .int (nI b)), (3, .int v), (4, .int t), (5, .int rp), (6, .int (nI M)), (9, .int (nI m))] dX5_walkTime_95 (by decide) rfl ?_
                  refine J_iconst (pc := 97) X 0 dX5_walkTime_97 (by decide) ?_
                  refine J_istore (pc := 98) X [(8, .int 0), (7, .int (nI (h + 1))), (10, .int (nI h)), (0, .ref q), (1, .int (nI a)), (2, .int (nI b)), (3, .int v), (4, .int t), (5, .int rp), (6, .int (nI M)), (9, .int (nI m))] dX5_walkTime_98 (by decide) rfl ?_
                  refine J_iinc (pc := 100) X (nI (m + 1)) 10 [(9, .int (nI (m + 1))), (8, .int 0), (7, .int (nI (h + 1))), (10, .int (nI h)), (0, .ref q), (1, .int (nI a)), (2, .int (nI b)), (3, .int v), (4, .int t), (5, .int rp), (6, .int (nI M))] dX5_walkTime_100 rfl (n_add (x := m) (y := 1) rfl rfl (by omega)) (by decide) rfl ?_
                  refine J_goto (pc := 103) X 9 dX5_walkTime_103 (by decide) ?_
                  refine J_loc [4, 5, 6, 7, 8, 9, 10, 2, 1, 0] (lv2 := [(0, .ref q), (1, .int (nI a)), (2, .int (nI b)), (3, .int v), (4, .int t), (5, .int rp), (6, .int (nI M)), (7, .int (nI (h + 1))), (8, .int 0), (9, .int (nI (m + 1)))]) rfl ?_
                  exact ih_9  (h + 1) 0 (m + 1) (by first | assumption | omega | simp_all) (by first | assumption | omega | simp_all) (by first | exact wS_ua hw (by omega) (by omega) (by first | exact if_pos (by assumption) | exact if_neg (by assumption)) (by assumption) | exact wS_un hw (by omega) (by omega) (by first | exact if_pos (by assumption) | exact if_neg (by assumption)) (by assumption) | exact wS_da hw (by omega) (by omega) (by first | exact if_pos (by assumption) | exact if_neg (by assumption)) (by assumption) | exact wS_dn hw (by omega) (by omega) (by first | exact if_pos (by assumption) | exact if_neg (by assumption)) (by assumption)) (by omega)
  refine J_loc [3, 4, 5, 6, 7, 8, 9, 2, 1, 0] (lv2 := [(0, .ref q), (1, .int (nI a)), (2, .int (nI b)), (3, .int v), (4, .int t), (5, .int rp), (6, .int (nI M)), (7, .int (nI a)), (8, .int 0), (9, .int 0)]) rfl ?_
  exact L_9 _  a 0 0 (by first | assumption | omega | simp_all) (by first | assumption | omega | simp_all) rfl (Nat.lt_succ_self _)
set_option maxRecDepth 100000 in
set_option maxHeartbeats 600000 in
theorem kX5_gapsBetween (l : Launch) (G : va_G) (cI cC cZ : ClassId) (q : Nat) (qd : Nat) (qh : Nat) (qp : Nat) (P : Nat) (gr : Int32) (wd : Nat) (g : Nat) (wk : Nat) (fr : Int32) (a : Nat) (b : Nat) (lo : Nat) (hi : Nat) (hPl : P ≤ 60) (hg : g ≤ 8) (hwk : wk ≤ 4) (hwd : wd ≤ 50) (ha : a ≤ g) (hb : b ≤ g) (hlo : (a ≤ b ∧ lo = a ∧ hi = b) ∨ (b < a ∧ lo = b ∧ hi = a)) : CI l G (tys3 cI cC cZ) yX5_gapsBetween cX5_gapsBetween 7 (some .int) ({ frames := 1, cells := 0, slots := 0, locals := 13 }) [.ref q, .int (nI a), .int (nI b)] [(q, .inr (5, [.int (nI P), .int gr, .int (nI wd), .int (nI g), .int (nI wk), .int fr, .ref qd, .ref qh, .ref qp]))] (S := Unit) (fun (r : Int32) (u : Unit) => r = gB lo hi g) (fun _ => [(q, .inr (5, [.int (nI P), .int gr, .int (nI wd), .int (nI g), .int (nI wk), .int fr, .ref qd, .ref qh, .ref qp]))]) := by
  refine CI.intro (by decide) (Nat.le_of_ble_eq_true rfl) ?_
  intro p0 e0 s0 m0 ar0 be0 me0 c0 A0 X hr
  refine J_iload_n (pc := 0) X 1 dX5_gapsBetween_0 rfl ?_
  refine J_iload_n (pc := 1) X 2 dX5_gapsBetween_1 rfl ?_
  refine J_mmin (pc := 2) X g491 g492 g70 g493 (Nat.le_of_ble_eq_true rfl) (Nat.le_of_ble_eq_true rfl) (Nat.zero_le _) (Nat.zero_le _) dX5_gapsBetween_2 ?_
  refine J_top (y := nI lo) (n_min (by omega) (by omega) hlo) ?_
  refine J_istore_n (pc := 5) X [(3, .int (nI lo)), (0, .ref q), (1, .int (nI a)), (2, .int (nI b))] dX5_gapsBetween_5 (by decide) rfl ?_
  refine J_iload_n (pc := 6) X 2 dX5_gapsBetween_6 rfl ?_
  refine J_iload_n (pc := 7) X 3 dX5_gapsBetween_7 rfl ?_
  refine J_mmax (pc := 8) X g502 g193 g70 g194 (Nat.le_of_ble_eq_true rfl) (Nat.le_of_ble_eq_true rfl) (Nat.zero_le _) (Nat.zero_le _) dX5_gapsBetween_8 ?_
  refine J_top (y := nI hi) (n_max (by omega) (by omega) hlo) ?_
  refine J_istore (pc := 11) X [(4, .int (nI hi)), (3, .int (nI lo)), (0, .ref q), (1, .int (nI a)), (2, .int (nI b))] dX5_gapsBetween_11 (by decide) rfl ?_
  refine J_iconst (pc := 13) X 0 dX5_gapsBetween_13 (by decide) ?_
  refine J_istore (pc := 14) X [(5, .int 0), (4, .int (nI hi)), (3, .int (nI lo)), (0, .ref q), (1, .int (nI a)), (2, .int (nI b))] dX5_gapsBetween_14 (by decide) rfl ?_
  refine J_iconst (pc := 16) X 0 dX5_gapsBetween_16 (by decide) ?_
  refine J_istore (pc := 17) X [(6, .int 0), (5, .int 0), (4, .int (nI hi)), (3, .int (nI lo)), (0, .ref q), (1, .int (nI a)), (2, .int (nI b))] dX5_gapsBetween_17 (by decide) rfl ?_
  have L_19 : ∀ (n_19 : Nat) (i : Nat) (set_ : Int32) (hi_ : i ≤ g) (hs_ : set_ = gB lo hi i), (g - i) < n_19 → JJ p0 l e0 ({ frames := 1, cells := 0, slots := 0, locals := 13 }) s0 m0 ar0 be0 me0 c0 A0 G 7 0 0 (QI be0 ar0 s0 A0 G (tys3 cI cC cZ) (S := Unit) (fun (r : Int32) (u : Unit) => r = gB lo hi g) (fun _ => [(q, .inr (5, [.int (nI P), .int gr, .int (nI wd), .int (nI g), .int (nI wk), .int fr, .ref qd, .ref qh, .ref qp]))])) [(q, .inr (5, [.int (nI P), .int gr, .int (nI wd), .int (nI g), .int (nI wk), .int fr, .ref qd, .ref qh, .ref qp]))] 19 [(0, .ref q), (1, .int (nI a)), (2, .int (nI b)), (3, .int (nI lo)), (4, .int (nI hi)), (5, .int set_), (6, .int (nI i))] [] := by
    intro n_19
    induction n_19 with
    | zero => intro i set_ hi_ hs_ hm_19; exact absurd hm_19 (Nat.not_lt_zero _)
    | succ n_19 ih_19 =>
      intro i set_ hi_ hs_ hm_19
      refine J_iload (pc := 19) X 6 dX5_gapsBetween_19 rfl ?_
      refine J_aload_n (pc := 21) X 0 dX5_gapsBetween_21 rfl ?_
      refine J_get (pc := 22) X clX5 0 3 rfl (by decide) g94 rfl dX5_gapsBetween_22 ?_
      refine J_icmp_ge (pc := 25) X 56 dX5_gapsBetween_25 (by decide) (fun c_1 => ?_) (fun c_1 => ?_)
      · have c_1 : g ≤ i := n_le_of (a := g) (b := i) (by omega) (by omega) c_1
        refine J_iload (pc := 56) X 5 dX5_gapsBetween_56 rfl ?_
        refine J_iret (pc := 58) X hr () dX5_gapsBetween_58 ?_ rfl
        exact hs_.trans (congrArg (gB lo hi) (by omega))
      · have c_1 : i < g := n_nle_of (a := g) (b := i) (by omega) (by omega) c_1
        refine J_iload (pc := 28) X 6 dX5_gapsBetween_28 rfl ?_
        refine J_iload_n (pc := 30) X 3 dX5_gapsBetween_30 rfl ?_
        refine J_icmp_lt (pc := 31) X 50 dX5_gapsBetween_31 (by decide) (fun c_2 => ?_) (fun c_2 => ?_)
        · have c_2 : i < lo := n_lt_of (a := i) (b := lo) (by omega) (by omega) c_2
          refine J_iinc (pc := 50) X (nI (i + 1)) 6 [(6, .int (nI (i + 1))), (0, .ref q), (1, .int (nI a)), (2, .int (nI b)), (3, .int (nI lo)), (4, .int (nI hi)), (5, .int set_)] dX5_gapsBetween_50 rfl (n_add (x := i) (y := 1) rfl rfl (by omega)) (by decide) rfl ?_
          refine J_goto (pc := 53) X 19 dX5_gapsBetween_53 (by decide) ?_
          refine J_loc [1, 2, 3, 4, 5, 6, 0] (lv2 := [(0, .ref q), (1, .int (nI a)), (2, .int (nI b)), (3, .int (nI lo)), (4, .int (nI hi)), (5, .int set_), (6, .int (nI (i + 1)))]) rfl ?_
          exact ih_19  (i + 1) set_ (by first | assumption | omega | simp_all) (by first | (rw [hs_]; exact (gB_in (by omega) (by omega)).symm) | (rw [hs_]; exact (gB_out (by omega)).symm)) (by omega)
        · have c_2 : lo ≤ i := n_nlt_of (a := i) (b := lo) (by omega) (by omega) c_2
          refine J_iload (pc := 34) X 6 dX5_gapsBetween_34 rfl ?_
          refine J_iload (pc := 36) X 4 dX5_gapsBetween_36 rfl ?_
          refine J_icmp_ge (pc := 38) X 50 dX5_gapsBetween_38 (by decide) (fun c_3 => ?_) (fun c_3 => ?_)
          · have c_3 : hi ≤ i := n_le_of (a := hi) (b := i) (by omega) (by omega) c_3
            refine J_iinc (pc := 50) X (nI (i + 1)) 6 [(6, .int (nI (i + 1))), (0, .ref q), (1, .int (nI a)), (2, .int (nI b)), (3, .int (nI lo)), (4, .int (nI hi)), (5, .int set_)] dX5_gapsBetween_50 rfl (n_add (x := i) (y := 1) rfl rfl (by omega)) (by decide) rfl ?_
            refine J_goto (pc := 53) X 19 dX5_gapsBetween_53 (by decide) ?_
            refine J_loc [1, 2, 3, 4, 5, 6, 0] (lv2 := [(0, .ref q), (1, .int (nI a)), (2, .int (nI b)), (3, .int (nI lo)), (4, .int (nI hi)), (5, .int set_), (6, .int (nI (i + 1)))]) rfl ?_
            exact ih_19  (i + 1) set_ (by first | assumption | omega | simp_all) (by first | (rw [hs_]; exact (gB_in (by omega) (by omega)).symm) | (rw [hs_]; exact (gB_out (by omega)).symm)) (by omega)
          · have c_3 : i < hi := n_nle_of (a := hi) (b := i) (by omega) (by omega) c_3
            refine J_iload (pc := 41) X 5 dX5_gapsBetween_41 rfl ?_
            refine J_iconst (pc := 43) X 1 dX5_gapsBetween_43 (by decide) ?_
            refine J_iload (pc := 44) X 6 dX5_gapsBetween_44 rfl ?_
            refine J_ishl (pc := 46) X dX5_gapsBetween_46 ?_
            refine J_ior (pc := 47) X dX5_gapsBetween_47 ?_
            refine J_istore (pc := 48) X [(5, .int (set_ ||| (1 <<< ((nI i) &&& 31)))), (0, .ref q), (1, .int (nI a)), (2, .int (nI b)), (3, .int (nI lo)), (4, .int (nI hi)), (6, .int (nI i))] dX5_gapsBetween_48 (by decide) rfl ?_
            refine J_iinc (pc := 50) X (nI (i + 1)) 6 [(6, .int (nI (i + 1))), (5, .int (set_ ||| (1 <<< ((nI i) &&& 31)))), (0, .ref q), (1, .int (nI a)), (2, .int (nI b)), (3, .int (nI lo)), (4, .int (nI hi))] dX5_gapsBetween_50 rfl (n_add (x := i) (y := 1) rfl rfl (by omega)) (by decide) rfl ?_
            refine J_goto (pc := 53) X 19 dX5_gapsBetween_53 (by decide) ?_
            refine J_loc [2, 3, 4, 5, 6, 1, 0] (lv2 := [(0, .ref q), (1, .int (nI a)), (2, .int (nI b)), (3, .int (nI lo)), (4, .int (nI hi)), (5, .int (set_ ||| (1 <<< ((nI i) &&& 31)))), (6, .int (nI (i + 1)))]) rfl ?_
            exact ih_19  (i + 1) (set_ ||| (1 <<< ((nI i) &&& 31))) (by first | assumption | omega | simp_all) (by first | (rw [hs_]; exact (gB_in (by omega) (by omega)).symm) | (rw [hs_]; exact (gB_out (by omega)).symm)) (by omega)
  refine J_loc [4, 5, 6, 3, 2, 1, 0] (lv2 := [(0, .ref q), (1, .int (nI a)), (2, .int (nI b)), (3, .int (nI lo)), (4, .int (nI hi)), (5, .int 0), (6, .int 0)]) rfl ?_
  exact L_19 _  0 0 (by first | assumption | omega | simp_all) rfl (Nat.lt_succ_self _)
