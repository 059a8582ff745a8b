set_option maxRecDepth 100000 in
set_option maxHeartbeats 600000 in
theorem kX1_agree (l : Launch) (G : va_G) (cI cC cZ : ClassId) (qg : Nat) (qgt : Nat) (q : Nat) (qd : Nat) (qh : Nat) (qp : Nat) (P : Nat) (gr : Int32) (wd : Nat) (g : Nat) (wk : Nat) (fr : Int32) (dyr : Nat → Int32) (ql : Nat) (qlf : Nat) (qls : Nat) (fn : Nat) (mx : Nat) (fs_ : Nat → Int32) (sc_ : Nat → Int32) (dy : Nat → Int32) (fd : Nat → Int32) (t : Int32) (gw : Int32) (hPl : P ≤ 60) (hg : g ≤ 8) (hwk : wk ≤ 4) (hwd : wd ≤ 50) (hP0 : 0 < g → 0 < P) (hdy : ∀ k, k < g → dyr k = dy k) (hwd0 : 0 < g → 0 < wd) (hn : fn ≤ mx) (hmx : mx ≤ 1000) (hfd : okFd g fn fd) (hfs : ∀ i9, i9 < fn → fs_ i9 = fd (2 * i9) ∧ sc_ i9 = fd (2 * i9 + 1)) : CI l G (tys3 cI cC cZ) yX1_agree cX1_agree 6 (some .boolean) ({ frames := 3, cells := 0, slots := 0, locals := 69 }) [.ref qg, .ref q, .ref ql, .int t, .int gw] [(qg, .inr (1, [.ref qgt])), (q, .inr (5, [.int (nI P), .int gr, .int (nI wd), .int (nI g), .int (nI wk), .int fr, .ref qd, .ref qh, .ref qp])), (qd, .inl (cI, 8, .inl dyr)), (ql, .inr (3, [.ref qlf, .ref qls, .int (nI fn)])), (qlf, .inl (cI, mx, .inl fs_)), (qls, .inl (cI, mx, .inl sc_))] (S := Unit) (fun (r : Int32) (u : Unit) => r = bI (fsQ P wd fn dy fd gw t)) (fun _ => [(qg, .inr (1, [.ref qgt])), (q, .inr (5, [.int (nI P), .int gr, .int (nI wd), .int (nI g), .int (nI wk), .int fr, .ref qd, .ref qh, .ref qp])), (qd, .inl (cI, 8, .inl dyr)), (ql, .inr (3, [.ref qlf, .ref qls, .int (nI fn)])), (qlf, .inl (cI, mx, .inl fs_)), (qls, .inl (cI, mx, .inl sc_))]) := by
  refine CI.intro (by decide) (Nat.le_of_ble_eq_true rfl) ?_
  intro p0 e0 s0 m0 ar0 be0 me0 c0 A0 X hr
  refine J_iconst (pc := 0) X 0 dX1_agree_0 (by decide) ?_
  refine J_istore (pc := 1) X [(5, .int 0), (0, .ref qg), (1, .ref q), (2, .ref ql), (3, .int t), (4, .int gw)] dX1_agree_1 (by decide) rfl ?_
  have L_3 : ∀ (n_3 : Nat) (i : Nat) (hi : i ≤ fn) (hall : ∀ j9, j9 < i → (fun i9 => nH wd (yG P (dy (fd (2 * i9)).toNatClampNeg) gw t) = fd (2 * i9 + 1)) j9), (fn - i) < n_3 → JJ p0 l e0 ({ frames := 3, cells := 0, slots := 0, locals := 69 }) s0 m0 ar0 be0 me0 c0 A0 G 6 0 0 (QI be0 ar0 s0 A0 G (tys3 cI cC cZ) (S := Unit) (fun (r : Int32) (u : Unit) => r = bI (fsQ P wd fn dy fd gw t)) (fun _ => [(qg, .inr (1, [.ref qgt])), (q, .inr (5, [.int (nI P), .int gr, .int (nI wd), .int (nI g), .int (nI wk), .int fr, .ref qd, .ref qh, .ref qp])), (qd, .inl (cI, 8, .inl dyr)), (ql, .inr (3, [.ref qlf, .ref qls, .int (nI fn)])), (qlf, .inl (cI, mx, .inl fs_)), (qls, .inl (cI, mx, .inl sc_))])) [(qg, .inr (1, [.ref qgt])), (q, .inr (5, [.int (nI P), .int gr, .int (nI wd), .int (nI g), .int (nI wk), .int fr, .ref qd, .ref qh, .ref qp])), (qd, .inl (cI, 8, .inl dyr)), (ql, .inr (3, [.ref qlf, .ref qls, .int (nI fn)])), (qlf, .inl (cI, mx, .inl fs_)), (qls, .inl (cI, mx, .inl sc_))] 3 [(0, .ref qg), (1, .ref q), (2, .ref ql), (3, .int t), (4, .int gw), (5, .int (nI i))] [] := by
    intro n_3
    induction n_3 with
    | zero => intro i hi hall hm_3; exact absurd hm_3 (Nat.not_lt_zero _)
    | succ n_3 ih_3 =>
      intro i hi hall hm_3
      refine J_iload (pc := 3) X 5 dX1_agree_3 rfl ?_
      refine J_aload_n (pc := 5) X 2 dX1_agree_5 rfl ?_
      refine J_callR (pc := 6) (As := []) (rest := [.int (nI i)]) X mtX3_size g787 [3] 0 (kX3_size l G cI cC cZ ql qlf qls fn ) ⟨Nat.le_of_ble_eq_true rfl, Nat.le_of_ble_eq_true rfl⟩ rfl rfl rfl (by decide) rfl rfl rfl rfl rfl (Nat.le_of_ble_eq_true rfl) (Nat.zero_le _) (Nat.zero_le _) dX1_agree_6 (fun r_1 u_2 w_3 => ?_)
      try dsimp only at w_3
      subst w_3
      refine J_icmp_ge (pc := 9) X 42 dX1_agree_9 (by decide) (fun c_4 => ?_) (fun c_4 => ?_)
      · have c_4 : fn ≤ i := n_le_of (a := fn) (b := i) (by omega) (by omega) c_4
        refine J_iconst (pc := 42) X 1 dX1_agree_42 (by decide) ?_
        refine J_zret (pc := 43) X hr () rfl dX1_agree_43 ?_ rfl
        exact (bI_t (fun j9 h9 => hall j9 (by omega))).symm
      · have c_4 : i < fn := n_nle_of (a := fn) (b := i) (by omega) (by omega) c_4
        obtain ⟨kk, hkk, hfk⟩ := hfd i (by omega)
        obtain ⟨hf1, hf2⟩ := hfs i (by omega)
        have hP1 := hP0 (by omega)
        have hwd1 := hwd0 (by omega)
        refine J_aload_n (pc := 12) X 1 dX1_agree_12 rfl ?_
        refine J_aload_n (pc := 13) X 2 dX1_agree_13 rfl ?_
        refine J_iload (pc := 14) X 5 dX1_agree_14 rfl ?_
        refine J_callR (pc := 16) (As := [.int (nI i)]) (rest := [.ref q]) X mtX3_firstOf g788 [3, 4] 0 (kX3_firstOf l G cI cC cZ ql qlf qls fn mx fs_ i (by first | assumption | omega) (by first | assumption | omega) (by first | assumption | omega)) ⟨Nat.le_of_ble_eq_true rfl, Nat.le_of_ble_eq_true rfl⟩ rfl rfl rfl (by decide) rfl rfl rfl rfl rfl (Nat.le_of_ble_eq_true rfl) (Nat.zero_le _) (Nat.zero_le _) dX1_agree_16 (fun r_5 u_6 w_7 => ?_)
        try dsimp only at w_7
        subst w_7
        refine J_top (y := nI kk) (hf1.trans hfk) ?_
        refine J_iload_n (pc := 19) X 3 dX1_agree_19 rfl ?_
        refine J_iload (pc := 20) X 4 dX1_agree_20 rfl ?_
        refine J_callR (pc := 22) (As := [.int (nI kk), .int t, .int gw]) (rest := []) X mtX5_nightHousesGrowing g792 [1, 2] 0 (kX5_nightHousesGrowing l G cI cC cZ q qd qh qp P gr wd g wk fr dyr kk t gw dy (by first | assumption | omega) (by first | assumption | omega) (by first | assumption | omega) (by first | assumption | omega) (by first | assumption | omega) (by first | assumption | omega) (by first | assumption | omega) (by first | assumption | omega)) ⟨Nat.le_of_ble_eq_true rfl, Nat.le_of_ble_eq_true rfl⟩ rfl rfl rfl (by decide) rfl rfl rfl rfl rfl (Nat.le_of_ble_eq_true rfl) (Nat.zero_le _) (Nat.zero_le _) dX1_agree_22 (fun r_8 u_9 w_10 => ?_)
        try dsimp only at w_10
        subst w_10
        refine J_aload_n (pc := 25) X 2 dX1_agree_25 rfl ?_
        refine J_iload (pc := 26) X 5 dX1_agree_26 rfl ?_
        refine J_callR (pc := 28) (As := [.int (nI i)]) (rest := [.int (nH wd (yG P (dy kk) gw t))]) X mtX3_secondOf g793 [3, 5] 0 (kX3_secondOf l G cI cC cZ ql qlf qls fn mx sc_ i (by first | assumption | omega) (by first | assumption | omega) (by first | assumption | omega)) ⟨Nat.le_of_ble_eq_true rfl, Nat.le_of_ble_eq_true rfl⟩ rfl rfl rfl (by decide) rfl rfl rfl rfl rfl (Nat.le_of_ble_eq_true rfl) (Nat.zero_le _) (Nat.zero_le _) dX1_agree_28 (fun r_11 u_12 w_13 => ?_)
        try dsimp only at w_13
        subst w_13
        refine J_top (y := fd (2 * i + 1)) hf2 ?_
        refine J_icmp_eq (pc := 31) X 36 dX1_agree_31 (by decide) (fun c_14 => ?_) (fun c_14 => ?_)
        · skip
          refine J_iinc (pc := 36) X (nI (i + 1)) 5 [(5, .int (nI (i + 1))), (0, .ref qg), (1, .ref q), (2, .ref ql), (3, .int t), (4, .int gw)] dX1_agree_36 rfl (n_add (x := i) (y := 1) rfl rfl (by omega)) (by decide) rfl ?_
          refine J_goto (pc := 39) X 3 dX1_agree_39 (by decide) ?_
          refine J_loc [1, 2, 3, 4, 5, 0] (lv2 := [(0, .ref qg), (1, .ref q), (2, .ref ql), (3, .int t), (4, .int gw), (5, .int (nI (i + 1)))]) rfl ?_
          exact ih_3  (i + 1) (by first | assumption | omega | simp_all) (al_step (Q := (fun i9 => nH wd (yG P (dy (fd (2 * i9)).toNatClampNeg) gw t) = fd (2 * i9 + 1))) hall ((fs_q (gp := dy) hfk (by omega)).mpr (by assumption))) (by omega)
        · skip
          refine J_iconst (pc := 34) X 0 dX1_agree_34 (by decide) ?_
          refine J_zret (pc := 35) X hr () rfl dX1_agree_35 ?_ rfl
          exact (bI_f (fun z => absurd ((fs_q (gp := dy) hfk (by omega)).mp (z i (by omega))) (by assumption))).symm
  refine J_loc [1, 2, 3, 4, 5, 0] (lv2 := [(0, .ref qg), (1, .ref q), (2, .ref ql), (3, .int t), (4, .int gw), (5, .int 0)]) rfl ?_
  exact L_3 _  0 (by first | assumption | omega | simp_all) (fun j9 h9 => absurd h9 (by omega)) (Nat.lt_succ_self _)
set_option maxRecDepth 100000 in
set_option maxHeartbeats 600000 in
theorem kX1_agreeAtSomeMinute (l : Launch) (G : va_G) (cI cC cZ : ClassId) (qg : Nat) (qgt : Nat) (q : Nat) (qd : Nat) (qh : Nat) (qp : Nat) (P : Nat) (gr : Int32) (wd : Nat) (g : Nat) (wk : Nat) (fr : Int32) (dyr : Nat → Int32) (ql : Nat) (qlf : Nat) (qls : Nat) (fn : Nat) (mx : Nat) (fs_ : Nat → Int32) (sc_ : Nat → Int32) (dy : Nat → Int32) (fd : Nat → Int32) (gw : Int32) (hPl : P ≤ 60) (hg : g ≤ 8) (hwk : wk ≤ 4) (hwd : wd ≤ 50) (hP0 : 0 < g → 0 < P) (hdy : ∀ k, k < g → dyr k = dy k) (hwd0 : 0 < g → 0 < wd) (hn : fn ≤ mx) (hmx : mx ≤ 1000) (hfd : okFd g fn fd) (hfs : ∀ i9, i9 < fn → fs_ i9 = fd (2 * i9) ∧ sc_ i9 = fd (2 * i9 + 1)) : CI l G (tys3 cI cC cZ) yX1_agreeAtSomeMinute cX1_agreeAtSomeMinute 5 (some .boolean) ({ frames := 4, cells := 0, slots := 0, locals := 94 }) [.ref qg, .ref q, .ref ql, .int gw] [(qg, .inr (1, [.ref qgt])), (q, .inr (5, [.int (nI P), .int gr, .int (nI wd), .int (nI g), .int (nI wk), .int fr, .ref qd, .ref qh, .ref qp])), (qd, .inl (cI, 8, .inl dyr)), (ql, .inr (3, [.ref qlf, .ref qls, .int (nI fn)])), (qlf, .inl (cI, mx, .inl fs_)), (qls, .inl (cI, mx, .inl sc_))] (S := Unit) (fun (r : Int32) (u : Unit) => r = bI (exB (fun t9 => fsQ P wd fn dy fd gw (nI t9)) (2 * P) = true)) (fun _ => [(qg, .inr (1, [.ref qgt])), (q, .inr (5, [.int (nI P), .int gr, .int (nI wd), .int (nI g), .int (nI wk), .int fr, .ref qd, .ref qh, .ref qp])), (qd, .inl (cI, 8, .inl dyr)), (ql, .inr (3, [.ref qlf, .ref qls, .int (nI fn)])), (qlf, .inl (cI, mx, .inl fs_)), (qls, .inl (cI, mx, .inl sc_))]) := by
  refine CI.intro (by decide) (Nat.le_of_ble_eq_true rfl) ?_
  intro p0 e0 s0 m0 ar0 be0 me0 c0 A0 X hr
  refine J_iconst (pc := 0) X 0 dX1_agreeAtSomeMinute_0 (by decide) ?_
  refine J_istore (pc := 1) X [(4, .int 0), (0, .ref qg), (1, .ref q), (2, .ref ql), (3, .int gw)] dX1_agreeAtSomeMinute_1 (by decide) rfl ?_
  have L_3 : ∀ (n_3 : Nat) (i : Nat) (hi : i ≤ 2 * P) (hno : (0 : Int32) = bI (exB (fun t9 => fsQ P wd fn dy fd gw (nI t9)) i = true)), (2 * P - i) < n_3 → JJ p0 l e0 ({ frames := 4, cells := 0, slots := 0, locals := 94 }) s0 m0 ar0 be0 me0 c0 A0 G 5 0 0 (QI be0 ar0 s0 A0 G (tys3 cI cC cZ) (S := Unit) (fun (r : Int32) (u : Unit) => r = bI (exB (fun t9 => fsQ P wd fn dy fd gw (nI t9)) (2 * P) = true)) (fun _ => [(qg, .inr (1, [.ref qgt])), (q, .inr (5, [.int (nI P), .int gr, .int (nI wd), .int (nI g), .int (nI wk), .int fr, .ref qd, .ref qh, .ref qp])), (qd, .inl (cI, 8, .inl dyr)), (ql, .inr (3, [.ref qlf, .ref qls, .int (nI fn)])), (qlf, .inl (cI, mx, .inl fs_)), (qls, .inl (cI, mx, .inl sc_))])) [(qg, .inr (1, [.ref qgt])), (q, .inr (5, [.int (nI P), .int gr, .int (nI wd), .int (nI g), .int (nI wk), .int fr, .ref qd, .ref qh, .ref qp])), (qd, .inl (cI, 8, .inl dyr)), (ql, .inr (3, [.ref qlf, .ref qls, .int (nI fn)])), (qlf, .inl (cI, mx, .inl fs_)), (qls, .inl (cI, mx, .inl sc_))] 3 [(0, .ref qg), (1, .ref q), (2, .ref ql), (3, .int gw), (4, .int (nI i))] [] := by
    intro n_3
    induction n_3 with
    | zero => intro i hi hno hm_3; exact absurd hm_3 (Nat.not_lt_zero _)
    | succ n_3 ih_3 =>
      intro i hi hno hm_3
      refine J_iload (pc := 3) X 4 dX1_agreeAtSomeMinute_3 rfl ?_
      refine J_aload_n (pc := 5) X 1 dX1_agreeAtSomeMinute_5 rfl ?_
      refine J_callR (pc := 6) (As := []) (rest := [.int (nI i)]) X mtX5_nightLength g781 [1] 0 (kX5_nightLength l G cI cC cZ q qd qh qp P gr wd g wk fr (by first | assumption | omega) (by first | assumption | omega) (by first | assumption | omega) (by first | assumption | omega)) ⟨Nat.le_of_ble_eq_true rfl, Nat.le_of_ble_eq_true rfl⟩ rfl rfl rfl (by decide) rfl rfl rfl rfl rfl (Nat.le_of_ble_eq_true rfl) (Nat.zero_le _) (Nat.zero_le _) dX1_agreeAtSomeMinute_6 (fun r_1 u_2 w_3 => ?_)
      try dsimp only at w_3
      subst w_3
      refine J_icmp_ge (pc := 9) X 32 dX1_agreeAtSomeMinute_9 (by decide) (fun c_4 => ?_) (fun c_4 => ?_)
      · have c_4 : 2 * P ≤ i := n_le_of (a := 2 * P) (b := i) (by omega) (by omega) c_4
        refine J_iconst (pc := 32) X 0 dX1_agreeAtSomeMinute_32 (by decide) ?_
        refine J_zret (pc := 33) X hr () rfl dX1_agreeAtSomeMinute_33 ?_ rfl
        rw [show 2 * P = i from by omega]
        exact hno
      · have c_4 : i < 2 * P := n_nle_of (a := 2 * P) (b := i) (by omega) (by omega) c_4
        refine J_aload_n (pc := 12) X 0 dX1_agreeAtSomeMinute_12 rfl ?_
        refine J_aload_n (pc := 13) X 1 dX1_agreeAtSomeMinute_13 rfl ?_
        refine J_aload_n (pc := 14) X 2 dX1_agreeAtSomeMinute_14 rfl ?_
        refine J_iload (pc := 15) X 4 dX1_agreeAtSomeMinute_15 rfl ?_
        refine J_iload_n (pc := 17) X 3 dX1_agreeAtSomeMinute_17 rfl ?_
        refine J_callR (pc := 18) (As := [.ref q, .ref ql, .int (nI i), .int gw]) (rest := []) X mtX1_agree g783 [0, 1, 2, 3, 4, 5] 0 (kX1_agree l G cI cC cZ qg qgt q qd qh qp P gr wd g wk fr dyr ql qlf qls fn mx fs_ sc_ dy fd (nI i) gw (by first | assumption | omega) (by first | assumption | omega) (by first | assumption | omega) (by first | assumption | omega) (by first | assumption | omega) (by first | assumption | omega) (by first | assumption | omega) (by first | assumption | omega) (by first | assumption | omega) (by first | assumption | omega) (by first | assumption | omega)) ⟨Nat.le_of_ble_eq_true rfl, Nat.le_of_ble_eq_true rfl⟩ rfl rfl rfl (by decide) rfl rfl rfl rfl rfl (Nat.le_of_ble_eq_true rfl) (Nat.zero_le _) (Nat.zero_le _) dX1_agreeAtSomeMinute_18 (fun r_5 u_6 w_7 => ?_)
        try dsimp only at w_7
        subst w_7
        refine J_bif_eq (pc := 21) X 26 dX1_agreeAtSomeMinute_21 (by decide) (fun c_8 => ?_) (fun c_8 => ?_)
        · skip
          refine J_iinc (pc := 26) X (nI (i + 1)) 4 [(4, .int (nI (i + 1))), (0, .ref qg), (1, .ref q), (2, .ref ql), (3, .int gw)] dX1_agreeAtSomeMinute_26 rfl (n_add (x := i) (y := 1) rfl rfl (by omega)) (by decide) rfl ?_
          refine J_goto (pc := 29) X 3 dX1_agreeAtSomeMinute_29 (by decide) ?_
          refine J_loc [1, 2, 3, 4, 0] (lv2 := [(0, .ref qg), (1, .ref q), (2, .ref ql), (3, .int gw), (4, .int (nI (i + 1)))]) rfl ?_
          exact ih_3  (i + 1) (by first | assumption | omega | simp_all) (ex_3 (Q := (fun t9 => fsQ P wd fn dy fd gw (nI t9))) hno rfl (by assumption)) (by omega)
        · skip
          refine J_iconst (pc := 24) X 1 dX1_agreeAtSomeMinute_24 (by decide) ?_
          refine J_zret (pc := 25) X hr () rfl dX1_agreeAtSomeMinute_25 ?_ rfl
          exact ex_w (Q := (fun t9 => fsQ P wd fn dy fd gw (nI t9))) (by assumption) (by omega)
  refine J_loc [1, 2, 3, 4, 0] (lv2 := [(0, .ref qg), (1, .ref q), (2, .ref ql), (3, .int gw), (4, .int 0)]) rfl ?_
  exact L_3 _  0 (by first | assumption | omega | simp_all) (ex_0 (Q := (fun t9 => fsQ P wd fn dy fd gw (nI t9)))) (Nat.lt_succ_self _)
set_option maxRecDepth 100000 in
set_option maxHeartbeats 600000 in
theorem kX1_possibleGrowths (l : Launch) (G : va_G) (cI cC cZ : ClassId) (qg : Nat) (qgt : Nat) (q : Nat) (qd : Nat) (qh : Nat) (qp : Nat) (P : Nat) (gr : Int32) (wd : Nat) (g : Nat) (wk : Nat) (fr : Int32) (dyr : Nat → Int32) (ql : Nat) (qlf : Nat) (qls : Nat) (fn : Nat) (mx : Nat) (fs_ : Nat → Int32) (sc_ : Nat → Int32) (dy : Nat → Int32) (fd : Nat → Int32) (hPl : P ≤ 60) (hg : g ≤ 8) (hwk : wk ≤ 4) (hwd : wd ≤ 50) (hP0 : 0 < g → 0 < P) (hdy : ∀ k, k < g → dyr k = dy k) (hwd0 : 0 < g → 0 < wd) (hn : fn ≤ mx) (hmx : mx ≤ 1000) (hfd : okFd g fn fd) (hfs : ∀ i9, i9 < fn → fs_ i9 = fd (2 * i9) ∧ sc_ i9 = fd (2 * i9 + 1)) : CI l G (tys3 cI cC cZ) yX1_possibleGrowths cX1_possibleGrowths 5 (some .int) ({ frames := 5, cells := 0, slots := 0, locals := 118 }) [.ref qg, .ref q, .ref ql] [(qg, .inr (1, [.ref qgt])), (q, .inr (5, [.int (nI P), .int gr, .int (nI wd), .int (nI g), .int (nI wk), .int fr, .ref qd, .ref qh, .ref qp])), (qd, .inl (cI, 8, .inl dyr)), (ql, .inr (3, [.ref qlf, .ref qls, .int (nI fn)])), (qlf, .inl (cI, mx, .inl fs_)), (qls, .inl (cI, mx, .inl sc_))] (S := Unit) (fun (r : Int32) (u : Unit) => r = grTo P wd fn dy fd 30) (fun _ => [(qg, .inr (1, [.ref qgt])), (q, .inr (5, [.int (nI P), .int gr, .int (nI wd), .int (nI g), .int (nI wk), .int fr, .ref qd, .ref qh, .ref qp])), (qd, .inl (cI, 8, .inl dyr)), (ql, .inr (3, [.ref qlf, .ref qls, .int (nI fn)])), (qlf, .inl (cI, mx, .inl fs_)), (qls, .inl (cI, mx, .inl sc_))]) := by
  refine CI.intro (by decide) (Nat.le_of_ble_eq_true rfl) ?_
  intro p0 e0 s0 m0 ar0 be0 me0 c0 A0 X hr
  refine J_iconst (pc := 0) X 0 dX1_possibleGrowths_0 (by decide) ?_
  refine J_istore_n (pc := 1) X [(3, .int 0), (0, .ref qg), (1, .ref q), (2, .ref ql)] dX1_possibleGrowths_1 (by decide) rfl ?_
  refine J_iconst (pc := 2) X 0 dX1_possibleGrowths_2 (by decide) ?_
  refine J_istore (pc := 3) X [(4, .int 0), (3, .int 0), (0, .ref qg), (1, .ref q), (2, .ref ql)] dX1_possibleGrowths_3 (by decide) rfl ?_
  have L_5 : ∀ (n_5 : Nat) (gI : Nat) (set_ : Int32) (hgI : gI ≤ 30) (hset : set_ = grTo P wd fn dy fd gI), (30 - gI) < n_5 → JJ p0 l e0 ({ frames := 5, cells := 0, slots := 0, locals := 118 }) s0 m0 ar0 be0 me0 c0 A0 G 5 0 0 (QI be0 ar0 s0 A0 G (tys3 cI cC cZ) (S := Unit) (fun (r : Int32) (u : Unit) => r = grTo P wd fn dy fd 30) (fun _ => [(qg, .inr (1, [.ref qgt])), (q, .inr (5, [.int (nI P), .int gr, .int (nI wd), .int (nI g), .int (nI wk), .int fr, .ref qd, .ref qh, .ref qp])), (qd, .inl (cI, 8, .inl dyr)), (ql, .inr (3, [.ref qlf, .ref qls, .int (nI fn)])), (qlf, .inl (cI, mx, .inl fs_)), (qls, .inl (cI, mx, .inl sc_))])) [(qg, .inr (1, [.ref qgt])), (q, .inr (5, [.int (nI P), .int gr, .int (nI wd), .int (nI g), .int (nI wk), .int fr, .ref qd, .ref qh, .ref qp])), (qd, .inl (cI, 8, .inl dyr)), (ql, .inr (3, [.ref qlf, .ref qls, .int (nI fn)])), (qlf, .inl (cI, mx, .inl fs_)), (qls, .inl (cI, mx, .inl sc_))] 5 [(0, .ref qg), (1, .ref q), (2, .ref ql), (3, .int set_), (4, .int (nI gI))] [] := by
    intro n_5
    induction n_5 with
    | zero => intro gI set_ hgI hset hm_5; exact absurd hm_5 (Nat.not_lt_zero _)
    | succ n_5 ih_5 =>
      intro gI set_ hgI hset hm_5
      refine J_iload (pc := 5) X 4 dX1_possibleGrowths_5 rfl ?_
      refine J_bipush (pc := 7) X 30 dX1_possibleGrowths_7 (by decide) ?_
      refine J_icmp_ge (pc := 9) X 36 dX1_possibleGrowths_9 (by decide) (fun c_1 => ?_) (fun c_1 => ?_)
      · have c_1 : 30 ≤ gI := n_le_of (a := 30) (b := gI) (by omega) (by omega) c_1
        refine J_iload_n (pc := 36) X 3 dX1_possibleGrowths_36 rfl ?_
        refine J_iret (pc := 37) X hr () dX1_possibleGrowths_37 ?_ rfl
        exact hset.trans (congrArg (grTo P wd fn dy fd) (by omega))
      · have c_1 : gI < 30 := n_nle_of (a := 30) (b := gI) (by omega) (by omega) c_1
        refine J_aload_n (pc := 12) X 0 dX1_possibleGrowths_12 rfl ?_
        refine J_aload_n (pc := 13) X 1 dX1_possibleGrowths_13 rfl ?_
        refine J_aload_n (pc := 14) X 2 dX1_possibleGrowths_14 rfl ?_
        refine J_iload (pc := 15) X 4 dX1_possibleGrowths_15 rfl ?_
        refine J_callR (pc := 17) (As := [.ref q, .ref ql, .int (nI gI)]) (rest := []) X mtX1_agreeAtSomeMinute g806 [0, 1, 2, 3, 4, 5] 0 (kX1_agreeAtSomeMinute l G cI cC cZ qg qgt q qd qh qp P gr wd g wk fr dyr ql qlf qls fn mx fs_ sc_ dy fd (nI gI) (by first | assumption | omega) (by first | assumption | omega) (by first | assumption | omega) (by first | assumption | omega) (by first | assumption | omega) (by first | assumption | omega) (by first | assumption | omega) (by first | assumption | omega) (by first | assumption | omega) (by first | assumption | omega) (by first | assumption | omega)) ⟨Nat.le_of_ble_eq_true rfl, Nat.le_of_ble_eq_true rfl⟩ rfl rfl rfl (by decide) rfl rfl rfl rfl rfl (Nat.le_of_ble_eq_true rfl) (Nat.zero_le _) (Nat.zero_le _) dX1_possibleGrowths_17 (fun r_2 u_3 w_4 => ?_)
        try dsimp only at w_4
        subst w_4
        refine J_bif_eq (pc := 20) X 30 dX1_possibleGrowths_20 (by decide) (fun c_5 => ?_) (fun c_5 => ?_)
        · skip
          refine J_iinc (pc := 30) X (nI (gI + 1)) 4 [(4, .int (nI (gI + 1))), (0, .ref qg), (1, .ref q), (2, .ref ql), (3, .int set_)] dX1_possibleGrowths_30 rfl (n_add (x := gI) (y := 1) rfl rfl (by omega)) (by decide) rfl ?_
          refine J_goto (pc := 33) X 5 dX1_possibleGrowths_33 (by decide) ?_
          refine J_loc [1, 2, 3, 4, 0] (lv2 := [(0, .ref qg), (1, .ref q), (2, .ref ql), (3, .int set_), (4, .int (nI (gI + 1)))]) rfl ?_
          exact ih_5  (gI + 1) set_ (by first | assumption | omega | simp_all) (by first | exact gr_in2 hset (by assumption) | exact gr_out2 hset (by assumption)) (by omega)
        · skip
          refine J_iload_n (pc := 23) X 3 dX1_possibleGrowths_23 rfl ?_
          refine J_iconst (pc := 24) X 1 dX1_possibleGrowths_24 (by decide) ?_
          refine J_iload (pc := 25) X 4 dX1_possibleGrowths_25 rfl ?_
          refine J_ishl (pc := 27) X dX1_possibleGrowths_27 ?_
          refine J_ior (pc := 28) X dX1_possibleGrowths_28 ?_
          refine J_istore_n (pc := 29) X [(3, .int (set_ ||| (1 <<< ((nI gI) &&& 31)))), (0, .ref qg), (1, .ref q), (2, .ref ql), (4, .int (nI gI))] dX1_possibleGrowths_29 (by decide) rfl ?_
          refine J_iinc (pc := 30) X (nI (gI + 1)) 4 [(4, .int (nI (gI + 1))), (3, .int (set_ ||| (1 <<< ((nI gI) &&& 31)))), (0, .ref qg), (1, .ref q), (2, .ref ql)] dX1_possibleGrowths_30 rfl (n_add (x := gI) (y := 1) rfl rfl (by omega)) (by decide) rfl ?_
          refine J_goto (pc := 33) X 5 dX1_possibleGrowths_33 (by decide) ?_
          refine J_loc [2, 3, 4, 1, 0] (lv2 := [(0, .ref qg), (1, .ref q), (2, .ref ql), (3, .int (set_ ||| (1 <<< ((nI gI) &&& 31)))), (4, .int (nI (gI + 1)))]) rfl ?_
          exact ih_5  (gI + 1) (set_ ||| (1 <<< ((nI gI) &&& 31))) (by first | assumption | omega | simp_all) (by first | exact gr_in2 hset (by assumption) | exact gr_out2 hset (by assumption)) (by omega)
  refine J_loc [2, 3, 4, 1, 0] (lv2 := [(0, .ref qg), (1, .ref q), (2, .ref ql), (3, .int 0), (4, .int 0)]) rfl ?_
  exact L_5 _  0 0 (by first | assumption | omega | simp_all) rfl (Nat.lt_succ_self _)
set_option maxRecDepth 100000 in
set_option maxHeartbeats 600000 in
theorem kX1_noteFits (l : Launch) (G : va_G) (cI cC cZ : ClassId) (qg : Nat) (qgt : Nat) (q : Nat) (qd : Nat) (qh : Nat) (qp : Nat) (P : Nat) (gr : Int32) (wd : Nat) (g : Nat) (wk : Nat) (fr : Int32) (dyr : Nat → Int32) (ql : Nat) (qlf : Nat) (qls : Nat) (fn : Nat) (mx : Nat) (fs_ : Nat → Int32) (sc_ : Nat → Int32) (dy : Nat → Int32) (fd : Nat → Int32) (qn : Nat) (a : Int32) (b : Int32) (n : Nat) (hPl : P ≤ 60) (hg : g ≤ 8) (hwk : wk ≤ 4) (hwd : wd ≤ 50) (hP0 : 0 < g → 0 < P) (hdy : ∀ k, k < g → dyr k = dy k) (hwd0 : 0 < g → 0 < wd) (hn : fn ≤ mx) (hmx : mx ≤ 1000) (hfd : okFd g fn fd) (hfs : ∀ i9, i9 < fn → fs_ i9 = fd (2 * i9) ∧ sc_ i9 = fd (2 * i9 + 1)) : CV l G (tys3 cI cC cZ) yX1_noteFits cX1_noteFits 5 ({ frames := 4, cells := 0, slots := 0, locals := 94 }) [.ref qg, .ref q, .ref ql, .ref qn] [(qg, .inr (1, [.ref qgt])), (q, .inr (5, [.int (nI P), .int gr, .int (nI wd), .int (nI g), .int (nI wk), .int fr, .ref qd, .ref qh, .ref qp])), (qd, .inl (cI, 8, .inl dyr)), (ql, .inr (3, [.ref qlf, .ref qls, .int (nI fn)])), (qlf, .inl (cI, mx, .inl fs_)), (qls, .inl (cI, mx, .inl sc_)), (qn, .inr (8, [.int a, .int b, .int (nI n)]))] (S := Int32 × Int32 × Nat) (fun (u : Int32 × Int32 × Nat) => (u.1, u.2.1, u.2.2) = spn (fun t9 => fsQ P wd fn dy fd gr (nI t9)) (2 * P)) (fun (u : Int32 × Int32 × Nat) => [(qg, .inr (1, [.ref qgt])), (q, .inr (5, [.int (nI P), .int gr, .int (nI wd), .int (nI g), .int (nI wk), .int fr, .ref qd, .ref qh, .ref qp])), (qd, .inl (cI, 8, .inl dyr)), (ql, .inr (3, [.ref qlf, .ref qls, .int (nI fn)])), (qlf, .inl (cI, mx, .inl fs_)), (qls, .inl (cI, mx, .inl sc_)), (qn, .inr (8, [.int u.1, .int u.2.1, .int (nI u.2.2)]))]) := by
  refine CV.intro (by decide) (Nat.le_of_ble_eq_true rfl) ?_
  intro p0 e0 s0 m0 ar0 be0 me0 c0 A0 X hr
  refine J_aload_n (pc := 0) X 3 dX1_noteFits_0 rfl ?_
  refine J_callV (pc := 1) (As := []) (rest := []) X mtX8_clear g780 [6] [0, 1, 2, 3, 4, 5] [0, 1, 2, 3, 4, 5, 6] 0 (fun u => [(qg, .inr (1, [.ref qgt])), (q, .inr (5, [.int (nI P), .int gr, .int (nI wd), .int (nI g), .int (nI wk), .int fr, .ref qd, .ref qh, .ref qp])), (qd, .inl (cI, 8, .inl dyr)), (ql, .inr (3, [.ref qlf, .ref qls, .int (nI fn)])), (qlf, .inl (cI, mx, .inl fs_)), (qls, .inl (cI, mx, .inl sc_)), (qn, .inr (8, [.int (-1), .int (-1), .int 0]))]) (kX8_clear l G cI cC cZ qn a b n ) ⟨Nat.le_of_ble_eq_true rfl, Nat.le_of_ble_eq_true rfl⟩ rfl rfl rfl (by decide) (wr := [(qg, .inr (1, [.ref qgt])), (q, .inr (5, [.int (nI P), .int gr, .int (nI wd), .int (nI g), .int (nI wk), .int fr, .ref qd, .ref qh, .ref qp])), (qd, .inl (cI, 8, .inl dyr)), (ql, .inr (3, [.ref qlf, .ref qls, .int (nI fn)])), (qlf, .inl (cI, mx, .inl fs_)), (qls, .inl (cI, mx, .inl sc_))]) rfl (by decide) (by decide) (fun _ => rfl) (by decide) rfl rfl rfl rfl rfl (Nat.le_of_ble_eq_true rfl) (Nat.zero_le _) (Nat.zero_le _) dX1_noteFits_1 (fun u_2 w_3 => ?_)
  try dsimp only at w_3
  refine J_iconst (pc := 4) X 0 dX1_noteFits_4 (by decide) ?_
  refine J_istore (pc := 5) X [(4, .int 0), (0, .ref qg), (1, .ref q), (2, .ref ql), (3, .ref qn)] dX1_noteFits_5 (by decide) rfl ?_
  have L_7 : ∀ (n_7 : Nat) (i : Nat) (a1 : Int32) (b1 : Int32) (m : Nat) (hi : i ≤ 2 * P) (hm : m ≤ i) (hsp : (a1, b1, m) = spn (fun t9 => fsQ P wd fn dy fd gr (nI t9)) i), (2 * P - i) < n_7 → JJ p0 l e0 ({ frames := 4, cells := 0, slots := 0, locals := 94 }) s0 m0 ar0 be0 me0 c0 A0 G 5 0 0 (QV be0 ar0 s0 A0 G (tys3 cI cC cZ) (S := Int32 × Int32 × Nat) (fun (u : Int32 × Int32 × Nat) => (u.1, u.2.1, u.2.2) = spn (fun t9 => fsQ P wd fn dy fd gr (nI t9)) (2 * P)) (fun (u : Int32 × Int32 × Nat) => [(qg, .inr (1, [.ref qgt])), (q, .inr (5, [.int (nI P), .int gr, .int (nI wd), .int (nI g), .int (nI wk), .int fr, .ref qd, .ref qh, .ref qp])), (qd, .inl (cI, 8, .inl dyr)), (ql, .inr (3, [.ref qlf, .ref qls, .int (nI fn)])), (qlf, .inl (cI, mx, .inl fs_)), (qls, .inl (cI, mx, .inl sc_)), (qn, .inr (8, [.int u.1, .int u.2.1, .int (nI u.2.2)]))])) [(qg, .inr (1, [.ref qgt])), (q, .inr (5, [.int (nI P), .int gr, .int (nI wd), .int (nI g), .int (nI wk), .int fr, .ref qd, .ref qh, .ref qp])), (qd, .inl (cI, 8, .inl dyr)), (ql, .inr (3, [.ref qlf, .ref qls, .int (nI fn)])), (qlf, .inl (cI, mx, .inl fs_)), (qls, .inl (cI, mx, .inl sc_)), (qn, .inr (8, [.int a1, .int b1, .int (nI m)]))] 7 [(0, .ref qg), (1, .ref q), (2, .ref ql), (3, .ref qn), (4, .int (nI i))] [] := by
    intro n_7
    induction n_7 with
    | zero => intro i a1 b1 m hi hm hsp hm_7; exact absurd hm_7 (Nat.not_lt_zero _)
    | succ n_7 ih_7 =>
      intro i a1 b1 m hi hm hsp hm_7
      refine J_iload (pc := 7) X 4 dX1_noteFits_7 rfl ?_
      refine J_aload_n (pc := 9) X 1 dX1_noteFits_9 rfl ?_
      refine J_callR (pc := 10) (As := []) (rest := [.int (nI i)]) X mtX5_nightLength g781 [1] 0 (kX5_nightLength l G cI cC cZ q qd qh qp P gr wd g wk fr (by first | assumption | omega) (by first | assumption | omega) (by first | assumption | omega) (by first | assumption | omega)) ⟨Nat.le_of_ble_eq_true rfl, Nat.le_of_ble_eq_true rfl⟩ rfl rfl rfl (by decide) rfl rfl rfl rfl rfl (Nat.le_of_ble_eq_true rfl) (Nat.zero_le _) (Nat.zero_le _) dX1_noteFits_10 (fun r_4 u_5 w_6 => ?_)
      try dsimp only at w_6
      subst w_6
      refine J_icmp_ge (pc := 13) X 43 dX1_noteFits_13 (by decide) (fun c_7 => ?_) (fun c_7 => ?_)
      · have c_7 : 2 * P ≤ i := n_le_of (a := 2 * P) (b := i) (by omega) (by omega) c_7
        refine J_vret (pc := 43) X hr (a1, b1, m) dX1_noteFits_43 ?_ rfl
        rw [show 2 * P = i from by omega]
        exact hsp
      · have c_7 : i < 2 * P := n_nle_of (a := 2 * P) (b := i) (by omega) (by omega) c_7
        refine J_aload_n (pc := 16) X 0 dX1_noteFits_16 rfl ?_
        refine J_aload_n (pc := 17) X 1 dX1_noteFits_17 rfl ?_
        refine J_aload_n (pc := 18) X 2 dX1_noteFits_18 rfl ?_
        refine J_iload (pc := 19) X 4 dX1_noteFits_19 rfl ?_
        refine J_aload_n (pc := 21) X 1 dX1_noteFits_21 rfl ?_
        refine J_callR (pc := 22) (As := []) (rest := [.int (nI i), .ref ql, .ref q, .ref qg]) X mtX5_growth g782 [1] 0 (kX5_growth l G cI cC cZ q qd qh qp P gr wd g wk fr ) ⟨Nat.le_of_ble_eq_true rfl, Nat.le_of_ble_eq_true rfl⟩ rfl rfl rfl (by decide) rfl rfl rfl rfl rfl (Nat.le_of_ble_eq_true rfl) (Nat.zero_le _) (Nat.zero_le _) dX1_noteFits_22 (fun r_8 u_9 w_10 => ?_)
        try dsimp only at w_10
        have w_10 := w_10.symm; subst w_10
        refine J_callR (pc := 25) (As := [.ref q, .ref ql, .int (nI i), .int gr]) (rest := []) X mtX1_agree g783 [0, 1, 2, 3, 4, 5] 0 (kX1_agree l G cI cC cZ qg qgt q qd qh qp P gr wd g wk fr dyr ql qlf qls fn mx fs_ sc_ dy fd (nI i) gr (by first | assumption | omega) (by first | assumption | omega) (by first | assumption | omega) (by first | assumption | omega) (by first | assumption | omega) (by first | assumption | omega) (by first | assumption | omega) (by first | assumption | omega) (by first | assumption | omega) (by first | assumption | omega) (by first | assumption | omega)) ⟨Nat.le_of_ble_eq_true rfl, Nat.le_of_ble_eq_true rfl⟩ rfl rfl rfl (by decide) rfl rfl rfl rfl rfl (Nat.le_of_ble_eq_true rfl) (Nat.zero_le _) (Nat.zero_le _) dX1_noteFits_25 (fun r_11 u_12 w_13 => ?_)
        try dsimp only at w_13
        subst w_13
        refine J_bif_eq (pc := 28) X 37 dX1_noteFits_28 (by decide) (fun c_14 => ?_) (fun c_14 => ?_)
        · skip
          refine J_iinc (pc := 37) X (nI (i + 1)) 4 [(4, .int (nI (i + 1))), (0, .ref qg), (1, .ref q), (2, .ref ql), (3, .ref qn)] dX1_noteFits_37 rfl (n_add (x := i) (y := 1) rfl rfl (by omega)) (by decide) rfl ?_
          refine J_goto (pc := 40) X 7 dX1_noteFits_40 (by decide) ?_
          refine J_loc [1, 2, 3, 4, 0] (lv2 := [(0, .ref qg), (1, .ref q), (2, .ref ql), (3, .ref qn), (4, .int (nI (i + 1)))]) rfl ?_
          exact ih_7  (i + 1) a1 b1 m (by first | assumption | omega | simp_all) (by first | assumption | omega | simp_all) (by first | exact spn_out hsp (by assumption) | (rw [hnt]; exact spn_in hsp (by assumption))) (by omega)
        · skip
          refine J_aload_n (pc := 31) X 3 dX1_noteFits_31 rfl ?_
          refine J_iload (pc := 32) X 4 dX1_noteFits_32 rfl ?_
          refine J_callV (pc := 34) (As := [.int (nI i)]) (rest := []) X mtX8_note g797 [6] [0, 1, 2, 3, 4, 5] [0, 1, 2, 3, 4, 5, 6] 0 (fun u => [(qg, .inr (1, [.ref qgt])), (q, .inr (5, [.int (nI P), .int gr, .int (nI wd), .int (nI g), .int (nI wk), .int fr, .ref qd, .ref qh, .ref qp])), (qd, .inl (cI, 8, .inl dyr)), (ql, .inr (3, [.ref qlf, .ref qls, .int (nI fn)])), (qlf, .inl (cI, mx, .inl fs_)), (qls, .inl (cI, mx, .inl sc_)), (qn, .inr (8, [.int u, .int (nI i), .int (nI (m + 1))]))]) (kX8_note l G cI cC cZ qn a1 b1 m (nI i) (by first | assumption | omega)) ⟨Nat.le_of_ble_eq_true rfl, Nat.le_of_ble_eq_true rfl⟩ rfl rfl rfl (by decide) (wr := [(qg, .inr (1, [.ref qgt])), (q, .inr (5, [.int (nI P), .int gr, .int (nI wd), .int (nI g), .int (nI wk), .int fr, .ref qd, .ref qh, .ref qp])), (qd, .inl (cI, 8, .inl dyr)), (ql, .inr (3, [.ref qlf, .ref qls, .int (nI fn)])), (qlf, .inl (cI, mx, .inl fs_)), (qls, .inl (cI, mx, .inl sc_))]) rfl (by decide) (by decide) (fun _ => rfl) (by decide) rfl rfl rfl rfl rfl (Nat.le_of_ble_eq_true rfl) (Nat.zero_le _) (Nat.zero_le _) dX1_noteFits_34 (fun u_16 w_17 => ?_)
          obtain ⟨a2_u_16, rfl⟩ : ∃ z, z = u_16 := ⟨_, rfl⟩
          try dsimp only at w_17
          have hnt := w_17
          refine J_iinc (pc := 37) X (nI (i + 1)) 4 [(4, .int (nI (i + 1))), (0, .ref qg), (1, .ref q), (2, .ref ql), (3, .ref qn)] dX1_noteFits_37 rfl (n_add (x := i) (y := 1) rfl rfl (by omega)) (by decide) rfl ?_
          refine J_goto (pc := 40) X 7 dX1_noteFits_40 (by decide) ?_
          refine J_loc [1, 2, 3, 4, 0] (lv2 := [(0, .ref qg), (1, .ref q), (2, .ref ql), (3, .ref qn), (4, .int (nI (i + 1)))]) rfl ?_
          exact ih_7  (i + 1) a2_u_16 (nI i) (m + 1) (by first | assumption | omega | simp_all) (by first | assumption | omega | simp_all) (by first | exact spn_out hsp (by assumption) | (rw [hnt]; exact spn_in hsp (by assumption))) (by omega)
  refine J_loc [1, 2, 3, 4, 0] (lv2 := [(0, .ref qg), (1, .ref q), (2, .ref ql), (3, .ref qn), (4, .int 0)]) rfl ?_
  exact L_7 _  0 (-1) (-1) 0 (by first | assumption | omega | simp_all) (by first | assumption | omega | simp_all) rfl (Nat.lt_succ_self _)
set_option maxRecDepth 100000 in
set_option maxHeartbeats 600000 in
theorem kX1_greatestPart (l : Launch) (G : va_G) (cI cC cZ : ClassId) (qg : Nat) (qgt : Nat) (q : Nat) (qd : Nat) (qh : Nat) (qp : Nat) (P : Nat) (gr : Int32) (wd : Nat) (g : Nat) (wk : Nat) (fr : Int32) (dyr : Nat → Int32) (ql : Nat) (qlf : Nat) (qls : Nat) (fn : Nat) (mx : Nat) (fs_ : Nat → Int32) (sc_ : Nat → Int32) (dy : Nat → Int32) (fd : Nat → Int32) (tl_ : Nat → Int32) (gn : Nat) (k : Nat) (hPl : P ≤ 60) (hg : g ≤ 8) (hwk : wk ≤ 4) (hwd : wd ≤ 50) (hP0 : 0 < g → 0 < P) (hdy : ∀ k, k < g → dyr k = dy k) (hwd0 : 0 < g → 0 < wd) (hn : fn ≤ mx) (hmx : mx ≤ 1000) (hfd : okFd g fn fd) (hfs : ∀ i9, i9 < fn → fs_ i9 = fd (2 * i9) ∧ sc_ i9 = fd (2 * i9 + 1)) (hgr : gr = nI gn) (hgn : gn ≤ 40) (hgp : okGp g dy) (hk : k < g) : CI l G (tys3 cI cC cZ) yX1_greatestPart cX1_greatestPart 7 (some .int) ({ frames := 4, cells := 0, slots := 0, locals := 94 }) [.ref qg, .ref q, .ref ql, .int (nI k)] [(qg, .inr (1, [.ref qgt])), (qgt, .inl (cI, 300, .inl tl_)), (q, .inr (5, [.int (nI P), .int gr, .int (nI wd), .int (nI g), .int (nI wk), .int fr, .ref qd, .ref qh, .ref qp])), (qd, .inl (cI, 8, .inl dyr)), (ql, .inr (3, [.ref qlf, .ref qls, .int (nI fn)])), (qlf, .inl (cI, mx, .inl fs_)), (qls, .inl (cI, mx, .inl sc_))] (S := (Nat → Int32)) (fun (r : Int32) (u : (Nat → Int32)) => r = alK P wd fn dy fd gr k) (fun (u : (Nat → Int32)) => [(qg, .inr (1, [.ref qgt])), (qgt, .inl (cI, 300, .inl u)), (q, .inr (5, [.int (nI P), .int gr, .int (nI wd), .int (nI g), .int (nI wk), .int fr, .ref qd, .ref qh, .ref qp])), (qd, .inl (cI, 8, .inl dyr)), (ql, .inr (3, [.ref qlf, .ref qls, .int (nI fn)])), (qlf, .inl (cI, mx, .inl fs_)), (qls, .inl (cI, mx, .inl sc_))]) := by
  refine CI.intro (by decide) (Nat.le_of_ble_eq_true rfl) ?_
  intro p0 e0 s0 m0 ar0 be0 me0 c0 A0 X hr
  obtain ⟨D, hD1, hD2⟩ := hgp k hk
  have hP1 := hP0 (by omega)
  have hwd1 := hwd0 (by omega)
  refine J_iconst (pc := 0) X 0 dX1_greatestPart_0 (by decide) ?_
  refine J_istore (pc := 1) X [(4, .int 0), (0, .ref qg), (1, .ref q), (2, .ref ql), (3, .int (nI k))] dX1_greatestPart_1 (by decide) rfl ?_
  have L_3 : ∀ (n_3 : Nat) (j : Nat) (a0 : Nat → Int32) (hj : j ≤ 300) (ha0 : ∀ x9, x9 < j → a0 x9 = 0), (300 - j) < n_3 → JJ p0 l e0 ({ frames := 4, cells := 0, slots := 0, locals := 94 }) s0 m0 ar0 be0 me0 c0 A0 G 7 0 0 (QI be0 ar0 s0 A0 G (tys3 cI cC cZ) (S := (Nat → Int32)) (fun (r : Int32) (u : (Nat → Int32)) => r = alK P wd fn dy fd gr k) (fun (u : (Nat → Int32)) => [(qg, .inr (1, [.ref qgt])), (qgt, .inl (cI, 300, .inl u)), (q, .inr (5, [.int (nI P), .int gr, .int (nI wd), .int (nI g), .int (nI wk), .int fr, .ref qd, .ref qh, .ref qp])), (qd, .inl (cI, 8, .inl dyr)), (ql, .inr (3, [.ref qlf, .ref qls, .int (nI fn)])), (qlf, .inl (cI, mx, .inl fs_)), (qls, .inl (cI, mx, .inl sc_))])) [(qg, .inr (1, [.ref qgt])), (qgt, .inl (cI, 300, .inl a0)), (q, .inr (5, [.int (nI P), .int gr, .int (nI wd), .int (nI g), .int (nI wk), .int fr, .ref qd, .ref qh, .ref qp])), (qd, .inl (cI, 8, .inl dyr)), (ql, .inr (3, [.ref qlf, .ref qls, .int (nI fn)])), (qlf, .inl (cI, mx, .inl fs_)), (qls, .inl (cI, mx, .inl sc_))] 3 [(0, .ref qg), (1, .ref q), (2, .ref ql), (3, .int (nI k)), (4, .int (nI j))] [] := by
    intro n_3
    induction n_3 with
    | zero => intro j a0 hj ha0 hm_3; exact absurd hm_3 (Nat.not_lt_zero _)
    | succ n_3 ih_3 =>
      intro j a0 hj ha0 hm_3
      refine J_iload (pc := 3) X 4 dX1_greatestPart_3 rfl ?_
      refine J_aload_n (pc := 5) X 0 dX1_greatestPart_5 rfl ?_
      refine J_get (pc := 6) X clX1 0 0 rfl (by decide) g211 rfl dX1_greatestPart_6 ?_
      refine J_alen (pc := 9) X 1 0 rfl rfl dX1_greatestPart_9 ?_
      refine J_icmp_ge (pc := 10) X 27 dX1_greatestPart_10 (by decide) (fun c_1 => ?_) (fun c_1 => ?_)
      · have c_1 : 300 ≤ j := n_le_of (a := 300) (b := j) (by omega) (by omega) c_1
        refine J_iconst (pc := 27) X 0 dX1_greatestPart_27 (by decide) ?_
        refine J_istore (pc := 28) X [(4, .int 0), (0, .ref qg), (1, .ref q), (2, .ref ql), (3, .int (nI k))] dX1_greatestPart_28 (by decide) rfl ?_
        refine J_iconst (pc := 30) X 0 dX1_greatestPart_30 (by decide) ?_
        refine J_istore (pc := 31) X [(5, .int 0), (4, .int 0), (0, .ref qg), (1, .ref q), (2, .ref ql), (3, .int (nI k))] dX1_greatestPart_31 (by decide) rfl ?_
        have L_33 : ∀ (n_33 : Nat) (i : Nat) (a1 : Nat → Int32) (mo : Int32) (hi : i ≤ 2 * P) (ha1 : ∀ x9, x9 < 300 → a1 x9 = (taTo (fun t9 => fsQ P wd fn dy fd gr (nI t9)) (tlH P wd dy gr k) i).1 x9) (hmo : mo = (taTo (fun t9 => fsQ P wd fn dy fd gr (nI t9)) (tlH P wd dy gr k) i).2), (2 * P - i) < n_33 → JJ p0 l e0 ({ frames := 4, cells := 0, slots := 0, locals := 94 }) s0 m0 ar0 be0 me0 c0 A0 G 7 0 0 (QI be0 ar0 s0 A0 G (tys3 cI cC cZ) (S := (Nat → Int32)) (fun (r : Int32) (u : (Nat → Int32)) => r = alK P wd fn dy fd gr k) (fun (u : (Nat → Int32)) => [(qg, .inr (1, [.ref qgt])), (qgt, .inl (cI, 300, .inl u)), (q, .inr (5, [.int (nI P), .int gr, .int (nI wd), .int (nI g), .int (nI wk), .int fr, .ref qd, .ref qh, .ref qp])), (qd, .inl (cI, 8, .inl dyr)), (ql, .inr (3, [.ref qlf, .ref qls, .int (nI fn)])), (qlf, .inl (cI, mx, .inl fs_)), (qls, .inl (cI, mx, .inl sc_))])) [(qg, .inr (1, [.ref qgt])), (qgt, .inl (cI, 300, .inl a1)), (q, .inr (5, [.int (nI P), .int gr, .int (nI wd), .int (nI g), .int (nI wk), .int fr, .ref qd, .ref qh, .ref qp])), (qd, .inl (cI, 8, .inl dyr)), (ql, .inr (3, [.ref qlf, .ref qls, .int (nI fn)])), (qlf, .inl (cI, mx, .inl fs_)), (qls, .inl (cI, mx, .inl sc_))] 33 [(0, .ref qg), (1, .ref q), (2, .ref ql), (3, .int (nI k)), (4, .int mo), (5, .int (nI i))] [] := by
          intro n_33
          induction n_33 with
          | zero => intro i a1 mo hi ha1 hmo hm_33; exact absurd hm_33 (Nat.not_lt_zero _)
          | succ n_33 ih_33 =>
            intro i a1 mo hi ha1 hmo hm_33
            refine J_iload (pc := 33) X 5 dX1_greatestPart_33 rfl ?_
            refine J_aload_n (pc := 35) X 1 dX1_greatestPart_35 rfl ?_
            refine J_callR (pc := 36) (As := []) (rest := [.int (nI i)]) X mtX5_nightLength g781 [2] 0 (kX5_nightLength l G cI cC cZ q qd qh qp P gr wd g wk fr (by first | assumption | omega) (by first | assumption | omega) (by first | assumption | omega) (by first | assumption | omega)) ⟨Nat.le_of_ble_eq_true rfl, Nat.le_of_ble_eq_true rfl⟩ rfl rfl rfl (by decide) rfl rfl rfl rfl rfl (Nat.le_of_ble_eq_true rfl) (Nat.zero_le _) (Nat.zero_le _) dX1_greatestPart_36 (fun r_2 u_3 w_4 => ?_)
            try dsimp only at w_4
            subst w_4
            refine J_icmp_ge (pc := 39) X 112 dX1_greatestPart_39 (by decide) (fun c_5 => ?_) (fun c_5 => ?_)
            · have c_5 : 2 * P ≤ i := n_le_of (a := 2 * P) (b := i) (by omega) (by omega) c_5
              refine J_iload (pc := 112) X 4 dX1_greatestPart_112 rfl ?_
              refine J_iret (pc := 114) X hr a1 dX1_greatestPart_114 ?_ rfl
              rw [alK, hmo, show i = 2 * P from by omega]
            · have c_5 : i < 2 * P := n_nle_of (a := 2 * P) (b := i) (by omega) (by omega) c_5
              refine J_aload_n (pc := 42) X 1 dX1_greatestPart_42 rfl ?_
              refine J_iload_n (pc := 43) X 3 dX1_greatestPart_43 rfl ?_
              refine J_iload (pc := 44) X 5 dX1_greatestPart_44 rfl ?_
              refine J_callR (pc := 46) (As := [.int (nI k), .int (nI i)]) (rest := []) X mtX5_nightHousesAt g823 [2, 3] 0 (kX5_nightHousesAt l G cI cC cZ q qd qh qp P gr wd g wk fr dyr k (nI i) dy (by first | assumption | omega) (by first | assumption | omega) (by first | assumption | omega) (by first | assumption | omega) (by first | assumption | omega) (by first | assumption | omega) (by first | assumption | omega) (by first | assumption | omega)) ⟨Nat.le_of_ble_eq_true rfl, Nat.le_of_ble_eq_true rfl⟩ rfl rfl rfl (by decide) rfl rfl rfl rfl rfl (Nat.le_of_ble_eq_true rfl) (Nat.zero_le _) (Nat.zero_le _) dX1_greatestPart_46 (fun r_6 u_7 w_8 => ?_)
              try dsimp only at w_8
              subst w_8
              obtain ⟨hx, hhx, hxe⟩ := nH_nat (t := i) (by omega) hPl hD1 hgn (by omega) (by omega) hwd
              rw [← hD2, ← hgr] at hxe
              have hxc : tlH P wd dy gr k i = hx := by show Int32.toNatClampNeg _ = _; rw [hxe]; exact nI_clamp (by omega)
              refine J_top (y := nI hx) hxe ?_
              refine J_istore (pc := 49) X [(6, .int (nI hx)), (0, .ref qg), (1, .ref q), (2, .ref ql), (3, .int (nI k)), (4, .int mo), (5, .int (nI i))] dX1_greatestPart_49 (by decide) rfl ?_
              refine J_iload (pc := 51) X 0 dX1_greatestPart_51 rfl ?_
              refine J_if_lt (pc := 53) X 106 dX1_greatestPart_53 (by decide) (fun c_9 => ?_) (fun c_9 => ?_)
              · have c_9 : hx < 0 := n_lt_of (a := hx) (b := 0) (by omega) (by omega) c_9
                exfalso; omega
              · have c_9 : 0 ≤ hx := n_nlt_of (a := hx) (b := 0) (by omega) (by omega) c_9
                refine J_iload (pc := 56) X 0 dX1_greatestPart_56 rfl ?_
                refine J_aload_n (pc := 58) X 1 dX1_greatestPart_58 rfl ?_
                refine J_get (pc := 59) X clX1 0 0 rfl (by decide) g211 rfl dX1_greatestPart_59 ?_
                refine J_alen (pc := 62) X 1 0 rfl rfl dX1_greatestPart_62 ?_
                refine J_icmp_ge (pc := 63) X 106 dX1_greatestPart_63 (by decide) (fun c_10 => ?_) (fun c_10 => ?_)
                · have c_10 : 300 ≤ hx := n_le_of (a := 300) (b := hx) (by omega) (by omega) c_10
                  exfalso; omega
                · have c_10 : hx < 300 := n_nle_of (a := 300) (b := hx) (by omega) (by omega) c_10
                  refine J_aload_n (pc := 66) X 1 dX1_greatestPart_66 rfl ?_
                  refine J_aload_n (pc := 67) X 2 dX1_greatestPart_67 rfl ?_
                  refine J_aload_n (pc := 68) X 3 dX1_greatestPart_68 rfl ?_
                  refine J_iload (pc := 69) X 6 dX1_greatestPart_69 rfl ?_
                  refine J_aload_n (pc := 71) X 2 dX1_greatestPart_71 rfl ?_
                  refine J_callR (pc := 72) (As := []) (rest := [.int (nI i), .ref ql, .ref q, .ref qg]) X mtX5_growth g782 [2] 0 (kX5_growth l G cI cC cZ q qd qh qp P gr wd g wk fr ) ⟨Nat.le_of_ble_eq_true rfl, Nat.le_of_ble_eq_true rfl⟩ rfl rfl rfl (by decide) rfl rfl rfl rfl rfl (Nat.le_of_ble_eq_true rfl) (Nat.zero_le _) (Nat.zero_le _) dX1_greatestPart_72 (fun r_11 u_12 w_13 => ?_)
                  try dsimp only at w_13
                  have w_13 := w_13.symm; subst w_13
                  refine J_callR (pc := 75) (As := [.ref q, .ref ql, .int (nI i), .int gr]) (rest := []) X mtX1_agree g783 [0, 2, 3, 4, 5, 6] 0 (kX1_agree l G cI cC cZ qg qgt q qd qh qp P gr wd g wk fr dyr ql qlf qls fn mx fs_ sc_ dy fd (nI i) gr (by first | assumption | omega) (by first | assumption | omega) (by first | assumption | omega) (by first | assumption | omega) (by first | assumption | omega) (by first | assumption | omega) (by first | assumption | omega) (by first | assumption | omega) (by first | assumption | omega) (by first | assumption | omega) (by first | assumption | omega)) ⟨Nat.le_of_ble_eq_true rfl, Nat.le_of_ble_eq_true rfl⟩ rfl rfl rfl (by decide) rfl rfl rfl rfl rfl (Nat.le_of_ble_eq_true rfl) (Nat.zero_le _) (Nat.zero_le _) dX1_greatestPart_75 (fun r_14 u_15 w_16 => ?_)
                  try dsimp only at w_16
                  subst w_16
                  refine J_bif_eq (pc := 78) X 106 dX1_greatestPart_78 (by decide) (fun c_17 => ?_) (fun c_17 => ?_)
                  · skip
                    refine J_iinc (pc := 106) X (nI (i + 1)) 6 [(5, .int (nI (i + 1))), (6, .int (nI hx)), (0, .ref qg), (1, .ref q), (2, .ref ql), (3, .int (nI k)), (4, .int mo)] dX1_greatestPart_106 rfl (n_add (x := i) (y := 1) rfl rfl (by omega)) (by decide) rfl ?_
                    refine J_goto (pc := 109) X 33 dX1_greatestPart_109 (by decide) ?_
                    refine J_loc [2, 3, 4, 5, 6, 0] (lv2 := [(0, .ref qg), (1, .ref q), (2, .ref ql), (3, .int (nI k)), (4, .int mo), (5, .int (nI (i + 1)))]) rfl ?_
                    exact ih_33  (i + 1) a1 mo (by first | assumption | omega | simp_all) (by first | exact ta_upd (by assumption) hxc (by omega) ha1 | (rw [ta_out (by assumption)]; exact ha1)) (by first | (rw [ta_out (by assumption)]; exact hmo) | (rw [← ta_max (by assumption) hxc (show hx < 300 from by omega) ha1 hmo]; try rw [upd_s]; done)) (by omega)
                  · skip
                    refine J_aload_n (pc := 81) X 1 dX1_greatestPart_81 rfl ?_
                    refine J_get (pc := 82) X clX1 0 0 rfl (by decide) g211 rfl dX1_greatestPart_82 ?_
                    refine J_iload (pc := 85) X 0 dX1_greatestPart_85 rfl ?_
                    refine J_dup2 (pc := 87) X dX1_greatestPart_87 rfl rfl ?_
                    refine J_iald (pc := 88) X 1 0 hx rfl rfl rfl (by omega) (by decide) dX1_greatestPart_88 ?_
                    refine J_iconst (pc := 89) X 1 dX1_greatestPart_89 (by decide) ?_
                    refine J_iadd (pc := 90) X dX1_greatestPart_90 ?_
                    refine J_iast (pc := 91) X 1 0 hx [(qg, .inr (1, [.ref qgt])), (qgt, .inl (cI, 300, .inl (upd a1 hx ((a1 hx) + 1)))), (q, .inr (5, [.int (nI P), .int gr, .int (nI wd), .int (nI g), .int (nI wk), .int fr, .ref qd, .ref qh, .ref qp])), (qd, .inl (cI, 8, .inl dyr)), (ql, .inr (3, [.ref qlf, .ref qls, .int (nI fn)])), (qlf, .inl (cI, mx, .inl fs_)), (qls, .inl (cI, mx, .inl sc_))] rfl rfl rfl (by omega) (by decide) rfl dX1_greatestPart_91 ?_
                    refine J_iload (pc := 92) X 5 dX1_greatestPart_92 rfl ?_
                    refine J_aload_n (pc := 94) X 1 dX1_greatestPart_94 rfl ?_
                    refine J_get (pc := 95) X clX1 0 0 rfl (by decide) g211 rfl dX1_greatestPart_95 ?_
                    refine J_iload (pc := 98) X 0 dX1_greatestPart_98 rfl ?_
                    refine J_iald (pc := 100) X 1 0 hx rfl rfl rfl (by omega) (by decide) dX1_greatestPart_100 ?_
                    refine J_mmax (pc := 101) X g824 g193 g70 g194 (Nat.le_of_ble_eq_true rfl) (Nat.le_of_ble_eq_true rfl) (Nat.zero_le _) (Nat.zero_le _) dX1_greatestPart_101 ?_
                    refine J_istore (pc := 104) X [(4, .int (if mo < ((upd a1 hx ((a1 hx) + 1)) hx) then ((upd a1 hx ((a1 hx) + 1)) hx) else mo)), (6, .int (nI hx)), (0, .ref qg), (1, .ref q), (2, .ref ql), (3, .int (nI k)), (5, .int (nI i))] dX1_greatestPart_104 (by decide) rfl ?_
                    refine J_iinc (pc := 106) X (nI (i + 1)) 6 [(5, .int (nI (i + 1))), (4, .int (if mo < ((upd a1 hx ((a1 hx) + 1)) hx) then ((upd a1 hx ((a1 hx) + 1)) hx) else mo)), (6, .int (nI hx)), (0, .ref qg), (1, .ref q), (2, .ref ql), (3, .int (nI k))] dX1_greatestPart_106 rfl (n_add (x := i) (y := 1) rfl rfl (by omega)) (by decide) rfl ?_
                    refine J_goto (pc := 109) X 33 dX1_greatestPart_109 (by decide) ?_
                    refine J_loc [3, 4, 5, 6, 1, 0] (lv2 := [(0, .ref qg), (1, .ref q), (2, .ref ql), (3, .int (nI k)), (4, .int (if mo < ((upd a1 hx ((a1 hx) + 1)) hx) then ((upd a1 hx ((a1 hx) + 1)) hx) else mo)), (5, .int (nI (i + 1)))]) rfl ?_
                    exact ih_33  (i + 1) (upd a1 hx ((a1 hx) + 1)) (if mo < ((upd a1 hx ((a1 hx) + 1)) hx) then ((upd a1 hx ((a1 hx) + 1)) hx) else mo) (by first | assumption | omega | simp_all) (by first | exact ta_upd (by assumption) hxc (by omega) ha1 | (rw [ta_out (by assumption)]; exact ha1)) (by first | (rw [ta_out (by assumption)]; exact hmo) | (rw [← ta_max (by assumption) hxc (show hx < 300 from by omega) ha1 hmo]; try rw [upd_s]; done)) (by omega)
        refine J_loc [2, 3, 4, 5, 1, 0] (lv2 := [(0, .ref qg), (1, .ref q), (2, .ref ql), (3, .int (nI k)), (4, .int 0), (5, .int 0)]) rfl ?_
        exact L_33 _  0 a0 0 (by first | assumption | omega | simp_all) (fun x9 h9 => ha0 x9 (by omega)) rfl (Nat.lt_succ_self _)
      · have c_1 : j < 300 := n_nle_of (a := 300) (b := j) (by omega) (by omega) c_1
        refine J_aload_n (pc := 13) X 0 dX1_greatestPart_13 rfl ?_
        refine J_get (pc := 14) X clX1 0 0 rfl (by decide) g211 rfl dX1_greatestPart_14 ?_
        refine J_iload (pc := 17) X 4 dX1_greatestPart_17 rfl ?_
        refine J_iconst (pc := 19) X 0 dX1_greatestPart_19 (by decide) ?_
        refine J_iast (pc := 20) X 1 0 j [(qg, .inr (1, [.ref qgt])), (qgt, .inl (cI, 300, .inl (upd a0 j 0))), (q, .inr (5, [.int (nI P), .int gr, .int (nI wd), .int (nI g), .int (nI wk), .int fr, .ref qd, .ref qh, .ref qp])), (qd, .inl (cI, 8, .inl dyr)), (ql, .inr (3, [.ref qlf, .ref qls, .int (nI fn)])), (qlf, .inl (cI, mx, .inl fs_)), (qls, .inl (cI, mx, .inl sc_))] rfl rfl rfl (by omega) (by decide) rfl dX1_greatestPart_20 ?_
        refine J_iinc (pc := 21) X (nI (j + 1)) 4 [(4, .int (nI (j + 1))), (0, .ref qg), (1, .ref q), (2, .ref ql), (3, .int (nI k))] dX1_greatestPart_21 rfl (n_add (x := j) (y := 1) rfl rfl (by omega)) (by decide) rfl ?_
        refine J_goto (pc := 24) X 3 dX1_greatestPart_24 (by decide) ?_
        refine J_loc [1, 2, 3, 4, 0] (lv2 := [(0, .ref qg), (1, .ref q), (2, .ref ql), (3, .int (nI k)), (4, .int (nI (j + 1)))]) rfl ?_
        exact ih_3  (j + 1) (upd a0 j 0) (by first | assumption | omega | simp_all) (fill_step ha0) (by omega)
  refine J_loc [1, 2, 3, 4, 0] (lv2 := [(0, .ref qg), (1, .ref q), (2, .ref ql), (3, .int (nI k)), (4, .int 0)]) rfl ?_
  exact L_3 _  0 tl_ (by first | assumption | omega | simp_all) (fun x9 h9 => absurd h9 (by omega)) (Nat.lt_succ_self _)
set_option maxRecDepth 100000 in
set_option maxHeartbeats 600000 in
theorem kX1_bestGap (l : Launch) (G : va_G) (cI cC cZ : ClassId) (qg : Nat) (qgt : Nat) (q : Nat) (qd : Nat) (qh : Nat) (qp : Nat) (P : Nat) (gr : Int32) (wd : Nat) (g : Nat) (wk : Nat) (fr : Int32) (dyr : Nat → Int32) (ql : Nat) (qlf : Nat) (qls : Nat) (fn : Nat) (mx : Nat) (fs_ : Nat → Int32) (sc_ : Nat → Int32) (dy : Nat → Int32) (fd : Nat → Int32) (tl_ : Nat → Int32) (gn : Nat) (mz_ : Int32) (hPl : P ≤ 60) (hg : g ≤ 8) (hwk : wk ≤ 4) (hwd : wd ≤ 50) (hP0 : 0 < g → 0 < P) (hdy : ∀ k, k < g → dyr k = dy k) (hwd0 : 0 < g → 0 < wd) (hn : fn ≤ mx) (hmx : mx ≤ 1000) (hfd : okFd g fn fd) (hfs : ∀ i9, i9 < fn → fs_ i9 = fd (2 * i9) ∧ sc_ i9 = fd (2 * i9 + 1)) (hgr : gr = nI gn) (hgn : gn ≤ 40) (hgp : okGp g dy) : CI l G (tys3 cI cC cZ) yX1_bestGap cX1_bestGap 8 (some .int) ({ frames := 5, cells := 0, slots := 0, locals := 120 }) [.ref qg, .ref q, .ref ql, .int mz_] [(qg, .inr (1, [.ref qgt])), (qgt, .inl (cI, 300, .inl tl_)), (q, .inr (5, [.int (nI P), .int gr, .int (nI wd), .int (nI g), .int (nI wk), .int fr, .ref qd, .ref qh, .ref qp])), (qd, .inl (cI, 8, .inl dyr)), (ql, .inr (3, [.ref qlf, .ref qls, .int (nI fn)])), (qlf, .inl (cI, mx, .inl fs_)), (qls, .inl (cI, mx, .inl sc_))] (S := (Nat → Int32)) (fun (r : Int32) (u : (Nat → Int32)) => r = (laTo (alK P wd fn dy fd gr) mz_ g).1) (fun (u : (Nat → Int32)) => [(qg, .inr (1, [.ref qgt])), (qgt, .inl (cI, 300, .inl u)), (q, .inr (5, [.int (nI P), .int gr, .int (nI wd), .int (nI g), .int (nI wk), .int fr, .ref qd, .ref qh, .ref qp])), (qd, .inl (cI, 8, .inl dyr)), (ql, .inr (3, [.ref qlf, .ref qls, .int (nI fn)])), (qlf, .inl (cI, mx, .inl fs_)), (qls, .inl (cI, mx, .inl sc_))]) := by
  refine CI.intro (by decide) (Nat.le_of_ble_eq_true rfl) ?_
  intro p0 e0 s0 m0 ar0 be0 me0 c0 A0 X hr
  refine J_iconst (pc := 0) X (-1) dX1_bestGap_0 (by decide) ?_
  refine J_istore (pc := 1) X [(4, .int (-1)), (0, .ref qg), (1, .ref q), (2, .ref ql), (3, .int mz_)] dX1_bestGap_1 (by decide) rfl ?_
  refine J_iload_n (pc := 3) X 4 dX1_bestGap_3 rfl ?_
  refine J_istore (pc := 4) X [(5, .int mz_), (4, .int (-1)), (0, .ref qg), (1, .ref q), (2, .ref ql), (3, .int mz_)] dX1_bestGap_4 (by decide) rfl ?_
  refine J_iconst (pc := 6) X 0 dX1_bestGap_6 (by decide) ?_
  refine J_istore (pc := 7) X [(6, .int 0), (5, .int mz_), (4, .int (-1)), (0, .ref qg), (1, .ref q), (2, .ref ql), (3, .int mz_)] dX1_bestGap_7 (by decide) rfl ?_
  have L_9 : ∀ (n_9 : Nat) (k : Nat) (be : Int32) (le_ : Int32) (a1 : Nat → Int32) (hk : k ≤ g) (hla : (be, le_) = laTo (alK P wd fn dy fd gr) mz_ k), (g - k) < n_9 → JJ p0 l e0 ({ frames := 5, cells := 0, slots := 0, locals := 120 }) s0 m0 ar0 be0 me0 c0 A0 G 8 0 0 (QI be0 ar0 s0 A0 G (tys3 cI cC cZ) (S := (Nat → Int32)) (fun (r : Int32) (u : (Nat → Int32)) => r = (laTo (alK P wd fn dy fd gr) mz_ g).1) (fun (u : (Nat → Int32)) => [(qg, .inr (1, [.ref qgt])), (qgt, .inl (cI, 300, .inl u)), (q, .inr (5, [.int (nI P), .int gr, .int (nI wd), .int (nI g), .int (nI wk), .int fr, .ref qd, .ref qh, .ref qp])), (qd, .inl (cI, 8, .inl dyr)), (ql, .inr (3, [.ref qlf, .ref qls, .int (nI fn)])), (qlf, .inl (cI, mx, .inl fs_)), (qls, .inl (cI, mx, .inl sc_))])) [(qg, .inr (1, [.ref qgt])), (qgt, .inl (cI, 300, .inl a1)), (q, .inr (5, [.int (nI P), .int gr, .int (nI wd), .int (nI g), .int (nI wk), .int fr, .ref qd, .ref qh, .ref qp])), (qd, .inl (cI, 8, .inl dyr)), (ql, .inr (3, [.ref qlf, .ref qls, .int (nI fn)])), (qlf, .inl (cI, mx, .inl fs_)), (qls, .inl (cI, mx, .inl sc_))] 9 [(0, .ref qg), (1, .ref q), (2, .ref ql), (3, .int mz_), (4, .int be), (5, .int le_), (6, .int (nI k))] [] := by
    intro n_9
    induction n_9 with
    | zero => intro k be le_ a1 hk hla hm_9; exact absurd hm_9 (Nat.not_lt_zero _)
    | succ n_9 ih_9 =>
      intro k be le_ a1 hk hla hm_9
      refine J_iload (pc := 9) X 6 dX1_bestGap_9 rfl ?_
      refine J_aload_n (pc := 11) X 1 dX1_bestGap_11 rfl ?_
      refine J_callR (pc := 12) (As := []) (rest := [.int (nI k)]) X mtX5_gapCount g818 [2] 0 (kX5_gapCount l G cI cC cZ q qd qh qp P gr wd g wk fr ) ⟨Nat.le_of_ble_eq_true rfl, Nat.le_of_ble_eq_true rfl⟩ rfl rfl rfl (by decide) rfl rfl rfl rfl rfl (Nat.le_of_ble_eq_true rfl) (Nat.zero_le _) (Nat.zero_le _) dX1_bestGap_12 (fun r_1 u_2 w_3 => ?_)
      try dsimp only at w_3
      subst w_3
      refine J_icmp_ge (pc := 15) X 49 dX1_bestGap_15 (by decide) (fun c_4 => ?_) (fun c_4 => ?_)
      · have c_4 : g ≤ k := n_le_of (a := g) (b := k) (by omega) (by omega) c_4
        refine J_iload (pc := 49) X 4 dX1_bestGap_49 rfl ?_
        refine J_iret (pc := 51) X hr a1 dX1_bestGap_51 ?_ rfl
        rw [show g = k from by omega, ← hla]
      · have c_4 : k < g := n_nle_of (a := g) (b := k) (by omega) (by omega) c_4
        refine J_aload_n (pc := 18) X 0 dX1_bestGap_18 rfl ?_
        refine J_aload_n (pc := 19) X 1 dX1_bestGap_19 rfl ?_
        refine J_aload_n (pc := 20) X 2 dX1_bestGap_20 rfl ?_
        refine J_iload (pc := 21) X 6 dX1_bestGap_21 rfl ?_
        refine J_callI (pc := 23) (As := [.ref q, .ref ql, .int (nI k)]) (rest := []) X mtX1_greatestPart g819 [0, 1, 2, 3, 4, 5, 6] [] [0, 1, 2, 3, 4, 5, 6] 0 (fun u => [(qg, .inr (1, [.ref qgt])), (qgt, .inl (cI, 300, .inl u)), (q, .inr (5, [.int (nI P), .int gr, .int (nI wd), .int (nI g), .int (nI wk), .int fr, .ref qd, .ref qh, .ref qp])), (qd, .inl (cI, 8, .inl dyr)), (ql, .inr (3, [.ref qlf, .ref qls, .int (nI fn)])), (qlf, .inl (cI, mx, .inl fs_)), (qls, .inl (cI, mx, .inl sc_))]) (kX1_greatestPart l G cI cC cZ qg qgt q qd qh qp P gr wd g wk fr dyr ql qlf qls fn mx fs_ sc_ dy fd a1 gn k (by first | assumption | omega) (by first | assumption | omega) (by first | assumption | omega) (by first | assumption | omega) (by first | assumption | omega) (by first | assumption | omega) (by first | assumption | omega) (by first | assumption | omega) (by first | assumption | omega) (by first | assumption | omega) (by first | assumption | omega) (by first | assumption | omega) (by first | assumption | omega) (by first | assumption | omega) (by first | assumption | omega)) ⟨Nat.le_of_ble_eq_true rfl, Nat.le_of_ble_eq_true rfl⟩ rfl rfl rfl (by decide) (wr := []) rfl (by decide) (by decide) (fun _ => rfl) (by decide) rfl rfl rfl rfl rfl (Nat.le_of_ble_eq_true rfl) (Nat.zero_le _) (Nat.zero_le _) dX1_bestGap_23 (fun r_5 u_6 w_7 => ?_)
        obtain ⟨tl2_u_6, rfl⟩ : ∃ z, z = u_6 := ⟨_, rfl⟩
        try dsimp only at w_7
        try dsimp only at w_7
        subst w_7
        refine J_istore (pc := 26) X [(7, .int (alK P wd fn dy fd gr k)), (0, .ref qg), (1, .ref q), (2, .ref ql), (3, .int mz_), (4, .int be), (5, .int le_), (6, .int (nI k))] dX1_bestGap_26 (by decide) rfl ?_
        refine J_iload (pc := 28) X 0 dX1_bestGap_28 rfl ?_
        refine J_iload (pc := 30) X 6 dX1_bestGap_30 rfl ?_
        refine J_icmp_ge (pc := 32) X 43 dX1_bestGap_32 (by decide) (fun c_8 => ?_) (fun c_8 => ?_)
        · have c_8 := Int32.not_lt.mpr c_8
          refine J_iinc (pc := 43) X (nI (k + 1)) 7 [(6, .int (nI (k + 1))), (7, .int (alK P wd fn dy fd gr k)), (0, .ref qg), (1, .ref q), (2, .ref ql), (3, .int mz_), (4, .int be), (5, .int le_)] dX1_bestGap_43 rfl (n_add (x := k) (y := 1) rfl rfl (by omega)) (by decide) rfl ?_
          refine J_goto (pc := 46) X 9 dX1_bestGap_46 (by decide) ?_
          refine J_loc [2, 3, 4, 5, 6, 7, 0] (lv2 := [(0, .ref qg), (1, .ref q), (2, .ref ql), (3, .int mz_), (4, .int be), (5, .int le_), (6, .int (nI (k + 1)))]) rfl ?_
          exact ih_9  (k + 1) be le_ tl2_u_6 (by first | assumption | omega | simp_all) (by first | exact la_in hla (by assumption) | exact la_out hla (by assumption)) (by omega)
        · have c_8 := Int32.not_le.mp c_8
          refine J_iload (pc := 35) X 7 dX1_bestGap_35 rfl ?_
          refine J_istore (pc := 37) X [(4, .int (nI k)), (7, .int (alK P wd fn dy fd gr k)), (0, .ref qg), (1, .ref q), (2, .ref ql), (3, .int mz_), (5, .int le_), (6, .int (nI k))] dX1_bestGap_37 (by decide) rfl ?_
          refine J_iload (pc := 39) X 1 dX1_bestGap_39 rfl ?_
          refine J_istore (pc := 41) X [(5, .int (alK P wd fn dy fd gr k)), (4, .int (nI k)), (7, .int (alK P wd fn dy fd gr k)), (0, .ref qg), (1, .ref q), (2, .ref ql), (3, .int mz_), (6, .int (nI k))] dX1_bestGap_41 (by decide) rfl ?_
          refine J_iinc (pc := 43) X (nI (k + 1)) 7 [(6, .int (nI (k + 1))), (5, .int (alK P wd fn dy fd gr k)), (4, .int (nI k)), (7, .int (alK P wd fn dy fd gr k)), (0, .ref qg), (1, .ref q), (2, .ref ql), (3, .int mz_)] dX1_bestGap_43 rfl (n_add (x := k) (y := 1) rfl rfl (by omega)) (by decide) rfl ?_
          refine J_goto (pc := 46) X 9 dX1_bestGap_46 (by decide) ?_
          refine J_loc [4, 5, 6, 7, 2, 1, 0] (lv2 := [(0, .ref qg), (1, .ref q), (2, .ref ql), (3, .int mz_), (4, .int (nI k)), (5, .int (alK P wd fn dy fd gr k)), (6, .int (nI (k + 1)))]) rfl ?_
          exact ih_9  (k + 1) (nI k) (alK P wd fn dy fd gr k) tl2_u_6 (by first | assumption | omega | simp_all) (by first | exact la_in hla (by assumption) | exact la_out hla (by assumption)) (by omega)
  refine J_loc [3, 4, 5, 6, 2, 1, 0] (lv2 := [(0, .ref qg), (1, .ref q), (2, .ref ql), (3, .int mz_), (4, .int (-1)), (5, .int mz_), (6, .int 0)]) rfl ?_
  exact L_9 _  0 (-1) mz_ tl_ (by first | assumption | omega | simp_all) rfl (Nat.lt_succ_self _)
