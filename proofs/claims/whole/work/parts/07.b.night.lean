set_option maxRecDepth 100000 in
set_option maxHeartbeats 600000 in
theorem kX9_fault (l : Launch) (G : va_G) (cI cC cZ : ClassId) (qx : Nat) (q : Nat) (qq : Nat) (qr : Nat) (qs : Nat) (qt : Nat) (qpa : Nat) (qi : Nat) (ql : Nat) (qb : Nat) (qg : Nat) (qw : Nat) (qn : Nat) (qrl : Nat) (ln : Nat) (at_ : Nat) (fk : Nat) (fa : Int32) : CI l G (tys3 cI cC cZ) yX9_fault cX9_fault 1 (some .int) ({ frames := 1, cells := 0, slots := 0, locals := 20 }) [.ref qx] [(qx, .inr (9, [.ref q, .ref qq, .ref qr, .ref qs, .ref qt, .ref qpa, .ref qi, .ref ql, .ref qb, .ref qg, .ref qw, .ref qn])), (qr, .inr (6, [.ref qrl, .int (nI ln), .int (nI at_), .int (nI fk), .int fa]))] (S := Unit) (fun (r : Int32) (u : Unit) => r = fa) (fun _ => [(qx, .inr (9, [.ref q, .ref qq, .ref qr, .ref qs, .ref qt, .ref qpa, .ref qi, .ref ql, .ref qb, .ref qg, .ref qw, .ref qn])), (qr, .inr (6, [.ref qrl, .int (nI ln), .int (nI at_), .int (nI fk), .int fa]))]) := by
  refine CI.intro (by decide) (Nat.le_of_ble_eq_true rfl) ?_
  intro p0 e0 s0 m0 ar0 be0 me0 c0 A0 X hr
  refine J_aload_n (pc := 0) X 0 dX9_fault_0 rfl ?_
  refine J_get (pc := 1) X clX9 0 2 rfl (by decide) g243 rfl dX9_fault_1 ?_
  refine J_callR (pc := 4) (As := []) (rest := []) X mtX6_faultPlace g428 [1] 0 (kX6_faultPlace l G cI cC cZ qr qrl ln at_ fk fa ) ⟨Nat.le_of_ble_eq_true rfl, Nat.le_of_ble_eq_true rfl⟩ rfl rfl rfl (by decide) rfl rfl rfl rfl rfl (Nat.le_of_ble_eq_true rfl) (Nat.zero_le _) (Nat.zero_le _) dX9_fault_4 (fun r_1 u_2 w_3 => ?_)
  try dsimp only at w_3
  have w_3 := w_3.symm; subst w_3
  refine J_iret (pc := 7) X hr () dX9_fault_7 ?_ rfl
  rfl
set_option maxRecDepth 100000 in
set_option maxHeartbeats 600000 in
theorem kX9_areTwoHouses (l : Launch) (G : va_G) (cI cC cZ : ClassId) (qx : Nat) (q : Nat) (qq : Nat) (qr : Nat) (qs : Nat) (qt : Nat) (qpa : Nat) (qi : Nat) (ql : Nat) (qb : Nat) (qg : Nat) (qw : Nat) (qn : Nat) (qd : Nat) (qh : Nat) (qp : Nat) (P : Nat) (gr : Int32) (wd : Nat) (g : Nat) (wk : Nat) (fr : Int32) (hs : Nat) (x : Int32) (y : Int32) (hPl : P ≤ 60) (hg : g ≤ 8) (hwk : wk ≤ 4) (hwd : wd ≤ 50) (hhs : (g = 0 ∧ hs = 0) ∨ (0 < g ∧ hs = g + 1)) : CI l G (tys3 cI cC cZ) yX9_areTwoHouses cX9_areTwoHouses 3 (some .boolean) ({ frames := 2, cells := 0, slots := 0, locals := 41 }) [.ref qx, .int x, .int y] [(qx, .inr (9, [.ref q, .ref qq, .ref qr, .ref qs, .ref qt, .ref qpa, .ref qi, .ref ql, .ref qb, .ref qg, .ref qw, .ref qn])), (q, .inr (5, [.int (nI P), .int gr, .int (nI wd), .int (nI g), .int (nI wk), .int fr, .ref qd, .ref qh, .ref qp]))] (S := Unit) (fun (r : Int32) (u : Unit) => r = bI (two x y hs)) (fun _ => [(qx, .inr (9, [.ref q, .ref qq, .ref qr, .ref qs, .ref qt, .ref qpa, .ref qi, .ref ql, .ref qb, .ref qg, .ref qw, .ref qn])), (q, .inr (5, [.int (nI P), .int gr, .int (nI wd), .int (nI g), .int (nI wk), .int fr, .ref qd, .ref qh, .ref qp]))]) := by
  refine CI.intro (by decide) (Nat.le_of_ble_eq_true rfl) ?_
  intro p0 e0 s0 m0 ar0 be0 me0 c0 A0 X hr
  refine J_aload_n (pc := 0) X 0 dX9_areTwoHouses_0 rfl ?_
  refine J_get (pc := 1) X clX9 0 0 rfl (by decide) g241 rfl dX9_areTwoHouses_1 ?_
  refine J_iload_n (pc := 4) X 1 dX9_areTwoHouses_4 rfl ?_
  refine J_callR (pc := 5) (As := [.int x]) (rest := []) X mtX5_hasHouse g672 [1] 0 (kX5_hasHouse l G cI cC cZ q qd qh qp P gr wd g wk fr x hs (by first | assumption | omega) (by first | assumption | omega) (by first | assumption | omega) (by first | assumption | omega) (by first | assumption | omega)) ⟨Nat.le_of_ble_eq_true rfl, Nat.le_of_ble_eq_true rfl⟩ rfl rfl rfl (by decide) rfl rfl rfl rfl rfl (Nat.le_of_ble_eq_true rfl) (Nat.zero_le _) (Nat.zero_le _) dX9_areTwoHouses_5 (fun r_1 u_2 w_3 => ?_)
  try dsimp only at w_3
  subst w_3
  refine J_bif_eq (pc := 8) X 31 dX9_areTwoHouses_8 (by decide) (fun c_4 => ?_) (fun c_4 => ?_)
  · skip
    refine J_iconst (pc := 31) X 0 dX9_areTwoHouses_31 (by decide) ?_
    refine J_zret (pc := 32) X hr () rfl dX9_areTwoHouses_32 ?_ rfl
    first | exact (bI_t ⟨by assumption, by assumption, by assumption⟩).symm | exact (bI_f (fun z => absurd z.1 (by assumption))).symm | exact (bI_f (fun z => absurd z.2.1 (by assumption))).symm | exact (bI_f (fun z => absurd (by assumption) z.2.2)).symm
  · skip
    refine J_aload_n (pc := 11) X 0 dX9_areTwoHouses_11 rfl ?_
    refine J_get (pc := 12) X clX9 0 0 rfl (by decide) g241 rfl dX9_areTwoHouses_12 ?_
    refine J_iload_n (pc := 15) X 2 dX9_areTwoHouses_15 rfl ?_
    refine J_callR (pc := 16) (As := [.int y]) (rest := []) X mtX5_hasHouse g672 [1] 0 (kX5_hasHouse l G cI cC cZ q qd qh qp P gr wd g wk fr y hs (by first | assumption | omega) (by first | assumption | omega) (by first | assumption | omega) (by first | assumption | omega) (by first | assumption | omega)) ⟨Nat.le_of_ble_eq_true rfl, Nat.le_of_ble_eq_true rfl⟩ rfl rfl rfl (by decide) rfl rfl rfl rfl rfl (Nat.le_of_ble_eq_true rfl) (Nat.zero_le _) (Nat.zero_le _) dX9_areTwoHouses_16 (fun r_5 u_6 w_7 => ?_)
    try dsimp only at w_7
    subst w_7
    refine J_bif_eq (pc := 19) X 31 dX9_areTwoHouses_19 (by decide) (fun c_8 => ?_) (fun c_8 => ?_)
    · skip
      refine J_iconst (pc := 31) X 0 dX9_areTwoHouses_31 (by decide) ?_
      refine J_zret (pc := 32) X hr () rfl dX9_areTwoHouses_32 ?_ rfl
      first | exact (bI_t ⟨by assumption, by assumption, by assumption⟩).symm | exact (bI_f (fun z => absurd z.1 (by assumption))).symm | exact (bI_f (fun z => absurd z.2.1 (by assumption))).symm | exact (bI_f (fun z => absurd (by assumption) z.2.2)).symm
    · skip
      refine J_iload_n (pc := 22) X 1 dX9_areTwoHouses_22 rfl ?_
      refine J_iload_n (pc := 23) X 2 dX9_areTwoHouses_23 rfl ?_
      refine J_icmp_eq (pc := 24) X 31 dX9_areTwoHouses_24 (by decide) (fun c_9 => ?_) (fun c_9 => ?_)
      · skip
        refine J_iconst (pc := 31) X 0 dX9_areTwoHouses_31 (by decide) ?_
        refine J_zret (pc := 32) X hr () rfl dX9_areTwoHouses_32 ?_ rfl
        first | exact (bI_t ⟨by assumption, by assumption, by assumption⟩).symm | exact (bI_f (fun z => absurd z.1 (by assumption))).symm | exact (bI_f (fun z => absurd z.2.1 (by assumption))).symm | exact (bI_f (fun z => absurd (by assumption) z.2.2)).symm
      · skip
        refine J_iconst (pc := 27) X 1 dX9_areTwoHouses_27 (by decide) ?_
        refine J_goto (pc := 28) X 32 dX9_areTwoHouses_28 (by decide) ?_
        refine J_zret (pc := 32) X hr () rfl dX9_areTwoHouses_32 ?_ rfl
        first | exact (bI_t ⟨by assumption, by assumption, by assumption⟩).symm | exact (bI_f (fun z => absurd z.1 (by assumption))).symm | exact (bI_f (fun z => absurd z.2.1 (by assumption))).symm | exact (bI_f (fun z => absurd (by assumption) z.2.2)).symm
set_option maxRecDepth 100000 in
set_option maxHeartbeats 600000 in
theorem kX9_areTwoWalkers (l : Launch) (G : va_G) (cI cC cZ : ClassId) (qx : Nat) (q : Nat) (qq : Nat) (qr : Nat) (qs : Nat) (qt : Nat) (qpa : Nat) (qi : Nat) (ql : Nat) (qb : Nat) (qg : Nat) (qw : Nat) (qn : Nat) (qd : Nat) (qh : Nat) (qp : Nat) (P : Nat) (gr : Int32) (wd : Nat) (g : Nat) (wk : Nat) (fr : Int32) (x : Int32) (y : Int32) (hPl : P ≤ 60) (hg : g ≤ 8) (hwk : wk ≤ 4) (hwd : wd ≤ 50) : CI l G (tys3 cI cC cZ) yX9_areTwoWalkers cX9_areTwoWalkers 3 (some .boolean) ({ frames := 1, cells := 0, slots := 0, locals := 21 }) [.ref qx, .int x, .int y] [(qx, .inr (9, [.ref q, .ref qq, .ref qr, .ref qs, .ref qt, .ref qpa, .ref qi, .ref ql, .ref qb, .ref qg, .ref qw, .ref qn])), (q, .inr (5, [.int (nI P), .int gr, .int (nI wd), .int (nI g), .int (nI wk), .int fr, .ref qd, .ref qh, .ref qp]))] (S := Unit) (fun (r : Int32) (u : Unit) => r = bI (two x y wk)) (fun _ => [(qx, .inr (9, [.ref q, .ref qq, .ref qr, .ref qs, .ref qt, .ref qpa, .ref qi, .ref ql, .ref qb, .ref qg, .ref qw, .ref qn])), (q, .inr (5, [.int (nI P), .int gr, .int (nI wd), .int (nI g), .int (nI wk), .int fr, .ref qd, .ref qh, .ref qp]))]) := by
  refine CI.intro (by decide) (Nat.le_of_ble_eq_true rfl) ?_
  intro p0 e0 s0 m0 ar0 be0 me0 c0 A0 X hr
  refine J_aload_n (pc := 0) X 0 dX9_areTwoWalkers_0 rfl ?_
  refine J_get (pc := 1) X clX9 0 0 rfl (by decide) g241 rfl dX9_areTwoWalkers_1 ?_
  refine J_iload_n (pc := 4) X 1 dX9_areTwoWalkers_4 rfl ?_
  refine J_callR (pc := 5) (As := [.int x]) (rest := []) X mtX5_hasWalker g511 [1] 0 (kX5_hasWalker l G cI cC cZ q qd qh qp P gr wd g wk fr x (by first | assumption | omega) (by first | assumption | omega) (by first | assumption | omega) (by first | assumption | omega)) ⟨Nat.le_of_ble_eq_true rfl, Nat.le_of_ble_eq_true rfl⟩ rfl rfl rfl (by decide) rfl rfl rfl rfl rfl (Nat.le_of_ble_eq_true rfl) (Nat.zero_le _) (Nat.zero_le _) dX9_areTwoWalkers_5 (fun r_1 u_2 w_3 => ?_)
  try dsimp only at w_3
  subst w_3
  refine J_bif_eq (pc := 8) X 31 dX9_areTwoWalkers_8 (by decide) (fun c_4 => ?_) (fun c_4 => ?_)
  · skip
    refine J_iconst (pc := 31) X 0 dX9_areTwoWalkers_31 (by decide) ?_
    refine J_zret (pc := 32) X hr () rfl dX9_areTwoWalkers_32 ?_ rfl
    first | exact (bI_t ⟨by assumption, by assumption, by assumption⟩).symm | exact (bI_f (fun z => absurd z.1 (by assumption))).symm | exact (bI_f (fun z => absurd z.2.1 (by assumption))).symm | exact (bI_f (fun z => absurd (by assumption) z.2.2)).symm
  · skip
    refine J_aload_n (pc := 11) X 0 dX9_areTwoWalkers_11 rfl ?_
    refine J_get (pc := 12) X clX9 0 0 rfl (by decide) g241 rfl dX9_areTwoWalkers_12 ?_
    refine J_iload_n (pc := 15) X 2 dX9_areTwoWalkers_15 rfl ?_
    refine J_callR (pc := 16) (As := [.int y]) (rest := []) X mtX5_hasWalker g511 [1] 0 (kX5_hasWalker l G cI cC cZ q qd qh qp P gr wd g wk fr y (by first | assumption | omega) (by first | assumption | omega) (by first | assumption | omega) (by first | assumption | omega)) ⟨Nat.le_of_ble_eq_true rfl, Nat.le_of_ble_eq_true rfl⟩ rfl rfl rfl (by decide) rfl rfl rfl rfl rfl (Nat.le_of_ble_eq_true rfl) (Nat.zero_le _) (Nat.zero_le _) dX9_areTwoWalkers_16 (fun r_5 u_6 w_7 => ?_)
    try dsimp only at w_7
    subst w_7
    refine J_bif_eq (pc := 19) X 31 dX9_areTwoWalkers_19 (by decide) (fun c_8 => ?_) (fun c_8 => ?_)
    · skip
      refine J_iconst (pc := 31) X 0 dX9_areTwoWalkers_31 (by decide) ?_
      refine J_zret (pc := 32) X hr () rfl dX9_areTwoWalkers_32 ?_ rfl
      first | exact (bI_t ⟨by assumption, by assumption, by assumption⟩).symm | exact (bI_f (fun z => absurd z.1 (by assumption))).symm | exact (bI_f (fun z => absurd z.2.1 (by assumption))).symm | exact (bI_f (fun z => absurd (by assumption) z.2.2)).symm
    · skip
      refine J_iload_n (pc := 22) X 1 dX9_areTwoWalkers_22 rfl ?_
      refine J_iload_n (pc := 23) X 2 dX9_areTwoWalkers_23 rfl ?_
      refine J_icmp_eq (pc := 24) X 31 dX9_areTwoWalkers_24 (by decide) (fun c_9 => ?_) (fun c_9 => ?_)
      · skip
        refine J_iconst (pc := 31) X 0 dX9_areTwoWalkers_31 (by decide) ?_
        refine J_zret (pc := 32) X hr () rfl dX9_areTwoWalkers_32 ?_ rfl
        first | exact (bI_t ⟨by assumption, by assumption, by assumption⟩).symm | exact (bI_f (fun z => absurd z.1 (by assumption))).symm | exact (bI_f (fun z => absurd z.2.1 (by assumption))).symm | exact (bI_f (fun z => absurd (by assumption) z.2.2)).symm
      · skip
        refine J_iconst (pc := 27) X 1 dX9_areTwoWalkers_27 (by decide) ?_
        refine J_goto (pc := 28) X 32 dX9_areTwoWalkers_28 (by decide) ?_
        refine J_zret (pc := 32) X hr () rfl dX9_areTwoWalkers_32 ?_ rfl
        first | exact (bI_t ⟨by assumption, by assumption, by assumption⟩).symm | exact (bI_f (fun z => absurd z.1 (by assumption))).symm | exact (bI_f (fun z => absurd z.2.1 (by assumption))).symm | exact (bI_f (fun z => absurd (by assumption) z.2.2)).symm
