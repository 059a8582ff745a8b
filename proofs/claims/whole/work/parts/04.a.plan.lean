set_option maxRecDepth 100000 in
set_option maxHeartbeats 600000 in
theorem kX5_rise (l : Launch) (G : va_G) (cI cC cZ : ClassId) (q : Nat) (qd : Nat) (qh : Nat) (qp : Nat) (P : Nat) (gr : Int32) (wd : Nat) (g : Nat) (wk : Nat) (fr : Int32) : CI l G (tys3 cI cC cZ) yX5_rise cX5_rise 1 (some .int) ({ frames := 0, cells := 0, slots := 0, locals := 0 }) [.ref q] [(q, .inr (5, [.int (nI P), .int gr, .int (nI wd), .int (nI g), .int (nI wk), .int fr, .ref qd, .ref qh, .ref qp]))] (S := Unit) (fun (r : Int32) (u : Unit) => r = nI P) (fun _ => [(q, .inr (5, [.int (nI P), .int gr, .int (nI wd), .int (nI g), .int (nI wk), .int fr, .ref qd, .ref qh, .ref qp]))]) := by
  refine CI.intro (by decide) (Nat.le_of_ble_eq_true rfl) ?_
  intro p0 e0 s0 m0 ar0 be0 me0 c0 A0 X hr
  refine J_aload_n (pc := 0) X 0 dX5_rise_0 rfl ?_
  refine J_get (pc := 1) X clX5 0 0 rfl (by decide) g91 rfl dX5_rise_1 ?_
  refine J_iret (pc := 4) X hr () dX5_rise_4 ?_ rfl
  rfl
set_option maxRecDepth 100000 in
set_option maxHeartbeats 600000 in
theorem kX5_growth (l : Launch) (G : va_G) (cI cC cZ : ClassId) (q : Nat) (qd : Nat) (qh : Nat) (qp : Nat) (P : Nat) (gr : Int32) (wd : Nat) (g : Nat) (wk : Nat) (fr : Int32) : CI l G (tys3 cI cC cZ) yX5_growth cX5_growth 1 (some .int) ({ frames := 0, cells := 0, slots := 0, locals := 0 }) [.ref q] [(q, .inr (5, [.int (nI P), .int gr, .int (nI wd), .int (nI g), .int (nI wk), .int fr, .ref qd, .ref qh, .ref qp]))] (S := Unit) (fun (r : Int32) (u : Unit) => r = gr) (fun _ => [(q, .inr (5, [.int (nI P), .int gr, .int (nI wd), .int (nI g), .int (nI wk), .int fr, .ref qd, .ref qh, .ref qp]))]) := by
  refine CI.intro (by decide) (Nat.le_of_ble_eq_true rfl) ?_
  intro p0 e0 s0 m0 ar0 be0 me0 c0 A0 X hr
  refine J_aload_n (pc := 0) X 0 dX5_growth_0 rfl ?_
  refine J_get (pc := 1) X clX5 0 1 rfl (by decide) g92 rfl dX5_growth_1 ?_
  refine J_iret (pc := 4) X hr () dX5_growth_4 ?_ rfl
  rfl
set_option maxRecDepth 100000 in
set_option maxHeartbeats 600000 in
theorem kX5_width (l : Launch) (G : va_G) (cI cC cZ : ClassId) (q : Nat) (qd : Nat) (qh : Nat) (qp : Nat) (P : Nat) (gr : Int32) (wd : Nat) (g : Nat) (wk : Nat) (fr : Int32) : CI l G (tys3 cI cC cZ) yX5_width cX5_width 1 (some .int) ({ frames := 0, cells := 0, slots := 0, locals := 0 }) [.ref q] [(q, .inr (5, [.int (nI P), .int gr, .int (nI wd), .int (nI g), .int (nI wk), .int fr, .ref qd, .ref qh, .ref qp]))] (S := Unit) (fun (r : Int32) (u : Unit) => r = nI wd) (fun _ => [(q, .inr (5, [.int (nI P), .int gr, .int (nI wd), .int (nI g), .int (nI wk), .int fr, .ref qd, .ref qh, .ref qp]))]) := by
  refine CI.intro (by decide) (Nat.le_of_ble_eq_true rfl) ?_
  intro p0 e0 s0 m0 ar0 be0 me0 c0 A0 X hr
  refine J_aload_n (pc := 0) X 0 dX5_width_0 rfl ?_
  refine J_get (pc := 1) X clX5 0 2 rfl (by decide) g93 rfl dX5_width_1 ?_
  refine J_iret (pc := 4) X hr () dX5_width_4 ?_ rfl
  rfl
set_option maxRecDepth 100000 in
set_option maxHeartbeats 600000 in
theorem kX5_gapCount (l : Launch) (G : va_G) (cI cC cZ : ClassId) (q : Nat) (qd : Nat) (qh : Nat) (qp : Nat) (P : Nat) (gr : Int32) (wd : Nat) (g : Nat) (wk : Nat) (fr : Int32) : CI l G (tys3 cI cC cZ) yX5_gapCount cX5_gapCount 1 (some .int) ({ frames := 0, cells := 0, slots := 0, locals := 0 }) [.ref q] [(q, .inr (5, [.int (nI P), .int gr, .int (nI wd), .int (nI g), .int (nI wk), .int fr, .ref qd, .ref qh, .ref qp]))] (S := Unit) (fun (r : Int32) (u : Unit) => r = nI g) (fun _ => [(q, .inr (5, [.int (nI P), .int gr, .int (nI wd), .int (nI g), .int (nI wk), .int fr, .ref qd, .ref qh, .ref qp]))]) := by
  refine CI.intro (by decide) (Nat.le_of_ble_eq_true rfl) ?_
  intro p0 e0 s0 m0 ar0 be0 me0 c0 A0 X hr
  refine J_aload_n (pc := 0) X 0 dX5_gapCount_0 rfl ?_
  refine J_get (pc := 1) X clX5 0 3 rfl (by decide) g94 rfl dX5_gapCount_1 ?_
  refine J_iret (pc := 4) X hr () dX5_gapCount_4 ?_ rfl
  rfl
set_option maxRecDepth 100000 in
set_option maxHeartbeats 600000 in
theorem kX5_walkerCount (l : Launch) (G : va_G) (cI cC cZ : ClassId) (q : Nat) (qd : Nat) (qh : Nat) (qp : Nat) (P : Nat) (gr : Int32) (wd : Nat) (g : Nat) (wk : Nat) (fr : Int32) : CI l G (tys3 cI cC cZ) yX5_walkerCount cX5_walkerCount 1 (some .int) ({ frames := 0, cells := 0, slots := 0, locals := 0 }) [.ref q] [(q, .inr (5, [.int (nI P), .int gr, .int (nI wd), .int (nI g), .int (nI wk), .int fr, .ref qd, .ref qh, .ref qp]))] (S := Unit) (fun (r : Int32) (u : Unit) => r = nI wk) (fun _ => [(q, .inr (5, [.int (nI P), .int gr, .int (nI wd), .int (nI g), .int (nI wk), .int fr, .ref qd, .ref qh, .ref qp]))]) := by
  refine CI.intro (by decide) (Nat.le_of_ble_eq_true rfl) ?_
  intro p0 e0 s0 m0 ar0 be0 me0 c0 A0 X hr
  refine J_aload_n (pc := 0) X 0 dX5_walkerCount_0 rfl ?_
  refine J_get (pc := 1) X clX5 0 4 rfl (by decide) g95 rfl dX5_walkerCount_1 ?_
  refine J_iret (pc := 4) X hr () dX5_walkerCount_4 ?_ rfl
  rfl
set_option maxRecDepth 100000 in
set_option maxHeartbeats 600000 in
theorem kX5_ropesAtFirst (l : Launch) (G : va_G) (cI cC cZ : ClassId) (q : Nat) (qd : Nat) (qh : Nat) (qp : Nat) (P : Nat) (gr : Int32) (wd : Nat) (g : Nat) (wk : Nat) (fr : Int32) : CI l G (tys3 cI cC cZ) yX5_ropesAtFirst cX5_ropesAtFirst 1 (some .int) ({ frames := 0, cells := 0, slots := 0, locals := 0 }) [.ref q] [(q, .inr (5, [.int (nI P), .int gr, .int (nI wd), .int (nI g), .int (nI wk), .int fr, .ref qd, .ref qh, .ref qp]))] (S := Unit) (fun (r : Int32) (u : Unit) => r = fr) (fun _ => [(q, .inr (5, [.int (nI P), .int gr, .int (nI wd), .int (nI g), .int (nI wk), .int fr, .ref qd, .ref qh, .ref qp]))]) := by
  refine CI.intro (by decide) (Nat.le_of_ble_eq_true rfl) ?_
  intro p0 e0 s0 m0 ar0 be0 me0 c0 A0 X hr
  refine J_aload_n (pc := 0) X 0 dX5_ropesAtFirst_0 rfl ?_
  refine J_get (pc := 1) X clX5 0 5 rfl (by decide) g96 rfl dX5_ropesAtFirst_1 ?_
  refine J_iret (pc := 4) X hr () dX5_ropesAtFirst_4 ?_ rfl
  rfl
set_option maxRecDepth 100000 in
set_option maxHeartbeats 600000 in
theorem kX5_nightLength (l : Launch) (G : va_G) (cI cC cZ : ClassId) (q : Nat) (qd : Nat) (qh : Nat) (qp : Nat) (P : Nat) (gr : Int32) (wd : Nat) (g : Nat) (wk : Nat) (fr : Int32) (hPl : P ≤ 60) (hg : g ≤ 8) (hwk : wk ≤ 4) (hwd : wd ≤ 50) : CI l G (tys3 cI cC cZ) yX5_nightLength cX5_nightLength 1 (some .int) ({ frames := 0, cells := 0, slots := 0, locals := 0 }) [.ref q] [(q, .inr (5, [.int (nI P), .int gr, .int (nI wd), .int (nI g), .int (nI wk), .int fr, .ref qd, .ref qh, .ref qp]))] (S := Unit) (fun (r : Int32) (u : Unit) => r = nI (2 * P)) (fun _ => [(q, .inr (5, [.int (nI P), .int gr, .int (nI wd), .int (nI g), .int (nI wk), .int fr, .ref qd, .ref qh, .ref qp]))]) := by
  refine CI.intro (by decide) (Nat.le_of_ble_eq_true rfl) ?_
  intro p0 e0 s0 m0 ar0 be0 me0 c0 A0 X hr
  refine J_iconst (pc := 0) X 2 dX5_nightLength_0 (by decide) ?_
  refine J_aload_n (pc := 1) X 0 dX5_nightLength_1 rfl ?_
  refine J_get (pc := 2) X clX5 0 0 rfl (by decide) g91 rfl dX5_nightLength_2 ?_
  refine J_imul (pc := 5) X dX5_nightLength_5 ?_
  refine J_top (y := nI (2 * P)) (n_mul (x := 2) (y := P) rfl rfl (by omega)) ?_
  refine J_iret (pc := 6) X hr () dX5_nightLength_6 ?_ rfl
  rfl
set_option maxRecDepth 100000 in
set_option maxHeartbeats 600000 in
theorem kX5_isTold (l : Launch) (G : va_G) (cI cC cZ : ClassId) (q : Nat) (qd : Nat) (qh : Nat) (qp : Nat) (P : Nat) (gr : Int32) (wd : Nat) (g : Nat) (wk : Nat) (fr : Int32) (hPl : P ≤ 60) (hg : g ≤ 8) (hwk : wk ≤ 4) (hwd : wd ≤ 50) : CI l G (tys3 cI cC cZ) yX5_isTold cX5_isTold 1 (some .boolean) ({ frames := 0, cells := 0, slots := 0, locals := 0 }) [.ref q] [(q, .inr (5, [.int (nI P), .int gr, .int (nI wd), .int (nI g), .int (nI wk), .int fr, .ref qd, .ref qh, .ref qp]))] (S := Unit) (fun (r : Int32) (u : Unit) => r = bI (0 < P)) (fun _ => [(q, .inr (5, [.int (nI P), .int gr, .int (nI wd), .int (nI g), .int (nI wk), .int fr, .ref qd, .ref qh, .ref qp]))]) := by
  refine CI.intro (by decide) (Nat.le_of_ble_eq_true rfl) ?_
  intro p0 e0 s0 m0 ar0 be0 me0 c0 A0 X hr
  refine J_aload_n (pc := 0) X 0 dX5_isTold_0 rfl ?_
  refine J_get (pc := 1) X clX5 0 0 rfl (by decide) g91 rfl dX5_isTold_1 ?_
  refine J_if_le (pc := 4) X 11 dX5_isTold_4 (by decide) (fun c_1 => ?_) (fun c_1 => ?_)
  · have c_1 : P ≤ 0 := n_le_of (a := P) (b := 0) (by omega) (by omega) c_1
    refine J_iconst (pc := 11) X 0 dX5_isTold_11 (by decide) ?_
    refine J_zret (pc := 12) X hr () rfl dX5_isTold_12 ?_ rfl
    first | exact (bI_t (by omega)).symm | exact (bI_f (by omega)).symm
  · have c_1 : 0 < P := n_nle_of (a := P) (b := 0) (by omega) (by omega) c_1
    refine J_iconst (pc := 7) X 1 dX5_isTold_7 (by decide) ?_
    refine J_goto (pc := 8) X 12 dX5_isTold_8 (by decide) ?_
    refine J_zret (pc := 12) X hr () rfl dX5_isTold_12 ?_ rfl
    first | exact (bI_t (by omega)).symm | exact (bI_f (by omega)).symm
set_option maxRecDepth 100000 in
set_option maxHeartbeats 600000 in
theorem kX5_houseCount (l : Launch) (G : va_G) (cI cC cZ : ClassId) (q : Nat) (qd : Nat) (qh : Nat) (qp : Nat) (P : Nat) (gr : Int32) (wd : Nat) (g : Nat) (wk : Nat) (fr : Int32) (hs : Nat) (hPl : P ≤ 60) (hg : g ≤ 8) (hwk : wk ≤ 4) (hwd : wd ≤ 50) (hhs : (g = 0 ∧ hs = 0) ∨ (0 < g ∧ hs = g + 1)) : CI l G (tys3 cI cC cZ) yX5_houseCount cX5_houseCount 1 (some .int) ({ frames := 0, cells := 0, slots := 0, locals := 0 }) [.ref q] [(q, .inr (5, [.int (nI P), .int gr, .int (nI wd), .int (nI g), .int (nI wk), .int fr, .ref qd, .ref qh, .ref qp]))] (S := Unit) (fun (r : Int32) (u : Unit) => r = nI hs) (fun _ => [(q, .inr (5, [.int (nI P), .int gr, .int (nI wd), .int (nI g), .int (nI wk), .int fr, .ref qd, .ref qh, .ref qp]))]) := by
  refine CI.intro (by decide) (Nat.le_of_ble_eq_true rfl) ?_
  intro p0 e0 s0 m0 ar0 be0 me0 c0 A0 X hr
  refine J_aload_n (pc := 0) X 0 dX5_houseCount_0 rfl ?_
  refine J_get (pc := 1) X clX5 0 3 rfl (by decide) g94 rfl dX5_houseCount_1 ?_
  refine J_if_ne (pc := 4) X 11 dX5_houseCount_4 (by decide) (fun c_1 => ?_) (fun c_1 => ?_)
  · have c_1 : ¬ g = 0 := n_ne_of (a := g) (b := 0) (by omega) (by omega) c_1
    refine J_aload_n (pc := 11) X 0 dX5_houseCount_11 rfl ?_
    refine J_get (pc := 12) X clX5 0 3 rfl (by decide) g94 rfl dX5_houseCount_12 ?_
    refine J_iconst (pc := 15) X 1 dX5_houseCount_15 (by decide) ?_
    refine J_iadd (pc := 16) X dX5_houseCount_16 ?_
    refine J_top (y := nI (g + 1)) (n_add (x := g) (y := 1) rfl rfl (by omega)) ?_
    refine J_iret (pc := 17) X hr () dX5_houseCount_17 ?_ rfl
    first | (show nI 0 = nI hs; exact congrArg nI (by omega)) | exact congrArg nI (by omega)
  · have c_1 : g = 0 := n_eq_of (a := g) (b := 0) (by omega) (by omega) c_1
    refine J_iconst (pc := 7) X 0 dX5_houseCount_7 (by decide) ?_
    refine J_goto (pc := 8) X 17 dX5_houseCount_8 (by decide) ?_
    refine J_iret (pc := 17) X hr () dX5_houseCount_17 ?_ rfl
    first | (show nI 0 = nI hs; exact congrArg nI (by omega)) | exact congrArg nI (by omega)
set_option maxRecDepth 100000 in
set_option maxHeartbeats 600000 in
theorem kX5_hasGap (l : Launch) (G : va_G) (cI cC cZ : ClassId) (q : Nat) (qd : Nat) (qh : Nat) (qp : Nat) (P : Nat) (gr : Int32) (wd : Nat) (g : Nat) (wk : Nat) (fr : Int32) (k : Int32) (hPl : P ≤ 60) (hg : g ≤ 8) (hwk : wk ≤ 4) (hwd : wd ≤ 50) : CI l G (tys3 cI cC cZ) yX5_hasGap cX5_hasGap 2 (some .boolean) ({ frames := 0, cells := 0, slots := 0, locals := 0 }) [.ref q, .int k] [(q, .inr (5, [.int (nI P), .int gr, .int (nI wd), .int (nI g), .int (nI wk), .int fr, .ref qd, .ref qh, .ref qp]))] (S := Unit) (fun (r : Int32) (u : Unit) => r = bI (inB k g)) (fun _ => [(q, .inr (5, [.int (nI P), .int gr, .int (nI wd), .int (nI g), .int (nI wk), .int fr, .ref qd, .ref qh, .ref qp]))]) := by
  refine CI.intro (by decide) (Nat.le_of_ble_eq_true rfl) ?_
  intro p0 e0 s0 m0 ar0 be0 me0 c0 A0 X hr
  refine J_iload_n (pc := 0) X 1 dX5_hasGap_0 rfl ?_
  refine J_if_lt (pc := 1) X 16 dX5_hasGap_1 (by decide) (fun c_1 => ?_) (fun c_1 => ?_)
  · skip
    refine J_iconst (pc := 16) X 0 dX5_hasGap_16 (by decide) ?_
    refine J_zret (pc := 17) X hr () rfl dX5_hasGap_17 ?_ rfl
    first | exact (bI_t (inB_t (by omega) (by assumption) (by assumption))).symm | exact (bI_f (inB_f0 (by assumption))).symm | exact (bI_f (inB_f1 (by omega) (by assumption))).symm
  · skip
    refine J_iload_n (pc := 4) X 1 dX5_hasGap_4 rfl ?_
    refine J_aload_n (pc := 5) X 0 dX5_hasGap_5 rfl ?_
    refine J_get (pc := 6) X clX5 0 3 rfl (by decide) g94 rfl dX5_hasGap_6 ?_
    refine J_icmp_ge (pc := 9) X 16 dX5_hasGap_9 (by decide) (fun c_2 => ?_) (fun c_2 => ?_)
    · have c_2 := Int32.not_lt.mpr c_2
      refine J_iconst (pc := 16) X 0 dX5_hasGap_16 (by decide) ?_
      refine J_zret (pc := 17) X hr () rfl dX5_hasGap_17 ?_ rfl
      first | exact (bI_t (inB_t (by omega) (by assumption) (by assumption))).symm | exact (bI_f (inB_f0 (by assumption))).symm | exact (bI_f (inB_f1 (by omega) (by assumption))).symm
    · have c_2 := Int32.not_le.mp c_2
      refine J_iconst (pc := 12) X 1 dX5_hasGap_12 (by decide) ?_
      refine J_goto (pc := 13) X 17 dX5_hasGap_13 (by decide) ?_
      refine J_zret (pc := 17) X hr () rfl dX5_hasGap_17 ?_ rfl
      first | exact (bI_t (inB_t (by omega) (by assumption) (by assumption))).symm | exact (bI_f (inB_f0 (by assumption))).symm | exact (bI_f (inB_f1 (by omega) (by assumption))).symm
set_option maxRecDepth 100000 in
set_option maxHeartbeats 600000 in
theorem kX5_hasWalker (l : Launch) (G : va_G) (cI cC cZ : ClassId) (q : Nat) (qd : Nat) (qh : Nat) (qp : Nat) (P : Nat) (gr : Int32) (wd : Nat) (g : Nat) (wk : Nat) (fr : Int32) (k : Int32) (hPl : P ≤ 60) (hg : g ≤ 8) (hwk : wk ≤ 4) (hwd : wd ≤ 50) : CI l G (tys3 cI cC cZ) yX5_hasWalker cX5_hasWalker 2 (some .boolean) ({ frames := 0, cells := 0, slots := 0, locals := 0 }) [.ref q, .int k] [(q, .inr (5, [.int (nI P), .int gr, .int (nI wd), .int (nI g), .int (nI wk), .int fr, .ref qd, .ref qh, .ref qp]))] (S := Unit) (fun (r : Int32) (u : Unit) => r = bI (inB k wk)) (fun _ => [(q, .inr (5, [.int (nI P), .int gr, .int (nI wd), .int (nI g), .int (nI wk), .int fr, .ref qd, .ref qh, .ref qp]))]) := by
  refine CI.intro (by decide) (Nat.le_of_ble_eq_true rfl) ?_
  intro p0 e0 s0 m0 ar0 be0 me0 c0 A0 X hr
  refine J_iload_n (pc := 0) X 1 dX5_hasWalker_0 rfl ?_
  refine J_if_lt (pc := 1) X 16 dX5_hasWalker_1 (by decide) (fun c_1 => ?_) (fun c_1 => ?_)
  · skip
    refine J_iconst (pc := 16) X 0 dX5_hasWalker_16 (by decide) ?_
    refine J_zret (pc := 17) X hr () rfl dX5_hasWalker_17 ?_ rfl
    first | exact (bI_t (inB_t (by omega) (by assumption) (by assumption))).symm | exact (bI_f (inB_f0 (by assumption))).symm | exact (bI_f (inB_f1 (by omega) (by assumption))).symm
  · skip
    refine J_iload_n (pc := 4) X 1 dX5_hasWalker_4 rfl ?_
    refine J_aload_n (pc := 5) X 0 dX5_hasWalker_5 rfl ?_
    refine J_get (pc := 6) X clX5 0 4 rfl (by decide) g95 rfl dX5_hasWalker_6 ?_
    refine J_icmp_ge (pc := 9) X 16 dX5_hasWalker_9 (by decide) (fun c_2 => ?_) (fun c_2 => ?_)
    · have c_2 := Int32.not_lt.mpr c_2
      refine J_iconst (pc := 16) X 0 dX5_hasWalker_16 (by decide) ?_
      refine J_zret (pc := 17) X hr () rfl dX5_hasWalker_17 ?_ rfl
      first | exact (bI_t (inB_t (by omega) (by assumption) (by assumption))).symm | exact (bI_f (inB_f0 (by assumption))).symm | exact (bI_f (inB_f1 (by omega) (by assumption))).symm
    · have c_2 := Int32.not_le.mp c_2
      refine J_iconst (pc := 12) X 1 dX5_hasWalker_12 (by decide) ?_
      refine J_goto (pc := 13) X 17 dX5_hasWalker_13 (by decide) ?_
      refine J_zret (pc := 17) X hr () rfl dX5_hasWalker_17 ?_ rfl
      first | exact (bI_t (inB_t (by omega) (by assumption) (by assumption))).symm | exact (bI_f (inB_f0 (by assumption))).symm | exact (bI_f (inB_f1 (by omega) (by assumption))).symm
set_option maxRecDepth 100000 in
set_option maxHeartbeats 600000 in
theorem kX5_hasHouse (l : Launch) (G : va_G) (cI cC cZ : ClassId) (q : Nat) (qd : Nat) (qh : Nat) (qp : Nat) (P : Nat) (gr : Int32) (wd : Nat) (g : Nat) (wk : Nat) (fr : Int32) (k : Int32) (hs : Nat) (hPl : P ≤ 60) (hg : g ≤ 8) (hwk : wk ≤ 4) (hwd : wd ≤ 50) (hhs : (g = 0 ∧ hs = 0) ∨ (0 < g ∧ hs = g + 1)) : CI l G (tys3 cI cC cZ) yX5_hasHouse cX5_hasHouse 2 (some .boolean) ({ frames := 1, cells := 0, slots := 0, locals := 20 }) [.ref q, .int k] [(q, .inr (5, [.int (nI P), .int gr, .int (nI wd), .int (nI g), .int (nI wk), .int fr, .ref qd, .ref qh, .ref qp]))] (S := Unit) (fun (r : Int32) (u : Unit) => r = bI (inB k hs)) (fun _ => [(q, .inr (5, [.int (nI P), .int gr, .int (nI wd), .int (nI g), .int (nI wk), .int fr, .ref qd, .ref qh, .ref qp]))]) := by
  refine CI.intro (by decide) (Nat.le_of_ble_eq_true rfl) ?_
  intro p0 e0 s0 m0 ar0 be0 me0 c0 A0 X hr
  refine J_iload_n (pc := 0) X 1 dX5_hasHouse_0 rfl ?_
  refine J_if_lt (pc := 1) X 16 dX5_hasHouse_1 (by decide) (fun c_1 => ?_) (fun c_1 => ?_)
  · skip
    refine J_iconst (pc := 16) X 0 dX5_hasHouse_16 (by decide) ?_
    refine J_zret (pc := 17) X hr () rfl dX5_hasHouse_17 ?_ rfl
    first | exact (bI_t (inB_t (by omega) (by assumption) (by assumption))).symm | exact (bI_f (inB_f0 (by assumption))).symm | exact (bI_f (inB_f1 (by omega) (by assumption))).symm
  · skip
    refine J_iload_n (pc := 4) X 1 dX5_hasHouse_4 rfl ?_
    refine J_aload_n (pc := 5) X 0 dX5_hasHouse_5 rfl ?_
    refine J_callR (pc := 6) (As := []) (rest := [.int k]) X mtX5_houseCount g676 [0] 0 (kX5_houseCount l G cI cC cZ q qd qh qp P gr wd g wk fr hs (by first | assumption | omega) (by first | assumption | omega) (by first | assumption | omega) (by first | assumption | omega) (by first | assumption | omega)) ⟨Nat.le_of_ble_eq_true rfl, Nat.le_of_ble_eq_true rfl⟩ rfl rfl rfl (by decide) rfl rfl rfl rfl rfl (Nat.le_of_ble_eq_true rfl) (Nat.zero_le _) (Nat.zero_le _) dX5_hasHouse_6 (fun r_2 u_3 w_4 => ?_)
    try dsimp only at w_4
    subst w_4
    refine J_icmp_ge (pc := 9) X 16 dX5_hasHouse_9 (by decide) (fun c_5 => ?_) (fun c_5 => ?_)
    · have c_5 := Int32.not_lt.mpr c_5
      refine J_iconst (pc := 16) X 0 dX5_hasHouse_16 (by decide) ?_
      refine J_zret (pc := 17) X hr () rfl dX5_hasHouse_17 ?_ rfl
      first | exact (bI_t (inB_t (by omega) (by assumption) (by assumption))).symm | exact (bI_f (inB_f0 (by assumption))).symm | exact (bI_f (inB_f1 (by omega) (by assumption))).symm
    · have c_5 := Int32.not_le.mp c_5
      refine J_iconst (pc := 12) X 1 dX5_hasHouse_12 (by decide) ?_
      refine J_goto (pc := 13) X 17 dX5_hasHouse_13 (by decide) ?_
      refine J_zret (pc := 17) X hr () rfl dX5_hasHouse_17 ?_ rfl
      first | exact (bI_t (inB_t (by omega) (by assumption) (by assumption))).symm | exact (bI_f (inB_f0 (by assumption))).symm | exact (bI_f (inB_f1 (by omega) (by assumption))).symm
set_option maxRecDepth 100000 in
set_option maxHeartbeats 600000 in
theorem kX5_dayYards (l : Launch) (G : va_G) (cI cC cZ : ClassId) (q : Nat) (qd : Nat) (qh : Nat) (qp : Nat) (P : Nat) (gr : Int32) (wd : Nat) (g : Nat) (wk : Nat) (fr : Int32) (dyr : Nat → Int32) (kn : Nat) (dy : Nat → Int32) (hPl : P ≤ 60) (hg : g ≤ 8) (hwk : wk ≤ 4) (hwd : wd ≤ 50) (hkn : kn < g) (hdy : ∀ k, k < g → dyr k = dy k) : CI l G (tys3 cI cC cZ) yX5_dayYards cX5_dayYards 2 (some .int) ({ frames := 0, cells := 0, slots := 0, locals := 0 }) [.ref q, .int (nI kn)] [(q, .inr (5, [.int (nI P), .int gr, .int (nI wd), .int (nI g), .int (nI wk), .int fr, .ref qd, .ref qh, .ref qp])), (qd, .inl (cI, 8, .inl dyr))] (S := Unit) (fun (r : Int32) (u : Unit) => r = dy kn) (fun _ => [(q, .inr (5, [.int (nI P), .int gr, .int (nI wd), .int (nI g), .int (nI wk), .int fr, .ref qd, .ref qh, .ref qp])), (qd, .inl (cI, 8, .inl dyr))]) := by
  refine CI.intro (by decide) (Nat.le_of_ble_eq_true rfl) ?_
  intro p0 e0 s0 m0 ar0 be0 me0 c0 A0 X hr
  refine J_iload_n (pc := 0) X 1 dX5_dayYards_0 rfl ?_
  refine J_if_lt (pc := 1) X 30 dX5_dayYards_1 (by decide) (fun c_1 => ?_) (fun c_1 => ?_)
  · have c_1 : kn < 0 := n_lt_of (a := kn) (b := 0) (by omega) (by omega) c_1
    exfalso; omega
  · have c_1 : 0 ≤ kn := n_nlt_of (a := kn) (b := 0) (by omega) (by omega) c_1
    refine J_iload_n (pc := 4) X 1 dX5_dayYards_4 rfl ?_
    refine J_aload_n (pc := 5) X 0 dX5_dayYards_5 rfl ?_
    refine J_get (pc := 6) X clX5 0 3 rfl (by decide) g94 rfl dX5_dayYards_6 ?_
    refine J_icmp_ge (pc := 9) X 30 dX5_dayYards_9 (by decide) (fun c_2 => ?_) (fun c_2 => ?_)
    · have c_2 : g ≤ kn := n_le_of (a := g) (b := kn) (by omega) (by omega) c_2
      exfalso; omega
    · have c_2 : kn < g := n_nle_of (a := g) (b := kn) (by omega) (by omega) c_2
      refine J_iload_n (pc := 12) X 1 dX5_dayYards_12 rfl ?_
      refine J_aload_n (pc := 13) X 0 dX5_dayYards_13 rfl ?_
      refine J_get (pc := 14) X clX5 0 6 rfl (by decide) g97 rfl dX5_dayYards_14 ?_
      refine J_alen (pc := 17) X 1 0 rfl rfl dX5_dayYards_17 ?_
      refine J_icmp_ge (pc := 18) X 30 dX5_dayYards_18 (by decide) (fun c_3 => ?_) (fun c_3 => ?_)
      · have c_3 : 8 ≤ kn := n_le_of (a := 8) (b := kn) (by omega) (by omega) c_3
        exfalso; omega
      · have c_3 : kn < 8 := n_nle_of (a := 8) (b := kn) (by omega) (by omega) c_3
        refine J_aload_n (pc := 21) X 0 dX5_dayYards_21 rfl ?_
        refine J_get (pc := 22) X clX5 0 6 rfl (by decide) g97 rfl dX5_dayYards_22 ?_
        refine J_iload_n (pc := 25) X 1 dX5_dayYards_25 rfl ?_
        refine J_iald (pc := 26) X 1 0 kn rfl rfl rfl (by omega) (by decide) dX5_dayYards_26 ?_
        refine J_goto (pc := 27) X 31 dX5_dayYards_27 (by decide) ?_
        refine J_iret (pc := 31) X hr () dX5_dayYards_31 ?_ rfl
        exact hdy kn (by omega)
set_option maxRecDepth 100000 in
set_option maxHeartbeats 600000 in
theorem kX5_homeOf (l : Launch) (G : va_G) (cI cC cZ : ClassId) (q : Nat) (qd : Nat) (qh : Nat) (qp : Nat) (P : Nat) (gr : Int32) (wd : Nat) (g : Nat) (wk : Nat) (fr : Int32) (hor : Nat → Int32) (kn : Nat) (hPl : P ≤ 60) (hg : g ≤ 8) (hwk : wk ≤ 4) (hwd : wd ≤ 50) (hkn : kn < 4) : CI l G (tys3 cI cC cZ) yX5_homeOf cX5_homeOf 2 (some .int) ({ frames := 0, cells := 0, slots := 0, locals := 0 }) [.ref q, .int (nI kn)] [(q, .inr (5, [.int (nI P), .int gr, .int (nI wd), .int (nI g), .int (nI wk), .int fr, .ref qd, .ref qh, .ref qp])), (qh, .inl (cI, 4, .inl hor))] (S := Unit) (fun (r : Int32) (u : Unit) => r = if kn < wk then hor kn else 0) (fun _ => [(q, .inr (5, [.int (nI P), .int gr, .int (nI wd), .int (nI g), .int (nI wk), .int fr, .ref qd, .ref qh, .ref qp])), (qh, .inl (cI, 4, .inl hor))]) := by
  refine CI.intro (by decide) (Nat.le_of_ble_eq_true rfl) ?_
  intro p0 e0 s0 m0 ar0 be0 me0 c0 A0 X hr
  refine J_iload_n (pc := 0) X 1 dX5_homeOf_0 rfl ?_
  refine J_if_lt (pc := 1) X 30 dX5_homeOf_1 (by decide) (fun c_1 => ?_) (fun c_1 => ?_)
  · have c_1 : kn < 0 := n_lt_of (a := kn) (b := 0) (by omega) (by omega) c_1
    exfalso; omega
  · have c_1 : 0 ≤ kn := n_nlt_of (a := kn) (b := 0) (by omega) (by omega) c_1
    refine J_iload_n (pc := 4) X 1 dX5_homeOf_4 rfl ?_
    refine J_aload_n (pc := 5) X 0 dX5_homeOf_5 rfl ?_
    refine J_get (pc := 6) X clX5 0 4 rfl (by decide) g95 rfl dX5_homeOf_6 ?_
    refine J_icmp_ge (pc := 9) X 30 dX5_homeOf_9 (by decide) (fun c_2 => ?_) (fun c_2 => ?_)
    · have c_2 : wk ≤ kn := n_le_of (a := wk) (b := kn) (by omega) (by omega) c_2
      refine J_iconst (pc := 30) X 0 dX5_homeOf_30 (by decide) ?_
      refine J_iret (pc := 31) X hr () dX5_homeOf_31 ?_ rfl
      first | exact (if_pos (by assumption)).symm | exact (if_neg (by omega)).symm
    · have c_2 : kn < wk := n_nle_of (a := wk) (b := kn) (by omega) (by omega) c_2
      refine J_iload_n (pc := 12) X 1 dX5_homeOf_12 rfl ?_
      refine J_aload_n (pc := 13) X 0 dX5_homeOf_13 rfl ?_
      refine J_get (pc := 14) X clX5 0 7 rfl (by decide) g98 rfl dX5_homeOf_14 ?_
      refine J_alen (pc := 17) X 1 0 rfl rfl dX5_homeOf_17 ?_
      refine J_icmp_ge (pc := 18) X 30 dX5_homeOf_18 (by decide) (fun c_3 => ?_) (fun c_3 => ?_)
      · have c_3 : 4 ≤ kn := n_le_of (a := 4) (b := kn) (by omega) (by omega) c_3
        exfalso; omega
      · have c_3 : kn < 4 := n_nle_of (a := 4) (b := kn) (by omega) (by omega) c_3
        refine J_aload_n (pc := 21) X 0 dX5_homeOf_21 rfl ?_
        refine J_get (pc := 22) X clX5 0 7 rfl (by decide) g98 rfl dX5_homeOf_22 ?_
        refine J_iload_n (pc := 25) X 1 dX5_homeOf_25 rfl ?_
        refine J_iald (pc := 26) X 1 0 kn rfl rfl rfl (by omega) (by decide) dX5_homeOf_26 ?_
        refine J_goto (pc := 27) X 31 dX5_homeOf_27 (by decide) ?_
        refine J_iret (pc := 31) X hr () dX5_homeOf_31 ?_ rfl
        first | exact (if_pos (by assumption)).symm | exact (if_neg (by omega)).symm
set_option maxRecDepth 100000 in
set_option maxHeartbeats 600000 in
theorem kX5_paceOf (l : Launch) (G : va_G) (cI cC cZ : ClassId) (q : Nat) (qd : Nat) (qh : Nat) (qp : Nat) (P : Nat) (gr : Int32) (wd : Nat) (g : Nat) (wk : Nat) (fr : Int32) (par_ : Nat → Int32) (kn : Nat) (pa : Nat → Int32) (hPl : P ≤ 60) (hg : g ≤ 8) (hwk : wk ≤ 4) (hwd : wd ≤ 50) (hkn : kn < wk) (hpa : ∀ k, k < wk → par_ k = pa k) : CI l G (tys3 cI cC cZ) yX5_paceOf cX5_paceOf 2 (some .int) ({ frames := 0, cells := 0, slots := 0, locals := 0 }) [.ref q, .int (nI kn)] [(q, .inr (5, [.int (nI P), .int gr, .int (nI wd), .int (nI g), .int (nI wk), .int fr, .ref qd, .ref qh, .ref qp])), (qp, .inl (cI, 4, .inl par_))] (S := Unit) (fun (r : Int32) (u : Unit) => r = pa kn) (fun _ => [(q, .inr (5, [.int (nI P), .int gr, .int (nI wd), .int (nI g), .int (nI wk), .int fr, .ref qd, .ref qh, .ref qp])), (qp, .inl (cI, 4, .inl par_))]) := by
  refine CI.intro (by decide) (Nat.le_of_ble_eq_true rfl) ?_
  intro p0 e0 s0 m0 ar0 be0 me0 c0 A0 X hr
  refine J_iload_n (pc := 0) X 1 dX5_paceOf_0 rfl ?_
  refine J_if_lt (pc := 1) X 30 dX5_paceOf_1 (by decide) (fun c_1 => ?_) (fun c_1 => ?_)
  · have c_1 : kn < 0 := n_lt_of (a := kn) (b := 0) (by omega) (by omega) c_1
    exfalso; omega
  · have c_1 : 0 ≤ kn := n_nlt_of (a := kn) (b := 0) (by omega) (by omega) c_1
    refine J_iload_n (pc := 4) X 1 dX5_paceOf_4 rfl ?_
    refine J_aload_n (pc := 5) X 0 dX5_paceOf_5 rfl ?_
    refine J_get (pc := 6) X clX5 0 4 rfl (by decide) g95 rfl dX5_paceOf_6 ?_
    refine J_icmp_ge (pc := 9) X 30 dX5_paceOf_9 (by decide) (fun c_2 => ?_) (fun c_2 => ?_)
    · have c_2 : wk ≤ kn := n_le_of (a := wk) (b := kn) (by omega) (by omega) c_2
      exfalso; omega
    · have c_2 : kn < wk := n_nle_of (a := wk) (b := kn) (by omega) (by omega) c_2
      refine J_iload_n (pc := 12) X 1 dX5_paceOf_12 rfl ?_
      refine J_aload_n (pc := 13) X 0 dX5_paceOf_13 rfl ?_
      refine J_get (pc := 14) X clX5 0 8 rfl (by decide) g99 rfl dX5_paceOf_14 ?_
      refine J_alen (pc := 17) X 1 0 rfl rfl dX5_paceOf_17 ?_
      refine J_icmp_ge (pc := 18) X 30 dX5_paceOf_18 (by decide) (fun c_3 => ?_) (fun c_3 => ?_)
      · have c_3 : 4 ≤ kn := n_le_of (a := 4) (b := kn) (by omega) (by omega) c_3
        exfalso; omega
      · have c_3 : kn < 4 := n_nle_of (a := 4) (b := kn) (by omega) (by omega) c_3
        refine J_aload_n (pc := 21) X 0 dX5_paceOf_21 rfl ?_
        refine J_get (pc := 22) X clX5 0 8 rfl (by decide) g99 rfl dX5_paceOf_22 ?_
        refine J_iload_n (pc := 25) X 1 dX5_paceOf_25 rfl ?_
        refine J_iald (pc := 26) X 1 0 kn rfl rfl rfl (by omega) (by decide) dX5_paceOf_26 ?_
        refine J_goto (pc := 27) X 31 dX5_paceOf_27 (by decide) ?_
        refine J_iret (pc := 31) X hr () dX5_paceOf_31 ?_ rfl
        exact hpa kn (by omega)
set_option maxRecDepth 100000 in
set_option maxHeartbeats 600000 in
theorem kX5_yardsGrowing (l : Launch) (G : va_G) (cI cC cZ : ClassId) (q : Nat) (qd : Nat) (qh : Nat) (qp : Nat) (P : Nat) (gr : Int32) (wd : Nat) (g : Nat) (wk : Nat) (fr : Int32) (dyr : Nat → Int32) (kn : Nat) (t : Int32) (gw : Int32) (dy : Nat → Int32) (hPl : P ≤ 60) (hg : g ≤ 8) (hwk : wk ≤ 4) (hwd : wd ≤ 50) (hkn : kn < g) (hdy : ∀ k, k < g → dyr k = dy k) (hP0 : 0 < P) : CI l G (tys3 cI cC cZ) yX5_yardsGrowing cX5_yardsGrowing 6 (some .int) ({ frames := 1, cells := 0, slots := 0, locals := 21 }) [.ref q, .int (nI kn), .int t, .int gw] [(q, .inr (5, [.int (nI P), .int gr, .int (nI wd), .int (nI g), .int (nI wk), .int fr, .ref qd, .ref qh, .ref qp])), (qd, .inl (cI, 8, .inl dyr))] (S := Unit) (fun (r : Int32) (u : Unit) => r = yG P (dy kn) gw t) (fun _ => [(q, .inr (5, [.int (nI P), .int gr, .int (nI wd), .int (nI g), .int (nI wk), .int fr, .ref qd, .ref qh, .ref qp])), (qd, .inl (cI, 8, .inl dyr))]) := by
  refine CI.intro (by decide) (Nat.le_of_ble_eq_true rfl) ?_
  intro p0 e0 s0 m0 ar0 be0 me0 c0 A0 X hr
  refine J_aload_n (pc := 0) X 0 dX5_yardsGrowing_0 rfl ?_
  refine J_callR (pc := 1) (As := []) (rest := []) X mtX5_nightLength g486 [0] 0 (kX5_nightLength l G cI cC cZ q qd qh qp P gr wd g wk fr (by first | assumption | omega) (by first | assumption | omega) (by first | assumption | omega) (by first | assumption | omega)) ⟨Nat.le_of_ble_eq_true rfl, Nat.le_of_ble_eq_true rfl⟩ rfl rfl rfl (by decide) rfl rfl rfl rfl rfl (Nat.le_of_ble_eq_true rfl) (Nat.zero_le _) (Nat.zero_le _) dX5_yardsGrowing_1 (fun r_1 u_2 w_3 => ?_)
  try dsimp only at w_3
  subst w_3
  refine J_istore (pc := 4) X [(4, .int (nI (2 * P))), (0, .ref q), (1, .int (nI kn)), (2, .int t), (3, .int gw)] dX5_yardsGrowing_4 (by decide) rfl ?_
  refine J_iload (pc := 6) X 0 dX5_yardsGrowing_6 rfl ?_
  refine J_if_gt (pc := 8) X 13 dX5_yardsGrowing_8 (by decide) (fun c_4 => ?_) (fun c_4 => ?_)
  · have c_4 : 0 < 2 * P := n_lt_of (a := 0) (b := 2 * P) (by omega) (by omega) c_4
    refine J_iload_n (pc := 13) X 3 dX5_yardsGrowing_13 rfl ?_
    refine J_iload (pc := 14) X 0 dX5_yardsGrowing_14 rfl ?_
    refine J_irem (pc := 16) X dX5_yardsGrowing_16 (nz_nI (by omega) (by omega)) ?_
    refine J_istore (pc := 17) X [(5, .int (t - t / (nI (2 * P)) * (nI (2 * P)))), (4, .int (nI (2 * P))), (0, .ref q), (1, .int (nI kn)), (2, .int t), (3, .int gw)] dX5_yardsGrowing_17 (by decide) rfl ?_
    refine J_aload_n (pc := 19) X 2 dX5_yardsGrowing_19 rfl ?_
    refine J_iload_n (pc := 20) X 3 dX5_yardsGrowing_20 rfl ?_
    refine J_callR (pc := 21) (As := [.int (nI kn)]) (rest := []) X mtX5_dayYards g490 [0, 1] 0 (kX5_dayYards l G cI cC cZ q qd qh qp P gr wd g wk fr dyr kn dy (by first | assumption | omega) (by first | assumption | omega) (by first | assumption | omega) (by first | assumption | omega) (by first | assumption | omega) (by first | assumption | omega)) ⟨Nat.le_of_ble_eq_true rfl, Nat.le_of_ble_eq_true rfl⟩ rfl rfl rfl (by decide) rfl rfl rfl rfl rfl (Nat.le_of_ble_eq_true rfl) (Nat.zero_le _) (Nat.zero_le _) dX5_yardsGrowing_21 (fun r_5 u_6 w_7 => ?_)
    try dsimp only at w_7
    subst w_7
    refine J_iload_n (pc := 24) X 5 dX5_yardsGrowing_24 rfl ?_
    refine J_iload (pc := 25) X 0 dX5_yardsGrowing_25 rfl ?_
    refine J_iload (pc := 27) X 1 dX5_yardsGrowing_27 rfl ?_
    refine J_iload (pc := 29) X 0 dX5_yardsGrowing_29 rfl ?_
    refine J_isub (pc := 31) X dX5_yardsGrowing_31 ?_
    refine J_mmin (pc := 32) X g491 g492 g70 g493 (Nat.le_of_ble_eq_true rfl) (Nat.le_of_ble_eq_true rfl) (Nat.zero_le _) (Nat.zero_le _) dX5_yardsGrowing_32 ?_
    refine J_imul (pc := 35) X dX5_yardsGrowing_35 ?_
    refine J_bipush (pc := 36) X 10 dX5_yardsGrowing_36 (by decide) ?_
    refine J_idiv (pc := 38) X dX5_yardsGrowing_38 (by decide) ?_
    refine J_iadd (pc := 39) X dX5_yardsGrowing_39 ?_
    refine J_iret (pc := 40) X hr () dX5_yardsGrowing_40 ?_ rfl
    rfl
  · have c_4 : 2 * P ≤ 0 := n_nlt_of (a := 0) (b := 2 * P) (by omega) (by omega) c_4
    exfalso; omega
set_option maxRecDepth 100000 in
set_option maxHeartbeats 600000 in
theorem kX5_yardsAt (l : Launch) (G : va_G) (cI cC cZ : ClassId) (q : Nat) (qd : Nat) (qh : Nat) (qp : Nat) (P : Nat) (gr : Int32) (wd : Nat) (g : Nat) (wk : Nat) (fr : Int32) (dyr : Nat → Int32) (kn : Nat) (t : Int32) (dy : Nat → Int32) (hPl : P ≤ 60) (hg : g ≤ 8) (hwk : wk ≤ 4) (hwd : wd ≤ 50) (hkn : kn < g) (hdy : ∀ k, k < g → dyr k = dy k) (hP0 : 0 < P) : CI l G (tys3 cI cC cZ) yX5_yardsAt cX5_yardsAt 3 (some .int) ({ frames := 2, cells := 0, slots := 0, locals := 46 }) [.ref q, .int (nI kn), .int t] [(q, .inr (5, [.int (nI P), .int gr, .int (nI wd), .int (nI g), .int (nI wk), .int fr, .ref qd, .ref qh, .ref qp])), (qd, .inl (cI, 8, .inl dyr))] (S := Unit) (fun (r : Int32) (u : Unit) => r = yG P (dy kn) gr t) (fun _ => [(q, .inr (5, [.int (nI P), .int gr, .int (nI wd), .int (nI g), .int (nI wk), .int fr, .ref qd, .ref qh, .ref qp])), (qd, .inl (cI, 8, .inl dyr))]) := by
  refine CI.intro (by decide) (Nat.le_of_ble_eq_true rfl) ?_
  intro p0 e0 s0 m0 ar0 be0 me0 c0 A0 X hr
  refine J_aload_n (pc := 0) X 0 dX5_yardsAt_0 rfl ?_
  refine J_iload_n (pc := 1) X 1 dX5_yardsAt_1 rfl ?_
  refine J_iload_n (pc := 2) X 2 dX5_yardsAt_2 rfl ?_
  refine J_aload_n (pc := 3) X 0 dX5_yardsAt_3 rfl ?_
  refine J_get (pc := 4) X clX5 0 1 rfl (by decide) g92 rfl dX5_yardsAt_4 ?_
  refine J_callR (pc := 7) (As := [.int (nI kn), .int t, .int gr]) (rest := []) X mtX5_yardsGrowing g482 [0, 1] 0 (kX5_yardsGrowing l G cI cC cZ q qd qh qp P gr wd g wk fr dyr kn t gr dy (by first | assumption | omega) (by first | assumption | omega) (by first | assumption | omega) (by first | assumption | omega) (by first | assumption | omega) (by first | assumption | omega) (by first | assumption | omega)) ⟨Nat.le_of_ble_eq_true rfl, Nat.le_of_ble_eq_true rfl⟩ rfl rfl rfl (by decide) rfl rfl rfl rfl rfl (Nat.le_of_ble_eq_true rfl) (Nat.zero_le _) (Nat.zero_le _) dX5_yardsAt_7 (fun r_1 u_2 w_3 => ?_)
  try dsimp only at w_3
  subst w_3
  refine J_iret (pc := 10) X hr () dX5_yardsAt_10 ?_ rfl
  rfl
set_option maxRecDepth 100000 in
set_option maxHeartbeats 600000 in
theorem kX5_nightHousesGrowing (l : Launch) (G : va_G) (cI cC cZ : ClassId) (q : Nat) (qd : Nat) (qh : Nat) (qp : Nat) (P : Nat) (gr : Int32) (wd : Nat) (g : Nat) (wk : Nat) (fr : Int32) (dyr : Nat → Int32) (kn : Nat) (t : Int32) (gw : Int32) (dy : Nat → Int32) (hPl : P ≤ 60) (hg : g ≤ 8) (hwk : wk ≤ 4) (hwd : wd ≤ 50) (hkn : kn < g) (hdy : ∀ k, k < g → dyr k = dy k) (hP0 : 0 < P) (hwd0 : 0 < wd) : CI l G (tys3 cI cC cZ) yX5_nightHousesGrowing cX5_nightHousesGrowing 4 (some .int) ({ frames := 2, cells := 0, slots := 0, locals := 46 }) [.ref q, .int (nI kn), .int t, .int gw] [(q, .inr (5, [.int (nI P), .int gr, .int (nI wd), .int (nI g), .int (nI wk), .int fr, .ref qd, .ref qh, .ref qp])), (qd, .inl (cI, 8, .inl dyr))] (S := Unit) (fun (r : Int32) (u : Unit) => r = nH wd (yG P (dy kn) gw t)) (fun _ => [(q, .inr (5, [.int (nI P), .int gr, .int (nI wd), .int (nI g), .int (nI wk), .int fr, .ref qd, .ref qh, .ref qp])), (qd, .inl (cI, 8, .inl dyr))]) := by
  refine CI.intro (by decide) (Nat.le_of_ble_eq_true rfl) ?_
  intro p0 e0 s0 m0 ar0 be0 me0 c0 A0 X hr
  refine J_aload_n (pc := 0) X 0 dX5_nightHousesGrowing_0 rfl ?_
  refine J_get (pc := 1) X clX5 0 2 rfl (by decide) g93 rfl dX5_nightHousesGrowing_1 ?_
  refine J_if_gt (pc := 4) X 9 dX5_nightHousesGrowing_4 (by decide) (fun c_1 => ?_) (fun c_1 => ?_)
  · have c_1 : 0 < wd := n_lt_of (a := 0) (b := wd) (by omega) (by omega) c_1
    refine J_iconst (pc := 9) X 0 dX5_nightHousesGrowing_9 (by decide) ?_
    refine J_aload_n (pc := 10) X 0 dX5_nightHousesGrowing_10 rfl ?_
    refine J_iload_n (pc := 11) X 1 dX5_nightHousesGrowing_11 rfl ?_
    refine J_iload_n (pc := 12) X 2 dX5_nightHousesGrowing_12 rfl ?_
    refine J_iload_n (pc := 13) X 3 dX5_nightHousesGrowing_13 rfl ?_
    refine J_callR (pc := 14) (As := [.int (nI kn), .int t, .int gw]) (rest := [.int 0]) X mtX5_yardsGrowing g482 [0, 1] 0 (kX5_yardsGrowing l G cI cC cZ q qd qh qp P gr wd g wk fr dyr kn t gw dy (by first | assumption | omega) (by first | assumption | omega) (by first | assumption | omega) (by first | assumption | omega) (by first | assumption | omega) (by first | assumption | omega) (by first | assumption | omega)) ⟨Nat.le_of_ble_eq_true rfl, Nat.le_of_ble_eq_true rfl⟩ rfl rfl rfl (by decide) rfl rfl rfl rfl rfl (Nat.le_of_ble_eq_true rfl) (Nat.zero_le _) (Nat.zero_le _) dX5_nightHousesGrowing_14 (fun r_2 u_3 w_4 => ?_)
    try dsimp only at w_4
    subst w_4
    refine J_aload_n (pc := 17) X 0 dX5_nightHousesGrowing_17 rfl ?_
    refine J_get (pc := 18) X clX5 0 2 rfl (by decide) g93 rfl dX5_nightHousesGrowing_18 ?_
    refine J_idiv (pc := 21) X dX5_nightHousesGrowing_21 (nz_nI (by omega) (by omega)) ?_
    refine J_iconst (pc := 22) X 1 dX5_nightHousesGrowing_22 (by decide) ?_
    refine J_isub (pc := 23) X dX5_nightHousesGrowing_23 ?_
    refine J_mmax (pc := 24) X g502 g193 g70 g194 (Nat.le_of_ble_eq_true rfl) (Nat.le_of_ble_eq_true rfl) (Nat.zero_le _) (Nat.zero_le _) dX5_nightHousesGrowing_24 ?_
    refine J_iret (pc := 27) X hr () dX5_nightHousesGrowing_27 ?_ rfl
    rfl
  · have c_1 : wd ≤ 0 := n_nlt_of (a := 0) (b := wd) (by omega) (by omega) c_1
    exfalso; omega
set_option maxRecDepth 100000 in
set_option maxHeartbeats 600000 in
theorem kX5_nightHousesAt (l : Launch) (G : va_G) (cI cC cZ : ClassId) (q : Nat) (qd : Nat) (qh : Nat) (qp : Nat) (P : Nat) (gr : Int32) (wd : Nat) (g : Nat) (wk : Nat) (fr : Int32) (dyr : Nat → Int32) (kn : Nat) (t : Int32) (dy : Nat → Int32) (hPl : P ≤ 60) (hg : g ≤ 8) (hwk : wk ≤ 4) (hwd : wd ≤ 50) (hkn : kn < g) (hdy : ∀ k, k < g → dyr k = dy k) (hP0 : 0 < P) (hwd0 : 0 < wd) : CI l G (tys3 cI cC cZ) yX5_nightHousesAt cX5_nightHousesAt 3 (some .int) ({ frames := 3, cells := 0, slots := 0, locals := 69 }) [.ref q, .int (nI kn), .int t] [(q, .inr (5, [.int (nI P), .int gr, .int (nI wd), .int (nI g), .int (nI wk), .int fr, .ref qd, .ref qh, .ref qp])), (qd, .inl (cI, 8, .inl dyr))] (S := Unit) (fun (r : Int32) (u : Unit) => r = nH wd (yG P (dy kn) gr t)) (fun _ => [(q, .inr (5, [.int (nI P), .int gr, .int (nI wd), .int (nI g), .int (nI wk), .int fr, .ref qd, .ref qh, .ref qp])), (qd, .inl (cI, 8, .inl dyr))]) := by
  refine CI.intro (by decide) (Nat.le_of_ble_eq_true rfl) ?_
  intro p0 e0 s0 m0 ar0 be0 me0 c0 A0 X hr
  refine J_aload_n (pc := 0) X 0 dX5_nightHousesAt_0 rfl ?_
  refine J_iload_n (pc := 1) X 1 dX5_nightHousesAt_1 rfl ?_
  refine J_iload_n (pc := 2) X 2 dX5_nightHousesAt_2 rfl ?_
  refine J_aload_n (pc := 3) X 0 dX5_nightHousesAt_3 rfl ?_
  refine J_get (pc := 4) X clX5 0 1 rfl (by decide) g92 rfl dX5_nightHousesAt_4 ?_
  refine J_callR (pc := 7) (As := [.int (nI kn), .int t, .int gr]) (rest := []) X mtX5_nightHousesGrowing g498 [0, 1] 0 (kX5_nightHousesGrowing l G cI cC cZ q qd qh qp P gr wd g wk fr dyr kn t gr dy (by first | assumption | omega) (by first | assumption | omega) (by first | assumption | omega) (by first | assumption | omega) (by first | assumption | omega) (by first | assumption | omega) (by first | assumption | omega) (by first | assumption | omega)) ⟨Nat.le_of_ble_eq_true rfl, Nat.le_of_ble_eq_true rfl⟩ rfl rfl rfl (by decide) rfl rfl rfl rfl rfl (Nat.le_of_ble_eq_true rfl) (Nat.zero_le _) (Nat.zero_le _) dX5_nightHousesAt_7 (fun r_1 u_2 w_3 => ?_)
  try dsimp only at w_3
  subst w_3
  refine J_iret (pc := 10) X hr () dX5_nightHousesAt_10 ?_ rfl
  rfl
