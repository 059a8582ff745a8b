set_option maxRecDepth 100000 in
set_option maxHeartbeats 600000 in
theorem kX7_get (l : Launch) (G : va_G) (cI cC cZ : ClassId) (qs : Nat) (qsc : Nat) (c : Nat → Int32) (w : Nat) (pt : Nat) (hw : w < 4) (hpt : pt < 4) : CI l G (tys3 cI cC cZ) yX7_get cX7_get 4 (some .int) ({ frames := 0, cells := 0, slots := 0, locals := 0 }) [.ref qs, .int (nI w), .int (nI pt)] [(qs, .inr (7, [.ref qsc])), (qsc, .inl (cI, 18, .inl c))] (S := Unit) (fun (r : Int32) (u : Unit) => r = c (4 * w + pt + 2)) (fun _ => [(qs, .inr (7, [.ref qsc])), (qsc, .inl (cI, 18, .inl c))]) := by
  refine CI.intro (by decide) (Nat.le_of_ble_eq_true rfl) ?_
  intro p0 e0 s0 m0 ar0 be0 me0 c0 A0 X hr
  refine J_iconst (pc := 0) X 2 dX7_get_0 (by decide) ?_
  refine J_iload_n (pc := 1) X 1 dX7_get_1 rfl ?_
  refine J_iconst (pc := 2) X 4 dX7_get_2 (by decide) ?_
  refine J_imul (pc := 3) X dX7_get_3 ?_
  refine J_top (y := nI (4 * w)) (n_mul (x := w) (y := 4) rfl rfl (by omega)) ?_
  refine J_iadd (pc := 4) X dX7_get_4 ?_
  refine J_top (y := nI (4 * w + 2)) (n_add (x := 2) (y := 4 * w) rfl rfl (by omega)) ?_
  refine J_iload_n (pc := 5) X 2 dX7_get_5 rfl ?_
  refine J_iadd (pc := 6) X dX7_get_6 ?_
  refine J_top (y := nI (4 * w + pt + 2)) (n_add (x := 4 * w + 2) (y := pt) rfl rfl (by omega)) ?_
  refine J_istore_n (pc := 7) X [(3, .int (nI (4 * w + pt + 2))), (0, .ref qs), (1, .int (nI w)), (2, .int (nI pt))] dX7_get_7 (by decide) rfl ?_
  refine J_iload_n (pc := 8) X 0 dX7_get_8 rfl ?_
  refine J_if_lt (pc := 9) X 30 dX7_get_9 (by decide) (fun c_1 => ?_) (fun c_1 => ?_)
  · have c_1 : 4 * w + pt + 2 < 0 := n_lt_of (a := 4 * w + pt + 2) (b := 0) (by omega) (by omega) c_1
    exfalso; omega
  · have c_1 : 0 ≤ 4 * w + pt + 2 := n_nlt_of (a := 4 * w + pt + 2) (b := 0) (by omega) (by omega) c_1
    refine J_iload_n (pc := 12) X 0 dX7_get_12 rfl ?_
    refine J_aload_n (pc := 13) X 1 dX7_get_13 rfl ?_
    refine J_get (pc := 14) X clX7 0 0 rfl (by decide) g149 rfl dX7_get_14 ?_
    refine J_alen (pc := 17) X 1 0 rfl rfl dX7_get_17 ?_
    refine J_icmp_ge (pc := 18) X 30 dX7_get_18 (by decide) (fun c_2 => ?_) (fun c_2 => ?_)
    · have c_2 : 18 ≤ 4 * w + pt + 2 := n_le_of (a := 18) (b := 4 * w + pt + 2) (by omega) (by omega) c_2
      exfalso; omega
    · have c_2 : 4 * w + pt + 2 < 18 := n_nle_of (a := 18) (b := 4 * w + pt + 2) (by omega) (by omega) c_2
      refine J_aload_n (pc := 21) X 1 dX7_get_21 rfl ?_
      refine J_get (pc := 22) X clX7 0 0 rfl (by decide) g149 rfl dX7_get_22 ?_
      refine J_iload_n (pc := 25) X 0 dX7_get_25 rfl ?_
      refine J_iald (pc := 26) X 1 0 (4 * w + pt + 2) rfl rfl rfl (by omega) (by decide) dX7_get_26 ?_
      refine J_goto (pc := 27) X 31 dX7_get_27 (by decide) ?_
      refine J_iret (pc := 31) X hr () dX7_get_31 ?_ rfl
      rfl
set_option maxRecDepth 100000 in
set_option maxHeartbeats 600000 in
theorem kX7_set (l : Launch) (G : va_G) (cI cC cZ : ClassId) (qs : Nat) (qsc : Nat) (c : Nat → Int32) (w : Nat) (pt : Nat) (v : Int32) (hw : w < 4) (hpt : pt < 4) : CV l G (tys3 cI cC cZ) yX7_set cX7_set 5 ({ frames := 0, cells := 0, slots := 0, locals := 0 }) [.ref qs, .int (nI w), .int (nI pt), .int v] [(qs, .inr (7, [.ref qsc])), (qsc, .inl (cI, 18, .inl c))] (S := Unit) (fun (u : Unit) => True) (fun (u : Unit) => [(qs, .inr (7, [.ref qsc])), (qsc, .inl (cI, 18, .inl (upd c (4 * w + pt + 2) v)))]) := by
  refine CV.intro (by decide) (Nat.le_of_ble_eq_true rfl) ?_
  intro p0 e0 s0 m0 ar0 be0 me0 c0 A0 X hr
  refine J_iconst (pc := 0) X 2 dX7_set_0 (by decide) ?_
  refine J_iload_n (pc := 1) X 1 dX7_set_1 rfl ?_
  refine J_iconst (pc := 2) X 4 dX7_set_2 (by decide) ?_
  refine J_imul (pc := 3) X dX7_set_3 ?_
  refine J_top (y := nI (4 * w)) (n_mul (x := w) (y := 4) rfl rfl (by omega)) ?_
  refine J_iadd (pc := 4) X dX7_set_4 ?_
  refine J_top (y := nI (4 * w + 2)) (n_add (x := 2) (y := 4 * w) rfl rfl (by omega)) ?_
  refine J_iload_n (pc := 5) X 2 dX7_set_5 rfl ?_
  refine J_iadd (pc := 6) X dX7_set_6 ?_
  refine J_top (y := nI (4 * w + pt + 2)) (n_add (x := 4 * w + 2) (y := pt) rfl rfl (by omega)) ?_
  refine J_istore (pc := 7) X [(4, .int (nI (4 * w + pt + 2))), (0, .ref qs), (1, .int (nI w)), (2, .int (nI pt)), (3, .int v)] dX7_set_7 (by decide) rfl ?_
  refine J_iload (pc := 9) X 0 dX7_set_9 rfl ?_
  refine J_if_lt (pc := 11) X 32 dX7_set_11 (by decide) (fun c_1 => ?_) (fun c_1 => ?_)
  · have c_1 : 4 * w + pt + 2 < 0 := n_lt_of (a := 4 * w + pt + 2) (b := 0) (by omega) (by omega) c_1
    exfalso; omega
  · have c_1 : 0 ≤ 4 * w + pt + 2 := n_nlt_of (a := 4 * w + pt + 2) (b := 0) (by omega) (by omega) c_1
    refine J_iload (pc := 14) X 0 dX7_set_14 rfl ?_
    refine J_aload_n (pc := 16) X 1 dX7_set_16 rfl ?_
    refine J_get (pc := 17) X clX7 0 0 rfl (by decide) g149 rfl dX7_set_17 ?_
    refine J_alen (pc := 20) X 1 0 rfl rfl dX7_set_20 ?_
    refine J_icmp_ge (pc := 21) X 32 dX7_set_21 (by decide) (fun c_2 => ?_) (fun c_2 => ?_)
    · have c_2 : 18 ≤ 4 * w + pt + 2 := n_le_of (a := 18) (b := 4 * w + pt + 2) (by omega) (by omega) c_2
      exfalso; omega
    · have c_2 : 4 * w + pt + 2 < 18 := n_nle_of (a := 18) (b := 4 * w + pt + 2) (by omega) (by omega) c_2
      refine J_aload_n (pc := 24) X 1 dX7_set_24 rfl ?_
      refine J_get (pc := 25) X clX7 0 0 rfl (by decide) g149 rfl dX7_set_25 ?_
      refine J_iload (pc := 28) X 0 dX7_set_28 rfl ?_
      refine J_iload_n (pc := 30) X 4 dX7_set_30 rfl ?_
      refine J_iast (pc := 31) X 1 0 (4 * w + pt + 2) [(qs, .inr (7, [.ref qsc])), (qsc, .inl (cI, 18, .inl (upd c (4 * w + pt + 2) v)))] rfl rfl rfl (by omega) (by decide) rfl dX7_set_31 ?_
      refine J_vret (pc := 32) X hr () dX7_set_32 ?_ rfl
      trivial
set_option maxRecDepth 100000 in
set_option maxHeartbeats 600000 in
theorem kX7_clock (l : Launch) (G : va_G) (cI cC cZ : ClassId) (qs : Nat) (qsc : Nat) (c : Nat → Int32) : CI l G (tys3 cI cC cZ) yX7_clock cX7_clock 1 (some .int) ({ frames := 0, cells := 0, slots := 0, locals := 0 }) [.ref qs] [(qs, .inr (7, [.ref qsc])), (qsc, .inl (cI, 18, .inl c))] (S := Unit) (fun (r : Int32) (u : Unit) => r = c 0) (fun _ => [(qs, .inr (7, [.ref qsc])), (qsc, .inl (cI, 18, .inl c))]) := by
  refine CI.intro (by decide) (Nat.le_of_ble_eq_true rfl) ?_
  intro p0 e0 s0 m0 ar0 be0 me0 c0 A0 X hr
  refine J_aload_n (pc := 0) X 0 dX7_clock_0 rfl ?_
  refine J_get (pc := 1) X clX7 0 0 rfl (by decide) g149 rfl dX7_clock_1 ?_
  refine J_iconst (pc := 4) X 0 dX7_clock_4 (by decide) ?_
  refine J_iald (pc := 5) X 1 0 0 rfl rfl rfl (by decide) (by decide) dX7_clock_5 ?_
  refine J_iret (pc := 6) X hr () dX7_clock_6 ?_ rfl
  rfl
set_option maxRecDepth 100000 in
set_option maxHeartbeats 600000 in
theorem kX7_ropeSet (l : Launch) (G : va_G) (cI cC cZ : ClassId) (qs : Nat) (qsc : Nat) (c : Nat → Int32) : CI l G (tys3 cI cC cZ) yX7_ropeSet cX7_ropeSet 1 (some .int) ({ frames := 0, cells := 0, slots := 0, locals := 0 }) [.ref qs] [(qs, .inr (7, [.ref qsc])), (qsc, .inl (cI, 18, .inl c))] (S := Unit) (fun (r : Int32) (u : Unit) => r = c 1) (fun _ => [(qs, .inr (7, [.ref qsc])), (qsc, .inl (cI, 18, .inl c))]) := by
  refine CI.intro (by decide) (Nat.le_of_ble_eq_true rfl) ?_
  intro p0 e0 s0 m0 ar0 be0 me0 c0 A0 X hr
  refine J_aload_n (pc := 0) X 0 dX7_ropeSet_0 rfl ?_
  refine J_get (pc := 1) X clX7 0 0 rfl (by decide) g149 rfl dX7_ropeSet_1 ?_
  refine J_iconst (pc := 4) X 1 dX7_ropeSet_4 (by decide) ?_
  refine J_iald (pc := 5) X 1 0 1 rfl rfl rfl (by decide) (by decide) dX7_ropeSet_5 ?_
  refine J_iret (pc := 6) X hr () dX7_ropeSet_6 ?_ rfl
  rfl
set_option maxRecDepth 100000 in
set_option maxHeartbeats 600000 in
theorem kX7_hasRope (l : Launch) (G : va_G) (cI cC cZ : ClassId) (qs : Nat) (qsc : Nat) (c : Nat → Int32) (k : Nat) : CI l G (tys3 cI cC cZ) yX7_hasRope cX7_hasRope 2 (some .boolean) ({ frames := 0, cells := 0, slots := 0, locals := 0 }) [.ref qs, .int (nI k)] [(qs, .inr (7, [.ref qsc])), (qsc, .inl (cI, 18, .inl c))] (S := Unit) (fun (r : Int32) (u : Unit) => r = bI (hasR (c 1) k)) (fun _ => [(qs, .inr (7, [.ref qsc])), (qsc, .inl (cI, 18, .inl c))]) := by
  refine CI.intro (by decide) (Nat.le_of_ble_eq_true rfl) ?_
  intro p0 e0 s0 m0 ar0 be0 me0 c0 A0 X hr
  refine J_aload_n (pc := 0) X 0 dX7_hasRope_0 rfl ?_
  refine J_get (pc := 1) X clX7 0 0 rfl (by decide) g149 rfl dX7_hasRope_1 ?_
  refine J_iconst (pc := 4) X 1 dX7_hasRope_4 (by decide) ?_
  refine J_iald (pc := 5) X 1 0 1 rfl rfl rfl (by decide) (by decide) dX7_hasRope_5 ?_
  refine J_iload_n (pc := 6) X 1 dX7_hasRope_6 rfl ?_
  refine J_ishr (pc := 7) X dX7_hasRope_7 ?_
  refine J_iconst (pc := 8) X 1 dX7_hasRope_8 (by decide) ?_
  refine J_iand (pc := 9) X dX7_hasRope_9 ?_
  refine J_iconst (pc := 10) X 1 dX7_hasRope_10 (by decide) ?_
  refine J_icmp_ne (pc := 11) X 18 dX7_hasRope_11 (by decide) (fun c_1 => ?_) (fun c_1 => ?_)
  · skip
    refine J_iconst (pc := 18) X 0 dX7_hasRope_18 (by decide) ?_
    refine J_zret (pc := 19) X hr () rfl dX7_hasRope_19 ?_ rfl
    first | exact (bI_t (by assumption)).symm | exact (bI_f (by assumption)).symm
  · skip
    refine J_iconst (pc := 14) X 1 dX7_hasRope_14 (by decide) ?_
    refine J_goto (pc := 15) X 19 dX7_hasRope_15 (by decide) ?_
    refine J_zret (pc := 19) X hr () rfl dX7_hasRope_19 ?_ rfl
    first | exact (bI_t (by assumption)).symm | exact (bI_f (by assumption)).symm
set_option maxRecDepth 100000 in
set_option maxHeartbeats 600000 in
theorem kX7_layRope (l : Launch) (G : va_G) (cI cC cZ : ClassId) (qs : Nat) (qsc : Nat) (c : Nat → Int32) (k : Nat) (is_ : Int32) : CV l G (tys3 cI cC cZ) yX7_layRope cX7_layRope 3 ({ frames := 0, cells := 0, slots := 0, locals := 0 }) [.ref qs, .int (nI k), .int is_] [(qs, .inr (7, [.ref qsc])), (qsc, .inl (cI, 18, .inl c))] (S := (Nat → Int32)) (fun (u : (Nat → Int32)) => u = upd c 1 (if is_ = 0 then c 1 &&& ((1 : Int32) <<< (nI k &&& 31) ^^^ (-1)) else c 1 ||| (1 : Int32) <<< (nI k &&& 31))) (fun (u : (Nat → Int32)) => [(qs, .inr (7, [.ref qsc])), (qsc, .inl (cI, 18, .inl u))]) := by
  refine CV.intro (by decide) (Nat.le_of_ble_eq_true rfl) ?_
  intro p0 e0 s0 m0 ar0 be0 me0 c0 A0 X hr
  refine J_iload_n (pc := 0) X 2 dX7_layRope_0 rfl ?_
  refine J_if_eq (pc := 1) X 19 dX7_layRope_1 (by decide) (fun c_1 => ?_) (fun c_1 => ?_)
  · skip
    refine J_aload_n (pc := 19) X 0 dX7_layRope_19 rfl ?_
    refine J_get (pc := 20) X clX7 0 0 rfl (by decide) g149 rfl dX7_layRope_20 ?_
    refine J_iconst (pc := 23) X 1 dX7_layRope_23 (by decide) ?_
    refine J_dup2 (pc := 24) X dX7_layRope_24 rfl rfl ?_
    refine J_iald (pc := 25) X 1 0 1 rfl rfl rfl (by decide) (by decide) dX7_layRope_25 ?_
    refine J_iconst (pc := 26) X 1 dX7_layRope_26 (by decide) ?_
    refine J_iload_n (pc := 27) X 1 dX7_layRope_27 rfl ?_
    refine J_ishl (pc := 28) X dX7_layRope_28 ?_
    refine J_iconst (pc := 29) X (-1) dX7_layRope_29 (by decide) ?_
    refine J_ixor (pc := 30) X dX7_layRope_30 ?_
    refine J_iand (pc := 31) X dX7_layRope_31 ?_
    refine J_iast (pc := 32) X 1 0 1 [(qs, .inr (7, [.ref qsc])), (qsc, .inl (cI, 18, .inl (upd c 1 ((c 1) &&& ((1 <<< ((nI k) &&& 31)) ^^^ (-1))))))] rfl rfl rfl (by decide) (by decide) rfl dX7_layRope_32 ?_
    refine J_vret (pc := 33) X hr (upd c 1 ((c 1) &&& ((1 <<< ((nI k) &&& 31)) ^^^ (-1)))) dX7_layRope_33 ?_ rfl
    first | (rw [if_pos (by assumption)]; done) | (rw [if_neg (by assumption)]; done)
  · skip
    refine J_aload_n (pc := 4) X 0 dX7_layRope_4 rfl ?_
    refine J_get (pc := 5) X clX7 0 0 rfl (by decide) g149 rfl dX7_layRope_5 ?_
    refine J_iconst (pc := 8) X 1 dX7_layRope_8 (by decide) ?_
    refine J_dup2 (pc := 9) X dX7_layRope_9 rfl rfl ?_
    refine J_iald (pc := 10) X 1 0 1 rfl rfl rfl (by decide) (by decide) dX7_layRope_10 ?_
    refine J_iconst (pc := 11) X 1 dX7_layRope_11 (by decide) ?_
    refine J_iload_n (pc := 12) X 1 dX7_layRope_12 rfl ?_
    refine J_ishl (pc := 13) X dX7_layRope_13 ?_
    refine J_ior (pc := 14) X dX7_layRope_14 ?_
    refine J_iast (pc := 15) X 1 0 1 [(qs, .inr (7, [.ref qsc])), (qsc, .inl (cI, 18, .inl (upd c 1 ((c 1) ||| (1 <<< ((nI k) &&& 31))))))] rfl rfl rfl (by decide) (by decide) rfl dX7_layRope_15 ?_
    refine J_goto (pc := 16) X 33 dX7_layRope_16 (by decide) ?_
    refine J_vret (pc := 33) X hr (upd c 1 ((c 1) ||| (1 <<< ((nI k) &&& 31)))) dX7_layRope_33 ?_ rfl
    first | (rw [if_pos (by assumption)]; done) | (rw [if_neg (by assumption)]; done)
set_option maxRecDepth 100000 in
set_option maxHeartbeats 600000 in
theorem kX7_houseOf (l : Launch) (G : va_G) (cI cC cZ : ClassId) (qs : Nat) (qsc : Nat) (c : Nat → Int32) (w : Nat) (hw : w < 4) : CI l G (tys3 cI cC cZ) yX7_houseOf cX7_houseOf 2 (some .int) ({ frames := 1, cells := 0, slots := 0, locals := 23 }) [.ref qs, .int (nI w)] [(qs, .inr (7, [.ref qsc])), (qsc, .inl (cI, 18, .inl c))] (S := Unit) (fun (r : Int32) (u : Unit) => r = c (4 * w + 2)) (fun _ => [(qs, .inr (7, [.ref qsc])), (qsc, .inl (cI, 18, .inl c))]) := by
  refine CI.intro (by decide) (Nat.le_of_ble_eq_true rfl) ?_
  intro p0 e0 s0 m0 ar0 be0 me0 c0 A0 X hr
  refine J_aload_n (pc := 0) X 0 dX7_houseOf_0 rfl ?_
  refine J_iload_n (pc := 1) X 1 dX7_houseOf_1 rfl ?_
  refine J_iconst (pc := 2) X 0 dX7_houseOf_2 (by decide) ?_
  refine J_callR (pc := 3) (As := [.int (nI w), .int 0]) (rest := []) X mtX7_get g519 [0, 1] 0 (kX7_get l G cI cC cZ qs qsc c w 0 (by first | assumption | omega) (by first | assumption | omega)) ⟨Nat.le_of_ble_eq_true rfl, Nat.le_of_ble_eq_true rfl⟩ rfl rfl rfl (by decide) rfl rfl rfl rfl rfl (Nat.le_of_ble_eq_true rfl) (Nat.zero_le _) (Nat.zero_le _) dX7_houseOf_3 (fun r_1 u_2 w_3 => ?_)
  try dsimp only at w_3
  subst w_3
  refine J_iret (pc := 6) X hr () dX7_houseOf_6 ?_ rfl
  rfl
set_option maxRecDepth 100000 in
set_option maxHeartbeats 600000 in
theorem kX7_gapOf (l : Launch) (G : va_G) (cI cC cZ : ClassId) (qs : Nat) (qsc : Nat) (c : Nat → Int32) (w : Nat) (hw : w < 4) : CI l G (tys3 cI cC cZ) yX7_gapOf cX7_gapOf 2 (some .int) ({ frames := 1, cells := 0, slots := 0, locals := 23 }) [.ref qs, .int (nI w)] [(qs, .inr (7, [.ref qsc])), (qsc, .inl (cI, 18, .inl c))] (S := Unit) (fun (r : Int32) (u : Unit) => r = c (4 * w + 3)) (fun _ => [(qs, .inr (7, [.ref qsc])), (qsc, .inl (cI, 18, .inl c))]) := by
  refine CI.intro (by decide) (Nat.le_of_ble_eq_true rfl) ?_
  intro p0 e0 s0 m0 ar0 be0 me0 c0 A0 X hr
  refine J_aload_n (pc := 0) X 0 dX7_gapOf_0 rfl ?_
  refine J_iload_n (pc := 1) X 1 dX7_gapOf_1 rfl ?_
  refine J_iconst (pc := 2) X 1 dX7_gapOf_2 (by decide) ?_
  refine J_callR (pc := 3) (As := [.int (nI w), .int 1]) (rest := []) X mtX7_get g519 [0, 1] 0 (kX7_get l G cI cC cZ qs qsc c w 1 (by first | assumption | omega) (by first | assumption | omega)) ⟨Nat.le_of_ble_eq_true rfl, Nat.le_of_ble_eq_true rfl⟩ rfl rfl rfl (by decide) rfl rfl rfl rfl rfl (Nat.le_of_ble_eq_true rfl) (Nat.zero_le _) (Nat.zero_le _) dX7_gapOf_3 (fun r_1 u_2 w_3 => ?_)
  try dsimp only at w_3
  subst w_3
  refine J_iret (pc := 6) X hr () dX7_gapOf_6 ?_ rfl
  rfl
set_option maxRecDepth 100000 in
set_option maxHeartbeats 600000 in
theorem kX7_yardsOf (l : Launch) (G : va_G) (cI cC cZ : ClassId) (qs : Nat) (qsc : Nat) (c : Nat → Int32) (w : Nat) (hw : w < 4) : CI l G (tys3 cI cC cZ) yX7_yardsOf cX7_yardsOf 2 (some .int) ({ frames := 1, cells := 0, slots := 0, locals := 23 }) [.ref qs, .int (nI w)] [(qs, .inr (7, [.ref qsc])), (qsc, .inl (cI, 18, .inl c))] (S := Unit) (fun (r : Int32) (u : Unit) => r = c (4 * w + 4)) (fun _ => [(qs, .inr (7, [.ref qsc])), (qsc, .inl (cI, 18, .inl c))]) := by
  refine CI.intro (by decide) (Nat.le_of_ble_eq_true rfl) ?_
  intro p0 e0 s0 m0 ar0 be0 me0 c0 A0 X hr
  refine J_aload_n (pc := 0) X 0 dX7_yardsOf_0 rfl ?_
  refine J_iload_n (pc := 1) X 1 dX7_yardsOf_1 rfl ?_
  refine J_iconst (pc := 2) X 2 dX7_yardsOf_2 (by decide) ?_
  refine J_callR (pc := 3) (As := [.int (nI w), .int 2]) (rest := []) X mtX7_get g519 [0, 1] 0 (kX7_get l G cI cC cZ qs qsc c w 2 (by first | assumption | omega) (by first | assumption | omega)) ⟨Nat.le_of_ble_eq_true rfl, Nat.le_of_ble_eq_true rfl⟩ rfl rfl rfl (by decide) rfl rfl rfl rfl rfl (Nat.le_of_ble_eq_true rfl) (Nat.zero_le _) (Nat.zero_le _) dX7_yardsOf_3 (fun r_1 u_2 w_3 => ?_)
  try dsimp only at w_3
  subst w_3
  refine J_iret (pc := 6) X hr () dX7_yardsOf_6 ?_ rfl
  rfl
set_option maxRecDepth 100000 in
set_option maxHeartbeats 600000 in
theorem kX7_wayOf (l : Launch) (G : va_G) (cI cC cZ : ClassId) (qs : Nat) (qsc : Nat) (c : Nat → Int32) (w : Nat) (hw : w < 4) : CI l G (tys3 cI cC cZ) yX7_wayOf cX7_wayOf 2 (some .int) ({ frames := 1, cells := 0, slots := 0, locals := 23 }) [.ref qs, .int (nI w)] [(qs, .inr (7, [.ref qsc])), (qsc, .inl (cI, 18, .inl c))] (S := Unit) (fun (r : Int32) (u : Unit) => r = c (4 * w + 5)) (fun _ => [(qs, .inr (7, [.ref qsc])), (qsc, .inl (cI, 18, .inl c))]) := by
  refine CI.intro (by decide) (Nat.le_of_ble_eq_true rfl) ?_
  intro p0 e0 s0 m0 ar0 be0 me0 c0 A0 X hr
  refine J_aload_n (pc := 0) X 0 dX7_wayOf_0 rfl ?_
  refine J_iload_n (pc := 1) X 1 dX7_wayOf_1 rfl ?_
  refine J_iconst (pc := 2) X 3 dX7_wayOf_2 (by decide) ?_
  refine J_callR (pc := 3) (As := [.int (nI w), .int 3]) (rest := []) X mtX7_get g519 [0, 1] 0 (kX7_get l G cI cC cZ qs qsc c w 3 (by first | assumption | omega) (by first | assumption | omega)) ⟨Nat.le_of_ble_eq_true rfl, Nat.le_of_ble_eq_true rfl⟩ rfl rfl rfl (by decide) rfl rfl rfl rfl rfl (Nat.le_of_ble_eq_true rfl) (Nat.zero_le _) (Nat.zero_le _) dX7_wayOf_3 (fun r_1 u_2 w_3 => ?_)
  try dsimp only at w_3
  subst w_3
  refine J_iret (pc := 6) X hr () dX7_wayOf_6 ?_ rfl
  rfl
set_option maxRecDepth 100000 in
set_option maxHeartbeats 600000 in
theorem kX7_isInGap (l : Launch) (G : va_G) (cI cC cZ : ClassId) (qs : Nat) (qsc : Nat) (c : Nat → Int32) (w : Nat) (hw : w < 4) : CI l G (tys3 cI cC cZ) yX7_isInGap cX7_isInGap 2 (some .boolean) ({ frames := 1, cells := 0, slots := 0, locals := 23 }) [.ref qs, .int (nI w)] [(qs, .inr (7, [.ref qsc])), (qsc, .inl (cI, 18, .inl c))] (S := Unit) (fun (r : Int32) (u : Unit) => r = bI (¬ c (4 * w + 3) = -1)) (fun _ => [(qs, .inr (7, [.ref qsc])), (qsc, .inl (cI, 18, .inl c))]) := by
  refine CI.intro (by decide) (Nat.le_of_ble_eq_true rfl) ?_
  intro p0 e0 s0 m0 ar0 be0 me0 c0 A0 X hr
  refine J_aload_n (pc := 0) X 0 dX7_isInGap_0 rfl ?_
  refine J_iload_n (pc := 1) X 1 dX7_isInGap_1 rfl ?_
  refine J_iconst (pc := 2) X 1 dX7_isInGap_2 (by decide) ?_
  refine J_callR (pc := 3) (As := [.int (nI w), .int 1]) (rest := []) X mtX7_get g519 [0, 1] 0 (kX7_get l G cI cC cZ qs qsc c w 1 (by first | assumption | omega) (by first | assumption | omega)) ⟨Nat.le_of_ble_eq_true rfl, Nat.le_of_ble_eq_true rfl⟩ rfl rfl rfl (by decide) rfl rfl rfl rfl rfl (Nat.le_of_ble_eq_true rfl) (Nat.zero_le _) (Nat.zero_le _) dX7_isInGap_3 (fun r_1 u_2 w_3 => ?_)
  try dsimp only at w_3
  subst w_3
  refine J_iconst (pc := 6) X (-1) dX7_isInGap_6 (by decide) ?_
  refine J_icmp_eq (pc := 7) X 14 dX7_isInGap_7 (by decide) (fun c_4 => ?_) (fun c_4 => ?_)
  · skip
    refine J_iconst (pc := 14) X 0 dX7_isInGap_14 (by decide) ?_
    refine J_zret (pc := 15) X hr () rfl dX7_isInGap_15 ?_ rfl
    first | exact (bI_t (by assumption)).symm | exact (bI_f (not_not_intro (by assumption))).symm
  · skip
    refine J_iconst (pc := 10) X 1 dX7_isInGap_10 (by decide) ?_
    refine J_goto (pc := 11) X 15 dX7_isInGap_11 (by decide) ?_
    refine J_zret (pc := 15) X hr () rfl dX7_isInGap_15 ?_ rfl
    first | exact (bI_t (by assumption)).symm | exact (bI_f (not_not_intro (by assumption))).symm
set_option maxRecDepth 100000 in
set_option maxHeartbeats 600000 in
theorem kX7_stand (l : Launch) (G : va_G) (cI cC cZ : ClassId) (qs : Nat) (qsc : Nat) (c : Nat → Int32) (w : Nat) (h : Int32) (hw : w < 4) : CV l G (tys3 cI cC cZ) yX7_stand cX7_stand 3 ({ frames := 1, cells := 0, slots := 0, locals := 24 }) [.ref qs, .int (nI w), .int h] [(qs, .inr (7, [.ref qsc])), (qsc, .inl (cI, 18, .inl c))] (S := Unit) (fun (u : Unit) => True) (fun (u : Unit) => [(qs, .inr (7, [.ref qsc])), (qsc, .inl (cI, 18, .inl (upd (upd (upd c (4 * w + 0 + 2) h) (4 * w + 1 + 2) (-1)) (4 * w + 2 + 2) 0)))]) := by
  refine CV.intro (by decide) (Nat.le_of_ble_eq_true rfl) ?_
  intro p0 e0 s0 m0 ar0 be0 me0 c0 A0 X hr
  refine J_aload_n (pc := 0) X 0 dX7_stand_0 rfl ?_
  refine J_iload_n (pc := 1) X 1 dX7_stand_1 rfl ?_
  refine J_iconst (pc := 2) X 0 dX7_stand_2 (by decide) ?_
  refine J_iload_n (pc := 3) X 2 dX7_stand_3 rfl ?_
  refine J_callV (pc := 4) (As := [.int (nI w), .int 0, .int h]) (rest := []) X mtX7_set g407 [0, 1] [] [0, 1] 0 (fun u => [(qs, .inr (7, [.ref qsc])), (qsc, .inl (cI, 18, .inl (upd c (4 * w + 0 + 2) h)))]) (kX7_set l G cI cC cZ qs qsc c w 0 h (by first | assumption | omega) (by first | assumption | omega)) ⟨Nat.le_of_ble_eq_true rfl, Nat.le_of_ble_eq_true rfl⟩ rfl rfl rfl (by decide) (wr := []) rfl (by decide) (by decide) (fun _ => rfl) (by decide) rfl rfl rfl rfl rfl (Nat.le_of_ble_eq_true rfl) (Nat.zero_le _) (Nat.zero_le _) dX7_stand_4 (fun u_2 w_3 => ?_)
  try dsimp only at w_3
  refine J_aload_n (pc := 7) X 0 dX7_stand_7 rfl ?_
  refine J_iload_n (pc := 8) X 1 dX7_stand_8 rfl ?_
  refine J_iconst (pc := 9) X 1 dX7_stand_9 (by decide) ?_
  refine J_iconst (pc := 10) X (-1) dX7_stand_10 (by decide) ?_
  refine J_callV (pc := 11) (As := [.int (nI w), .int 1, .int (-1)]) (rest := []) X mtX7_set g407 [0, 1] [] [0, 1] 0 (fun u => [(qs, .inr (7, [.ref qsc])), (qsc, .inl (cI, 18, .inl (upd (upd c (4 * w + 0 + 2) h) (4 * w + 1 + 2) (-1))))]) (kX7_set l G cI cC cZ qs qsc (upd c (4 * w + 0 + 2) h) w 1 (-1) (by first | assumption | omega) (by first | assumption | omega)) ⟨Nat.le_of_ble_eq_true rfl, Nat.le_of_ble_eq_true rfl⟩ rfl rfl rfl (by decide) (wr := []) rfl (by decide) (by decide) (fun _ => rfl) (by decide) rfl rfl rfl rfl rfl (Nat.le_of_ble_eq_true rfl) (Nat.zero_le _) (Nat.zero_le _) dX7_stand_11 (fun u_5 w_6 => ?_)
  try dsimp only at w_6
  refine J_aload_n (pc := 14) X 0 dX7_stand_14 rfl ?_
  refine J_iload_n (pc := 15) X 1 dX7_stand_15 rfl ?_
  refine J_iconst (pc := 16) X 2 dX7_stand_16 (by decide) ?_
  refine J_iconst (pc := 17) X 0 dX7_stand_17 (by decide) ?_
  refine J_callV (pc := 18) (As := [.int (nI w), .int 2, .int 0]) (rest := []) X mtX7_set g407 [0, 1] [] [0, 1] 0 (fun u => [(qs, .inr (7, [.ref qsc])), (qsc, .inl (cI, 18, .inl (upd (upd (upd c (4 * w + 0 + 2) h) (4 * w + 1 + 2) (-1)) (4 * w + 2 + 2) 0)))]) (kX7_set l G cI cC cZ qs qsc (upd (upd c (4 * w + 0 + 2) h) (4 * w + 1 + 2) (-1)) w 2 0 (by first | assumption | omega) (by first | assumption | omega)) ⟨Nat.le_of_ble_eq_true rfl, Nat.le_of_ble_eq_true rfl⟩ rfl rfl rfl (by decide) (wr := []) rfl (by decide) (by decide) (fun _ => rfl) (by decide) rfl rfl rfl rfl rfl (Nat.le_of_ble_eq_true rfl) (Nat.zero_le _) (Nat.zero_le _) dX7_stand_18 (fun u_8 w_9 => ?_)
  try dsimp only at w_9
  refine J_vret (pc := 21) X hr () dX7_stand_21 ?_ rfl
  trivial
set_option maxRecDepth 100000 in
set_option maxHeartbeats 600000 in
theorem kX7_writeTo (l : Launch) (G : va_G) (cI cC cZ : ClassId) (qs : Nat) (qsc : Nat) (c : Nat → Int32) (qr : Nat) (nr : Nat) (rw_ : Nat → Int32) (st_ : Nat) (hst : st_ + 18 ≤ nr) (hnr : nr ≤ 1000) : CV l G (tys3 cI cC cZ) yX7_writeTo cX7_writeTo 3 ({ frames := 1, cells := 0, slots := 0, locals := 18 }) [.ref qs, .ref qr, .int (nI st_)] [(qs, .inr (7, [.ref qsc])), (qsc, .inl (cI, 18, .inl c)), (qr, .inl (cI, nr, .inl rw_))] (S := Unit) (fun (u : Unit) => True) (fun (u : Unit) => [(qs, .inr (7, [.ref qsc])), (qsc, .inl (cI, 18, .inl c)), (qr, .inl (cI, nr, .inl (va_cpy c rw_ 0 st_ 18)))]) := by
  refine CV.intro (by decide) (Nat.le_of_ble_eq_true rfl) ?_
  intro p0 e0 s0 m0 ar0 be0 me0 c0 A0 X hr
  refine J_aload_n (pc := 0) X 1 dX7_writeTo_0 rfl ?_
  refine J_ifnull (pc := 1) X dX7_writeTo_1 ?_
  refine J_iload_n (pc := 4) X 2 dX7_writeTo_4 rfl ?_
  refine J_if_lt (pc := 5) X 29 dX7_writeTo_5 (by decide) (fun c_1 => ?_) (fun c_1 => ?_)
  · have c_1 : st_ < 0 := n_lt_of (a := st_) (b := 0) (by omega) (by omega) c_1
    exfalso; omega
  · have c_1 : 0 ≤ st_ := n_nlt_of (a := st_) (b := 0) (by omega) (by omega) c_1
    refine J_iload_n (pc := 8) X 2 dX7_writeTo_8 rfl ?_
    refine J_aload_n (pc := 9) X 1 dX7_writeTo_9 rfl ?_
    refine J_alen (pc := 10) X 2 0 rfl rfl dX7_writeTo_10 ?_
    refine J_bipush (pc := 11) X 18 dX7_writeTo_11 (by decide) ?_
    refine J_isub (pc := 13) X dX7_writeTo_13 ?_
    refine J_top (y := nI (nr - 18)) (n_sub (x := nr) (y := 18) rfl rfl (by omega) (by omega)) ?_
    refine J_icmp_gt (pc := 14) X 29 dX7_writeTo_14 (by decide) (fun c_2 => ?_) (fun c_2 => ?_)
    · have c_2 : nr - 18 < st_ := n_lt_of (a := nr - 18) (b := st_) (by omega) (by omega) c_2
      exfalso; omega
    · have c_2 : st_ ≤ nr - 18 := n_nlt_of (a := nr - 18) (b := st_) (by omega) (by omega) c_2
      refine J_aload_n (pc := 17) X 0 dX7_writeTo_17 rfl ?_
      refine J_get (pc := 18) X clX7 0 0 rfl (by decide) g149 rfl dX7_writeTo_18 ?_
      refine J_iconst (pc := 21) X 0 dX7_writeTo_21 (by decide) ?_
      refine J_aload_n (pc := 22) X 1 dX7_writeTo_22 rfl ?_
      refine J_iload_n (pc := 23) X 2 dX7_writeTo_23 rfl ?_
      refine J_bipush (pc := 24) X 18 dX7_writeTo_24 (by decide) ?_
      refine J_acopy (pc := 26) X g577 g579 g578 g75 1 2 0 0 st_ 18 [(qs, .inr (7, [.ref qsc])), (qsc, .inl (cI, 18, .inl c)), (qr, .inl (cI, nr, .inl (va_cpy c rw_ 0 st_ 18)))] rfl rfl rfl rfl rfl rfl (by omega) (by omega) (by decide) (by omega) rfl (Nat.le_of_ble_eq_true rfl) (Nat.le_of_ble_eq_true rfl) dX7_writeTo_26 ?_
      refine J_vret (pc := 29) X hr () dX7_writeTo_29 ?_ rfl
      trivial
set_option maxRecDepth 100000 in
set_option maxHeartbeats 600000 in
theorem kX7_readFrom (l : Launch) (G : va_G) (cI cC cZ : ClassId) (qs : Nat) (qsc : Nat) (c : Nat → Int32) (qr : Nat) (nr : Nat) (rw_ : Nat → Int32) (st_ : Nat) (hst : st_ + 18 ≤ nr) (hnr : nr ≤ 1000) : CV l G (tys3 cI cC cZ) yX7_readFrom cX7_readFrom 3 ({ frames := 1, cells := 0, slots := 0, locals := 18 }) [.ref qs, .ref qr, .int (nI st_)] [(qs, .inr (7, [.ref qsc])), (qsc, .inl (cI, 18, .inl c)), (qr, .inl (cI, nr, .inl rw_))] (S := Unit) (fun (u : Unit) => True) (fun (u : Unit) => [(qs, .inr (7, [.ref qsc])), (qsc, .inl (cI, 18, .inl (va_cpy rw_ c st_ 0 18))), (qr, .inl (cI, nr, .inl rw_))]) := by
  refine CV.intro (by decide) (Nat.le_of_ble_eq_true rfl) ?_
  intro p0 e0 s0 m0 ar0 be0 me0 c0 A0 X hr
  refine J_aload_n (pc := 0) X 1 dX7_readFrom_0 rfl ?_
  refine J_ifnull (pc := 1) X dX7_readFrom_1 ?_
  refine J_iload_n (pc := 4) X 2 dX7_readFrom_4 rfl ?_
  refine J_if_lt (pc := 5) X 29 dX7_readFrom_5 (by decide) (fun c_1 => ?_) (fun c_1 => ?_)
  · have c_1 : st_ < 0 := n_lt_of (a := st_) (b := 0) (by omega) (by omega) c_1
    exfalso; omega
  · have c_1 : 0 ≤ st_ := n_nlt_of (a := st_) (b := 0) (by omega) (by omega) c_1
    refine J_iload_n (pc := 8) X 2 dX7_readFrom_8 rfl ?_
    refine J_aload_n (pc := 9) X 1 dX7_readFrom_9 rfl ?_
    refine J_alen (pc := 10) X 2 0 rfl rfl dX7_readFrom_10 ?_
    refine J_bipush (pc := 11) X 18 dX7_readFrom_11 (by decide) ?_
    refine J_isub (pc := 13) X dX7_readFrom_13 ?_
    refine J_top (y := nI (nr - 18)) (n_sub (x := nr) (y := 18) rfl rfl (by omega) (by omega)) ?_
    refine J_icmp_gt (pc := 14) X 29 dX7_readFrom_14 (by decide) (fun c_2 => ?_) (fun c_2 => ?_)
    · have c_2 : nr - 18 < st_ := n_lt_of (a := nr - 18) (b := st_) (by omega) (by omega) c_2
      exfalso; omega
    · have c_2 : st_ ≤ nr - 18 := n_nlt_of (a := nr - 18) (b := st_) (by omega) (by omega) c_2
      refine J_aload_n (pc := 17) X 1 dX7_readFrom_17 rfl ?_
      refine J_iload_n (pc := 18) X 2 dX7_readFrom_18 rfl ?_
      refine J_aload_n (pc := 19) X 0 dX7_readFrom_19 rfl ?_
      refine J_get (pc := 20) X clX7 0 0 rfl (by decide) g149 rfl dX7_readFrom_20 ?_
      refine J_iconst (pc := 23) X 0 dX7_readFrom_23 (by decide) ?_
      refine J_bipush (pc := 24) X 18 dX7_readFrom_24 (by decide) ?_
      refine J_acopy (pc := 26) X g577 g579 g578 g75 2 1 0 st_ 0 18 [(qs, .inr (7, [.ref qsc])), (qsc, .inl (cI, 18, .inl (va_cpy rw_ c st_ 0 18))), (qr, .inl (cI, nr, .inl rw_))] rfl rfl rfl rfl rfl rfl (by omega) (by omega) (by omega) (by decide) rfl (Nat.le_of_ble_eq_true rfl) (Nat.le_of_ble_eq_true rfl) dX7_readFrom_26 ?_
      refine J_vret (pc := 29) X hr () dX7_readFrom_29 ?_ rfl
      trivial
set_option maxRecDepth 100000 in
set_option maxHeartbeats 600000 in
theorem kX7_copyFrom (l : Launch) (G : va_G) (cI cC cZ : ClassId) (qs : Nat) (qsc : Nat) (c : Nat → Int32) (qt : Nat) (qtc : Nat) (c9 : Nat → Int32) : CV l G (tys3 cI cC cZ) yX7_copyFrom cX7_copyFrom 2 ({ frames := 1, cells := 0, slots := 0, locals := 18 }) [.ref qs, .ref qt] [(qs, .inr (7, [.ref qsc])), (qsc, .inl (cI, 18, .inl c)), (qt, .inr (7, [.ref qtc])), (qtc, .inl (cI, 18, .inl c9))] (S := Unit) (fun (u : Unit) => True) (fun (u : Unit) => [(qs, .inr (7, [.ref qsc])), (qsc, .inl (cI, 18, .inl (va_cpy c9 c 0 0 18))), (qt, .inr (7, [.ref qtc])), (qtc, .inl (cI, 18, .inl c9))]) := by
  refine CV.intro (by decide) (Nat.le_of_ble_eq_true rfl) ?_
  intro p0 e0 s0 m0 ar0 be0 me0 c0 A0 X hr
  refine J_aload_n (pc := 0) X 1 dX7_copyFrom_0 rfl ?_
  refine J_get (pc := 1) X clX7 2 0 rfl (by decide) g149 rfl dX7_copyFrom_1 ?_
  refine J_iconst (pc := 4) X 0 dX7_copyFrom_4 (by decide) ?_
  refine J_aload_n (pc := 5) X 0 dX7_copyFrom_5 rfl ?_
  refine J_get (pc := 6) X clX7 0 0 rfl (by decide) g149 rfl dX7_copyFrom_6 ?_
  refine J_iconst (pc := 9) X 0 dX7_copyFrom_9 (by decide) ?_
  refine J_bipush (pc := 10) X 18 dX7_copyFrom_10 (by decide) ?_
  refine J_acopy (pc := 12) X g577 g579 g578 g75 3 1 0 0 0 18 [(qs, .inr (7, [.ref qsc])), (qsc, .inl (cI, 18, .inl (va_cpy c9 c 0 0 18))), (qt, .inr (7, [.ref qtc])), (qtc, .inl (cI, 18, .inl c9))] rfl rfl rfl rfl rfl rfl (by omega) (by omega) (by decide) (by decide) rfl (Nat.le_of_ble_eq_true rfl) (Nat.le_of_ble_eq_true rfl) dX7_copyFrom_12 ?_
  refine J_vret (pc := 15) X hr () dX7_copyFrom_15 ?_ rfl
  trivial
