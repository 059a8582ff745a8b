set_option maxRecDepth 100000 in
set_option maxHeartbeats 600000 in
theorem kX8_clear (l : Launch) (G : va_G) (cI cC cZ : ClassId) (qn : Nat) (a : Int32) (b : Int32) (n : Nat) : CV l G (tys3 cI cC cZ) yX8_clear cX8_clear 1 ({ frames := 0, cells := 0, slots := 0, locals := 0 }) [.ref qn] [(qn, .inr (8, [.int a, .int b, .int (nI n)]))] (S := Unit) (fun (u : Unit) => True) (fun (u : Unit) => [(qn, .inr (8, [.int (-1), .int (-1), .int 0]))]) := by
  refine CV.intro (by decide) (Nat.le_of_ble_eq_true rfl) ?_
  intro p0 e0 s0 m0 ar0 be0 me0 c0 A0 X hr
  refine J_aload_n (pc := 0) X 0 dX8_clear_0 rfl ?_
  refine J_iconst (pc := 1) X (-1) dX8_clear_1 (by decide) ?_
  refine J_put (pc := 2) X clX8 0 0 [(qn, .inr (8, [.int (-1), .int b, .int (nI n)]))] rfl (by decide) g231 rfl rfl rfl (Nat.le_of_ble_eq_true rfl) rfl dX8_clear_2 ?_
  refine J_aload_n (pc := 5) X 0 dX8_clear_5 rfl ?_
  refine J_iconst (pc := 6) X (-1) dX8_clear_6 (by decide) ?_
  refine J_put (pc := 7) X clX8 0 1 [(qn, .inr (8, [.int (-1), .int (-1), .int (nI n)]))] rfl (by decide) g232 rfl rfl rfl (Nat.le_of_ble_eq_true rfl) rfl dX8_clear_7 ?_
  refine J_aload_n (pc := 10) X 0 dX8_clear_10 rfl ?_
  refine J_iconst (pc := 11) X 0 dX8_clear_11 (by decide) ?_
  refine J_put (pc := 12) X clX8 0 2 [(qn, .inr (8, [.int (-1), .int (-1), .int 0]))] rfl (by decide) g233 rfl rfl rfl (Nat.le_of_ble_eq_true rfl) rfl dX8_clear_12 ?_
  refine J_vret (pc := 15) X hr () dX8_clear_15 ?_ rfl
  trivial
set_option maxRecDepth 100000 in
set_option maxHeartbeats 600000 in
theorem kX8_note (l : Launch) (G : va_G) (cI cC cZ : ClassId) (qn : Nat) (a : Int32) (b : Int32) (n : Nat) (t : Int32) (hn : n ≤ 1000) : CV l G (tys3 cI cC cZ) yX8_note cX8_note 2 ({ frames := 0, cells := 0, slots := 0, locals := 0 }) [.ref qn, .int t] [(qn, .inr (8, [.int a, .int b, .int (nI n)]))] (S := Int32) (fun (u : Int32) => u = (if n = 0 then t else a)) (fun (u : Int32) => [(qn, .inr (8, [.int u, .int t, .int (nI (n + 1))]))]) := by
  refine CV.intro (by decide) (Nat.le_of_ble_eq_true rfl) ?_
  intro p0 e0 s0 m0 ar0 be0 me0 c0 A0 X hr
  refine J_aload_n (pc := 0) X 0 dX8_note_0 rfl ?_
  refine J_aload_n (pc := 1) X 0 dX8_note_1 rfl ?_
  refine J_get (pc := 2) X clX8 0 2 rfl (by decide) g233 rfl dX8_note_2 ?_
  refine J_if_ne (pc := 5) X 12 dX8_note_5 (by decide) (fun c_1 => ?_) (fun c_1 => ?_)
  · have c_1 : ¬ n = 0 := n_ne_of (a := n) (b := 0) (by omega) (by omega) c_1
    refine J_aload_n (pc := 12) X 0 dX8_note_12 rfl ?_
    refine J_get (pc := 13) X clX8 0 0 rfl (by decide) g231 rfl dX8_note_13 ?_
    refine J_put (pc := 16) X clX8 0 0 [(qn, .inr (8, [.int a, .int b, .int (nI n)]))] rfl (by decide) g231 rfl rfl rfl (Nat.le_of_ble_eq_true rfl) rfl dX8_note_16 ?_
    refine J_aload_n (pc := 19) X 0 dX8_note_19 rfl ?_
    refine J_iload_n (pc := 20) X 1 dX8_note_20 rfl ?_
    refine J_put (pc := 21) X clX8 0 1 [(qn, .inr (8, [.int a, .int t, .int (nI n)]))] rfl (by decide) g232 rfl rfl rfl (Nat.le_of_ble_eq_true rfl) rfl dX8_note_21 ?_
    refine J_aload_n (pc := 24) X 0 dX8_note_24 rfl ?_
    refine J_dup (pc := 25) X dX8_note_25 rfl ?_
    refine J_get (pc := 26) X clX8 0 2 rfl (by decide) g233 rfl dX8_note_26 ?_
    refine J_iconst (pc := 29) X 1 dX8_note_29 (by decide) ?_
    refine J_iadd (pc := 30) X dX8_note_30 ?_
    refine J_top (y := nI (n + 1)) (n_add (x := n) (y := 1) rfl rfl (by omega)) ?_
    refine J_put (pc := 31) X clX8 0 2 [(qn, .inr (8, [.int a, .int t, .int (nI (n + 1))]))] rfl (by decide) g233 rfl rfl rfl (Nat.le_of_ble_eq_true rfl) rfl dX8_note_31 ?_
    refine J_vret (pc := 34) X hr a dX8_note_34 ?_ rfl
    first | exact (if_pos (by omega)).symm | exact (if_neg (by omega)).symm
  · have c_1 : n = 0 := n_eq_of (a := n) (b := 0) (by omega) (by omega) c_1
    refine J_iload_n (pc := 8) X 1 dX8_note_8 rfl ?_
    refine J_goto (pc := 9) X 16 dX8_note_9 (by decide) ?_
    refine J_put (pc := 16) X clX8 0 0 [(qn, .inr (8, [.int t, .int b, .int (nI n)]))] rfl (by decide) g231 rfl rfl rfl (Nat.le_of_ble_eq_true rfl) rfl dX8_note_16 ?_
    refine J_aload_n (pc := 19) X 0 dX8_note_19 rfl ?_
    refine J_iload_n (pc := 20) X 1 dX8_note_20 rfl ?_
    refine J_put (pc := 21) X clX8 0 1 [(qn, .inr (8, [.int t, .int t, .int (nI n)]))] rfl (by decide) g232 rfl rfl rfl (Nat.le_of_ble_eq_true rfl) rfl dX8_note_21 ?_
    refine J_aload_n (pc := 24) X 0 dX8_note_24 rfl ?_
    refine J_dup (pc := 25) X dX8_note_25 rfl ?_
    refine J_get (pc := 26) X clX8 0 2 rfl (by decide) g233 rfl dX8_note_26 ?_
    refine J_iconst (pc := 29) X 1 dX8_note_29 (by decide) ?_
    refine J_iadd (pc := 30) X dX8_note_30 ?_
    refine J_top (y := nI (n + 1)) (n_add (x := n) (y := 1) rfl rfl (by omega)) ?_
    refine J_put (pc := 31) X clX8 0 2 [(qn, .inr (8, [.int t, .int t, .int (nI (n + 1))]))] rfl (by decide) g233 rfl rfl rfl (Nat.le_of_ble_eq_true rfl) rfl dX8_note_31 ?_
    refine J_vret (pc := 34) X hr t dX8_note_34 ?_ rfl
    first | exact (if_pos (by omega)).symm | exact (if_neg (by omega)).symm
set_option maxRecDepth 100000 in
set_option maxHeartbeats 600000 in
theorem kX8_first (l : Launch) (G : va_G) (cI cC cZ : ClassId) (qn : Nat) (a : Int32) (b : Int32) (n : Nat) : CI l G (tys3 cI cC cZ) yX8_first cX8_first 1 (some .int) ({ frames := 0, cells := 0, slots := 0, locals := 0 }) [.ref qn] [(qn, .inr (8, [.int a, .int b, .int (nI n)]))] (S := Unit) (fun (r : Int32) (u : Unit) => r = a) (fun _ => [(qn, .inr (8, [.int a, .int b, .int (nI n)]))]) := by
  refine CI.intro (by decide) (Nat.le_of_ble_eq_true rfl) ?_
  intro p0 e0 s0 m0 ar0 be0 me0 c0 A0 X hr
  refine J_aload_n (pc := 0) X 0 dX8_first_0 rfl ?_
  refine J_get (pc := 1) X clX8 0 0 rfl (by decide) g231 rfl dX8_first_1 ?_
  refine J_iret (pc := 4) X hr () dX8_first_4 ?_ rfl
  rfl
set_option maxRecDepth 100000 in
set_option maxHeartbeats 600000 in
theorem kX8_last (l : Launch) (G : va_G) (cI cC cZ : ClassId) (qn : Nat) (a : Int32) (b : Int32) (n : Nat) : CI l G (tys3 cI cC cZ) yX8_last cX8_last 1 (some .int) ({ frames := 0, cells := 0, slots := 0, locals := 0 }) [.ref qn] [(qn, .inr (8, [.int a, .int b, .int (nI n)]))] (S := Unit) (fun (r : Int32) (u : Unit) => r = b) (fun _ => [(qn, .inr (8, [.int a, .int b, .int (nI n)]))]) := by
  refine CI.intro (by decide) (Nat.le_of_ble_eq_true rfl) ?_
  intro p0 e0 s0 m0 ar0 be0 me0 c0 A0 X hr
  refine J_aload_n (pc := 0) X 0 dX8_last_0 rfl ?_
  refine J_get (pc := 1) X clX8 0 1 rfl (by decide) g232 rfl dX8_last_1 ?_
  refine J_iret (pc := 4) X hr () dX8_last_4 ?_ rfl
  rfl
set_option maxRecDepth 100000 in
set_option maxHeartbeats 600000 in
theorem kX8_size (l : Launch) (G : va_G) (cI cC cZ : ClassId) (qn : Nat) (a : Int32) (b : Int32) (n : Nat) : CI l G (tys3 cI cC cZ) yX8_size cX8_size 1 (some .int) ({ frames := 0, cells := 0, slots := 0, locals := 0 }) [.ref qn] [(qn, .inr (8, [.int a, .int b, .int (nI n)]))] (S := Unit) (fun (r : Int32) (u : Unit) => r = nI n) (fun _ => [(qn, .inr (8, [.int a, .int b, .int (nI n)]))]) := by
  refine CI.intro (by decide) (Nat.le_of_ble_eq_true rfl) ?_
  intro p0 e0 s0 m0 ar0 be0 me0 c0 A0 X hr
  refine J_aload_n (pc := 0) X 0 dX8_size_0 rfl ?_
  refine J_get (pc := 1) X clX8 0 2 rfl (by decide) g233 rfl dX8_size_1 ?_
  refine J_iret (pc := 4) X hr () dX8_size_4 ?_ rfl
  rfl
set_option maxRecDepth 100000 in
set_option maxHeartbeats 600000 in
theorem kX0_current (l : Launch) (G : va_G) (cI cC cZ : ClassId) (qw : Nat) (sd : Int32) : CI l G (tys3 cI cC cZ) yX0_current cX0_current 1 (some .int) ({ frames := 0, cells := 0, slots := 0, locals := 0 }) [.ref qw] [(qw, .inr (0, [.int sd]))] (S := Unit) (fun (r : Int32) (u : Unit) => r = sd) (fun _ => [(qw, .inr (0, [.int sd]))]) := by
  refine CI.intro (by decide) (Nat.le_of_ble_eq_true rfl) ?_
  intro p0 e0 s0 m0 ar0 be0 me0 c0 A0 X hr
  refine J_aload_n (pc := 0) X 0 dX0_current_0 rfl ?_
  refine J_get (pc := 1) X clX0 0 0 rfl (by decide) g221 rfl dX0_current_1 ?_
  refine J_iret (pc := 4) X hr () dX0_current_4 ?_ rfl
  rfl
set_option maxRecDepth 100000 in
set_option maxHeartbeats 600000 in
theorem kX0_startFrom (l : Launch) (G : va_G) (cI cC cZ : ClassId) (qw : Nat) (sd : Int32) (v : Int32) : CV l G (tys3 cI cC cZ) yX0_startFrom cX0_startFrom 2 ({ frames := 0, cells := 0, slots := 0, locals := 0 }) [.ref qw, .int v] [(qw, .inr (0, [.int sd]))] (S := Unit) (fun (u : Unit) => True) (fun (u : Unit) => [(qw, .inr (0, [.int v]))]) := by
  refine CV.intro (by decide) (Nat.le_of_ble_eq_true rfl) ?_
  intro p0 e0 s0 m0 ar0 be0 me0 c0 A0 X hr
  refine J_aload_n (pc := 0) X 0 dX0_startFrom_0 rfl ?_
  refine J_iload_n (pc := 1) X 1 dX0_startFrom_1 rfl ?_
  refine J_put (pc := 2) X clX0 0 0 [(qw, .inr (0, [.int v]))] rfl (by decide) g221 rfl rfl rfl (Nat.le_of_ble_eq_true rfl) rfl dX0_startFrom_2 ?_
  refine J_vret (pc := 5) X hr () dX0_startFrom_5 ?_ rfl
  trivial
set_option maxRecDepth 100000 in
set_option maxHeartbeats 600000 in
theorem kX0_next (l : Launch) (G : va_G) (cI cC cZ : ClassId) (qw : Nat) (sd : Int32) : CI l G (tys3 cI cC cZ) yX0_next cX0_next 2 (some .int) ({ frames := 0, cells := 0, slots := 0, locals := 0 }) [.ref qw, .int 4] [(qw, .inr (0, [.int sd]))] (S := Unit) (fun (r : Int32) (u : Unit) => r = drw sd) (fun (u : Unit) => [(qw, .inr (0, [.int (rnd sd)]))]) := by
  refine CI.intro (by decide) (Nat.le_of_ble_eq_true rfl) ?_
  intro p0 e0 s0 m0 ar0 be0 me0 c0 A0 X hr
  refine J_aload_n (pc := 0) X 0 dX0_next_0 rfl ?_
  refine J_aload_n (pc := 1) X 0 dX0_next_1 rfl ?_
  refine J_get (pc := 2) X clX0 0 0 rfl (by decide) g221 rfl dX0_next_2 ?_
  refine J_i2l (pc := 5) X dX0_next_5 ?_
  refine J_ldc2 (pc := 6) X g631 dX0_next_6 ?_
  refine J_lmul (pc := 9) X dX0_next_9 ?_
  refine J_ldc2 (pc := 10) X g632 dX0_next_10 ?_
  refine J_ladd (pc := 13) X dX0_next_13 ?_
  refine J_ldc2 (pc := 14) X g633 dX0_next_14 ?_
  refine J_land (pc := 17) X dX0_next_17 ?_
  refine J_l2i (pc := 18) X dX0_next_18 ?_
  refine J_put (pc := 19) X clX0 0 0 [(qw, .inr (0, [.int ((((sd.toInt64 * 1103515245) + 12345) &&& 2147483647).toInt32)]))] rfl (by decide) g221 rfl rfl rfl (Nat.le_of_ble_eq_true rfl) rfl dX0_next_19 ?_
  refine J_iload_n (pc := 22) X 1 dX0_next_22 rfl ?_
  refine J_if_le (pc := 23) X 38 dX0_next_23 (by decide) (fun c_1 => ?_) (fun c_1 => ?_)
  · have c_1 : 4 ≤ 0 := n_le_of (a := 4) (b := 0) (by omega) (by omega) c_1
    exfalso; omega
  · have c_1 : 0 < 4 := n_nle_of (a := 4) (b := 0) (by omega) (by omega) c_1
    refine J_aload_n (pc := 26) X 0 dX0_next_26 rfl ?_
    refine J_get (pc := 27) X clX0 0 0 rfl (by decide) g221 rfl dX0_next_27 ?_
    refine J_ldc (pc := 30) X g634 dX0_next_30 ?_
    refine J_idiv (pc := 32) X dX0_next_32 (by decide) ?_
    refine J_iload_n (pc := 33) X 1 dX0_next_33 rfl ?_
    refine J_irem (pc := 34) X dX0_next_34 (by decide) ?_
    refine J_goto (pc := 35) X 39 dX0_next_35 (by decide) ?_
    refine J_iret (pc := 39) X hr () dX0_next_39 ?_ rfl
    rfl
set_option maxRecDepth 100000 in
set_option maxHeartbeats 600000 in
theorem kX3_size (l : Launch) (G : va_G) (cI cC cZ : ClassId) (ql : Nat) (qlf : Nat) (qls : Nat) (n : Nat) : CI l G (tys3 cI cC cZ) yX3_size cX3_size 1 (some .int) ({ frames := 0, cells := 0, slots := 0, locals := 0 }) [.ref ql] [(ql, .inr (3, [.ref qlf, .ref qls, .int (nI n)]))] (S := Unit) (fun (r : Int32) (u : Unit) => r = nI n) (fun _ => [(ql, .inr (3, [.ref qlf, .ref qls, .int (nI n)]))]) := by
  refine CI.intro (by decide) (Nat.le_of_ble_eq_true rfl) ?_
  intro p0 e0 s0 m0 ar0 be0 me0 c0 A0 X hr
  refine J_aload_n (pc := 0) X 0 dX3_size_0 rfl ?_
  refine J_get (pc := 1) X clX3 0 2 rfl (by decide) g197 rfl dX3_size_1 ?_
  refine J_iret (pc := 4) X hr () dX3_size_4 ?_ rfl
  rfl
set_option maxRecDepth 100000 in
set_option maxHeartbeats 600000 in
theorem kX3_clear (l : Launch) (G : va_G) (cI cC cZ : ClassId) (ql : Nat) (qlf : Nat) (qls : Nat) (n : Nat) : CV l G (tys3 cI cC cZ) yX3_clear cX3_clear 1 ({ frames := 0, cells := 0, slots := 0, locals := 0 }) [.ref ql] [(ql, .inr (3, [.ref qlf, .ref qls, .int (nI n)]))] (S := Unit) (fun (u : Unit) => True) (fun (u : Unit) => [(ql, .inr (3, [.ref qlf, .ref qls, .int 0]))]) := by
  refine CV.intro (by decide) (Nat.le_of_ble_eq_true rfl) ?_
  intro p0 e0 s0 m0 ar0 be0 me0 c0 A0 X hr
  refine J_aload_n (pc := 0) X 0 dX3_clear_0 rfl ?_
  refine J_iconst (pc := 1) X 0 dX3_clear_1 (by decide) ?_
  refine J_put (pc := 2) X clX3 0 2 [(ql, .inr (3, [.ref qlf, .ref qls, .int 0]))] rfl (by decide) g197 rfl rfl rfl (Nat.le_of_ble_eq_true rfl) rfl dX3_clear_2 ?_
  refine J_vret (pc := 5) X hr () dX3_clear_5 ?_ rfl
  trivial
set_option maxRecDepth 100000 in
set_option maxHeartbeats 600000 in
theorem kX3_firstOf (l : Launch) (G : va_G) (cI cC cZ : ClassId) (ql : Nat) (qlf : Nat) (qls : Nat) (n : Nat) (mx : Nat) (fs_ : Nat → Int32) (i : Nat) (hn : n ≤ mx) (hmx : mx ≤ 1000) (hi : i < n) : CI l G (tys3 cI cC cZ) yX3_firstOf cX3_firstOf 2 (some .int) ({ frames := 0, cells := 0, slots := 0, locals := 0 }) [.ref ql, .int (nI i)] [(ql, .inr (3, [.ref qlf, .ref qls, .int (nI n)])), (qlf, .inl (cI, mx, .inl fs_))] (S := Unit) (fun (r : Int32) (u : Unit) => r = fs_ i) (fun _ => [(ql, .inr (3, [.ref qlf, .ref qls, .int (nI n)])), (qlf, .inl (cI, mx, .inl fs_))]) := by
  refine CI.intro (by decide) (Nat.le_of_ble_eq_true rfl) ?_
  intro p0 e0 s0 m0 ar0 be0 me0 c0 A0 X hr
  refine J_iload_n (pc := 0) X 1 dX3_firstOf_0 rfl ?_
  refine J_if_lt (pc := 1) X 30 dX3_firstOf_1 (by decide) (fun c_1 => ?_) (fun c_1 => ?_)
  · have c_1 : i < 0 := n_lt_of (a := i) (b := 0) (by omega) (by omega) c_1
    exfalso; omega
  · have c_1 : 0 ≤ i := n_nlt_of (a := i) (b := 0) (by omega) (by omega) c_1
    refine J_iload_n (pc := 4) X 1 dX3_firstOf_4 rfl ?_
    refine J_aload_n (pc := 5) X 0 dX3_firstOf_5 rfl ?_
    refine J_get (pc := 6) X clX3 0 2 rfl (by decide) g197 rfl dX3_firstOf_6 ?_
    refine J_icmp_ge (pc := 9) X 30 dX3_firstOf_9 (by decide) (fun c_2 => ?_) (fun c_2 => ?_)
    · have c_2 : n ≤ i := n_le_of (a := n) (b := i) (by omega) (by omega) c_2
      exfalso; omega
    · have c_2 : i < n := n_nle_of (a := n) (b := i) (by omega) (by omega) c_2
      refine J_iload_n (pc := 12) X 1 dX3_firstOf_12 rfl ?_
      refine J_aload_n (pc := 13) X 0 dX3_firstOf_13 rfl ?_
      refine J_get (pc := 14) X clX3 0 0 rfl (by decide) g195 rfl dX3_firstOf_14 ?_
      refine J_alen (pc := 17) X 1 0 rfl rfl dX3_firstOf_17 ?_
      refine J_icmp_ge (pc := 18) X 30 dX3_firstOf_18 (by decide) (fun c_3 => ?_) (fun c_3 => ?_)
      · have c_3 : mx ≤ i := n_le_of (a := mx) (b := i) (by omega) (by omega) c_3
        exfalso; omega
      · have c_3 : i < mx := n_nle_of (a := mx) (b := i) (by omega) (by omega) c_3
        refine J_aload_n (pc := 21) X 0 dX3_firstOf_21 rfl ?_
        refine J_get (pc := 22) X clX3 0 0 rfl (by decide) g195 rfl dX3_firstOf_22 ?_
        refine J_iload_n (pc := 25) X 1 dX3_firstOf_25 rfl ?_
        refine J_iald (pc := 26) X 1 0 i rfl rfl rfl (by omega) (by omega) dX3_firstOf_26 ?_
        refine J_goto (pc := 27) X 31 dX3_firstOf_27 (by decide) ?_
        refine J_iret (pc := 31) X hr () dX3_firstOf_31 ?_ rfl
        rfl
set_option maxRecDepth 100000 in
set_option maxHeartbeats 600000 in
theorem kX3_secondOf (l : Launch) (G : va_G) (cI cC cZ : ClassId) (ql : Nat) (qlf : Nat) (qls : Nat) (n : Nat) (mx : Nat) (sc_ : Nat → Int32) (i : Nat) (hn : n ≤ mx) (hmx : mx ≤ 1000) (hi : i < n) : CI l G (tys3 cI cC cZ) yX3_secondOf cX3_secondOf 2 (some .int) ({ frames := 0, cells := 0, slots := 0, locals := 0 }) [.ref ql, .int (nI i)] [(ql, .inr (3, [.ref qlf, .ref qls, .int (nI n)])), (qls, .inl (cI, mx, .inl sc_))] (S := Unit) (fun (r : Int32) (u : Unit) => r = sc_ i) (fun _ => [(ql, .inr (3, [.ref qlf, .ref qls, .int (nI n)])), (qls, .inl (cI, mx, .inl sc_))]) := by
  refine CI.intro (by decide) (Nat.le_of_ble_eq_true rfl) ?_
  intro p0 e0 s0 m0 ar0 be0 me0 c0 A0 X hr
  refine J_iload_n (pc := 0) X 1 dX3_secondOf_0 rfl ?_
  refine J_if_lt (pc := 1) X 30 dX3_secondOf_1 (by decide) (fun c_1 => ?_) (fun c_1 => ?_)
  · have c_1 : i < 0 := n_lt_of (a := i) (b := 0) (by omega) (by omega) c_1
    exfalso; omega
  · have c_1 : 0 ≤ i := n_nlt_of (a := i) (b := 0) (by omega) (by omega) c_1
    refine J_iload_n (pc := 4) X 1 dX3_secondOf_4 rfl ?_
    refine J_aload_n (pc := 5) X 0 dX3_secondOf_5 rfl ?_
    refine J_get (pc := 6) X clX3 0 2 rfl (by decide) g197 rfl dX3_secondOf_6 ?_
    refine J_icmp_ge (pc := 9) X 30 dX3_secondOf_9 (by decide) (fun c_2 => ?_) (fun c_2 => ?_)
    · have c_2 : n ≤ i := n_le_of (a := n) (b := i) (by omega) (by omega) c_2
      exfalso; omega
    · have c_2 : i < n := n_nle_of (a := n) (b := i) (by omega) (by omega) c_2
      refine J_iload_n (pc := 12) X 1 dX3_secondOf_12 rfl ?_
      refine J_aload_n (pc := 13) X 0 dX3_secondOf_13 rfl ?_
      refine J_get (pc := 14) X clX3 0 1 rfl (by decide) g196 rfl dX3_secondOf_14 ?_
      refine J_alen (pc := 17) X 1 0 rfl rfl dX3_secondOf_17 ?_
      refine J_icmp_ge (pc := 18) X 30 dX3_secondOf_18 (by decide) (fun c_3 => ?_) (fun c_3 => ?_)
      · have c_3 : mx ≤ i := n_le_of (a := mx) (b := i) (by omega) (by omega) c_3
        exfalso; omega
      · have c_3 : i < mx := n_nle_of (a := mx) (b := i) (by omega) (by omega) c_3
        refine J_aload_n (pc := 21) X 0 dX3_secondOf_21 rfl ?_
        refine J_get (pc := 22) X clX3 0 1 rfl (by decide) g196 rfl dX3_secondOf_22 ?_
        refine J_iload_n (pc := 25) X 1 dX3_secondOf_25 rfl ?_
        refine J_iald (pc := 26) X 1 0 i rfl rfl rfl (by omega) (by omega) dX3_secondOf_26 ?_
        refine J_goto (pc := 27) X 31 dX3_secondOf_27 (by decide) ?_
        refine J_iret (pc := 31) X hr () dX3_secondOf_31 ?_ rfl
        rfl
set_option maxRecDepth 100000 in
set_option maxHeartbeats 600000 in
theorem kX3_append (l : Launch) (G : va_G) (cI cC cZ : ClassId) (ql : Nat) (qlf : Nat) (qls : Nat) (n : Nat) (mx : Nat) (fs_ : Nat → Int32) (sc_ : Nat → Int32) (x : Int32) (y : Int32) (hn : n ≤ mx) (hmx : mx ≤ 1000) : CI l G (tys3 cI cC cZ) yX3_append cX3_append 3 (some .boolean) ({ frames := 0, cells := 0, slots := 0, locals := 0 }) [.ref ql, .int x, .int y] [(ql, .inr (3, [.ref qlf, .ref qls, .int (nI n)])), (qlf, .inl (cI, mx, .inl fs_)), (qls, .inl (cI, mx, .inl sc_))] (S := Nat × (Nat → Int32) × (Nat → Int32)) (fun (r : Int32) (u : Nat × (Nat → Int32) × (Nat → Int32)) => r = bI (n < mx) ∧ (n < mx → u.1 = n + 1 ∧ u.2.1 = upd fs_ n x ∧ u.2.2 = upd sc_ n y) ∧ (¬ n < mx → u.1 = n ∧ u.2.1 = fs_ ∧ u.2.2 = sc_)) (fun (u : Nat × (Nat → Int32) × (Nat → Int32)) => [(ql, .inr (3, [.ref qlf, .ref qls, .int (nI u.1)])), (qlf, .inl (cI, mx, .inl u.2.1)), (qls, .inl (cI, mx, .inl u.2.2))]) := by
  refine CI.intro (by decide) (Nat.le_of_ble_eq_true rfl) ?_
  intro p0 e0 s0 m0 ar0 be0 me0 c0 A0 X hr
  refine J_aload_n (pc := 0) X 0 dX3_append_0 rfl ?_
  refine J_get (pc := 1) X clX3 0 2 rfl (by decide) g197 rfl dX3_append_1 ?_
  refine J_if_lt (pc := 4) X 31 dX3_append_4 (by decide) (fun c_1 => ?_) (fun c_1 => ?_)
  · have c_1 : n < 0 := n_lt_of (a := n) (b := 0) (by omega) (by omega) c_1
    exfalso; omega
  · have c_1 : 0 ≤ n := n_nlt_of (a := n) (b := 0) (by omega) (by omega) c_1
    refine J_aload_n (pc := 7) X 0 dX3_append_7 rfl ?_
    refine J_get (pc := 8) X clX3 0 2 rfl (by decide) g197 rfl dX3_append_8 ?_
    refine J_aload_n (pc := 11) X 0 dX3_append_11 rfl ?_
    refine J_get (pc := 12) X clX3 0 0 rfl (by decide) g195 rfl dX3_append_12 ?_
    refine J_alen (pc := 15) X 1 0 rfl rfl dX3_append_15 ?_
    refine J_icmp_ge (pc := 16) X 31 dX3_append_16 (by decide) (fun c_2 => ?_) (fun c_2 => ?_)
    · have c_2 : mx ≤ n := n_le_of (a := mx) (b := n) (by omega) (by omega) c_2
      refine J_iconst (pc := 31) X 0 dX3_append_31 (by decide) ?_
      refine J_zret (pc := 32) X hr (n, fs_, sc_) rfl dX3_append_32 ?_ rfl
      first | exact ⟨(bI_t (by omega)).symm, fun _ => ⟨rfl, rfl, rfl⟩, fun h => absurd (by omega) h⟩ | exact ⟨(bI_f (by omega)).symm, fun h => absurd h (by omega), fun _ => ⟨rfl, rfl, rfl⟩⟩
    · have c_2 : n < mx := n_nle_of (a := mx) (b := n) (by omega) (by omega) c_2
      refine J_aload_n (pc := 19) X 0 dX3_append_19 rfl ?_
      refine J_get (pc := 20) X clX3 0 2 rfl (by decide) g197 rfl dX3_append_20 ?_
      refine J_aload_n (pc := 23) X 0 dX3_append_23 rfl ?_
      refine J_get (pc := 24) X clX3 0 1 rfl (by decide) g196 rfl dX3_append_24 ?_
      refine J_alen (pc := 27) X 2 0 rfl rfl dX3_append_27 ?_
      refine J_icmp_lt (pc := 28) X 33 dX3_append_28 (by decide) (fun c_3 => ?_) (fun c_3 => ?_)
      · have c_3 : n < mx := n_lt_of (a := n) (b := mx) (by omega) (by omega) c_3
        refine J_aload_n (pc := 33) X 0 dX3_append_33 rfl ?_
        refine J_get (pc := 34) X clX3 0 0 rfl (by decide) g195 rfl dX3_append_34 ?_
        refine J_aload_n (pc := 37) X 0 dX3_append_37 rfl ?_
        refine J_get (pc := 38) X clX3 0 2 rfl (by decide) g197 rfl dX3_append_38 ?_
        refine J_iload_n (pc := 41) X 1 dX3_append_41 rfl ?_
        refine J_iast (pc := 42) X 1 0 n [(ql, .inr (3, [.ref qlf, .ref qls, .int (nI n)])), (qlf, .inl (cI, mx, .inl (upd fs_ n x))), (qls, .inl (cI, mx, .inl sc_))] rfl rfl rfl (by omega) (by omega) rfl dX3_append_42 ?_
        refine J_aload_n (pc := 43) X 0 dX3_append_43 rfl ?_
        refine J_get (pc := 44) X clX3 0 1 rfl (by decide) g196 rfl dX3_append_44 ?_
        refine J_aload_n (pc := 47) X 0 dX3_append_47 rfl ?_
        refine J_get (pc := 48) X clX3 0 2 rfl (by decide) g197 rfl dX3_append_48 ?_
        refine J_iload_n (pc := 51) X 2 dX3_append_51 rfl ?_
        refine J_iast (pc := 52) X 2 0 n [(ql, .inr (3, [.ref qlf, .ref qls, .int (nI n)])), (qlf, .inl (cI, mx, .inl (upd fs_ n x))), (qls, .inl (cI, mx, .inl (upd sc_ n y)))] rfl rfl rfl (by omega) (by omega) rfl dX3_append_52 ?_
        refine J_aload_n (pc := 53) X 0 dX3_append_53 rfl ?_
        refine J_dup (pc := 54) X dX3_append_54 rfl ?_
        refine J_get (pc := 55) X clX3 0 2 rfl (by decide) g197 rfl dX3_append_55 ?_
        refine J_iconst (pc := 58) X 1 dX3_append_58 (by decide) ?_
        refine J_iadd (pc := 59) X dX3_append_59 ?_
        refine J_top (y := nI (n + 1)) (n_add (x := n) (y := 1) rfl rfl (by omega)) ?_
        refine J_put (pc := 60) X clX3 0 2 [(ql, .inr (3, [.ref qlf, .ref qls, .int (nI (n + 1))])), (qlf, .inl (cI, mx, .inl (upd fs_ n x))), (qls, .inl (cI, mx, .inl (upd sc_ n y)))] rfl (by decide) g197 rfl rfl rfl (Nat.le_of_ble_eq_true rfl) rfl dX3_append_60 ?_
        refine J_iconst (pc := 63) X 1 dX3_append_63 (by decide) ?_
        refine J_zret (pc := 64) X hr ((n + 1), (upd fs_ n x), (upd sc_ n y)) rfl dX3_append_64 ?_ rfl
        first | exact ⟨(bI_t (by omega)).symm, fun _ => ⟨rfl, rfl, rfl⟩, fun h => absurd (by omega) h⟩ | exact ⟨(bI_f (by omega)).symm, fun h => absurd h (by omega), fun _ => ⟨rfl, rfl, rfl⟩⟩
      · have c_3 : mx ≤ n := n_nlt_of (a := n) (b := mx) (by omega) (by omega) c_3
        exfalso; omega
