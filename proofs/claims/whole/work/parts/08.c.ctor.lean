theorem mtX0_init : MtC yX0_init cX0_init 1 0 := ⟨g218, g72, g219, rfl, by decide +kernel⟩
theorem mtX1_init : MtC yX1_init cX1_init 1 0 := ⟨g208, g71, g209, rfl, by decide +kernel⟩
theorem mtX2_init : MtC yX2_init cX2_init 1 0 := ⟨g172, g68, g173, rfl, by decide +kernel⟩
theorem mtX3_init : MtC yX3_init cX3_init 3 1 := ⟨g189, g69, g190, rfl, by decide +kernel⟩
theorem mtX4_init : MtC yX4_init cX4_init 1 0 := ⟨g156, g67, g157, rfl, by decide +kernel⟩
theorem mtX5_init : MtC yX5_init cX5_init 1 0 := ⟨g88, g64, g89, rfl, by decide +kernel⟩
theorem mtX6_init : MtC yX6_init cX6_init 1 0 := ⟨g123, g65, g124, rfl, by decide +kernel⟩
theorem mtX7_init : MtC yX7_init cX7_init 1 0 := ⟨g146, g66, g147, rfl, by decide +kernel⟩
theorem mtX8_init : MtC yX8_init cX8_init 1 0 := ⟨g228, g73, g229, rfl, by decide +kernel⟩
theorem mtX9_init : MtC yX9_init cX9_init 1 0 := ⟨g80, g63, g81, rfl, by decide +kernel⟩
theorem mtX10_init : MtC yX10_init cX10_init 1 0 := ⟨g886, g74, g887, rfl, by decide +kernel⟩
set_option maxRecDepth 100000 in
set_option maxHeartbeats 600000 in
theorem kX0_init (l : Launch) (G : va_G) (cI cC cZ : ClassId) (z : Nat) : CN l G (tys3 cI cC cZ) yX0_init cX0_init 1 ({ frames := 1, cells := 0, slots := 0, locals := 12 }) 0 0 (fun _ => True) [.ref z] [(z, .inr (0, [.int 0]))] (S := Unit) (fun (u : Unit) => True) (fun (u : Unit) => [(z, .inr (0, [.int 0]))]) := by
  refine CN.intro (by decide) (Nat.le_of_ble_eq_true rfl) ?_
  intro p0 e0 s0 m0 ar0 be0 me0 c0 A0 X hr hin hNW
  refine J_aload_n (pc := 0) X 0 dX0_init_0 rfl ?_
  refine J_oinit (pc := 1) X g220 g83 g84 (Nat.le_of_ble_eq_true rfl) (Nat.le_of_ble_eq_true rfl) dX0_init_1 ?_
  refine J_vretN (pc := 4) X hr () dX0_init_4 ?_ rfl
  trivial
set_option maxRecDepth 100000 in
set_option maxHeartbeats 600000 in
theorem kX1_init (l : Launch) (G : va_G) (cI cC cZ : ClassId) (z : Nat) : CN l G (tys3 cI cC cZ) yX1_init cX1_init 1 ({ frames := 1, cells := 1, slots := 300, locals := 12 }) 1 300 (fun _ => True) [.ref z] [(z, .inr (1, [.null]))] (S := Nat) (fun (u : Nat) => True) (fun (u : Nat) => [(z, .inr (1, [.ref u])), (u, .inl (cI, 300, .inl (fun _ => 0)))]) := by
  refine CN.intro (by decide) (Nat.le_of_ble_eq_true rfl) ?_
  intro p0 e0 s0 m0 ar0 be0 me0 c0 A0 X hr hin hNW
  refine J_aload_n (pc := 0) X 0 dX1_init_0 rfl ?_
  refine J_oinit (pc := 1) X g210 g83 g84 (Nat.le_of_ble_eq_true rfl) (Nat.le_of_ble_eq_true rfl) dX1_init_1 ?_
  refine J_aload_n (pc := 4) X 0 dX1_init_4 rfl ?_
  refine J_sipush (pc := 5) X 300 dX1_init_5 (by decide) ?_
  refine J_newa (atype := .int) (fty := .int) (pc := 8) X 0 300 (fun n8 => [(z, .inr (1, [.null])), (n8, .inl (cI, 300, .inl (fun _ => 0)))]) rfl rfl ra_I rfl g119 rfl (by decide) (by decide) (Nat.le_of_ble_eq_true rfl) (Nat.le_of_ble_eq_true rfl) dX1_init_8 (fun _ => rfl) (fun n8 => ?_)
  refine J_putF (pc := 10) X hin clX1 0 0 [(z, .inr (1, [.ref n8])), (n8, .inl (cI, 300, .inl (fun _ => 0)))] rfl (by decide) g211 rfl rfl rfl rfl (Nat.le_of_ble_eq_true rfl) rfl dX1_init_10 ?_
  refine J_vretN (pc := 13) X hr n8 dX1_init_13 ?_ rfl
  trivial
set_option maxRecDepth 100000 in
set_option maxHeartbeats 600000 in
theorem kX2_init (l : Launch) (G : va_G) (cI cC cZ : ClassId) (z : Nat) : CN l G (tys3 cI cC cZ) yX2_init cX2_init 1 ({ frames := 1, cells := 3, slots := 40, locals := 12 }) 3 40 (fun _ => True) [.ref z] [(z, .inr (2, [.null, .null, .null]))] (S := Nat × Nat × Nat) (fun (u : Nat × Nat × Nat) => True) (fun (u : Nat × Nat × Nat) => [(z, .inr (2, [.ref u.1, .ref u.2.1, .ref u.2.2])), (u.1, .inl (cI, 36, .inl (fun _ => 0))), (u.2.1, .inl (cI, 2, .inl (fun _ => 0))), (u.2.2, .inl (cZ, 2, .inl (fun _ => 0)))]) := by
  refine CN.intro (by decide) (Nat.le_of_ble_eq_true rfl) ?_
  intro p0 e0 s0 m0 ar0 be0 me0 c0 A0 X hr hin hNW
  refine J_aload_n (pc := 0) X 0 dX2_init_0 rfl ?_
  refine J_oinit (pc := 1) X g174 g83 g84 (Nat.le_of_ble_eq_true rfl) (Nat.le_of_ble_eq_true rfl) dX2_init_1 ?_
  refine J_aload_n (pc := 4) X 0 dX2_init_4 rfl ?_
  refine J_bipush (pc := 5) X 36 dX2_init_5 (by decide) ?_
  refine J_newa (atype := .int) (fty := .int) (pc := 7) X 0 36 (fun n7 => [(z, .inr (2, [.null, .null, .null])), (n7, .inl (cI, 36, .inl (fun _ => 0)))]) rfl rfl ra_I rfl g119 rfl (by decide) (by decide) (Nat.le_of_ble_eq_true rfl) (Nat.le_of_ble_eq_true rfl) dX2_init_7 (fun _ => rfl) (fun n7 => ?_)
  refine J_putF (pc := 9) X hin clX2 0 0 [(z, .inr (2, [.ref n7, .null, .null])), (n7, .inl (cI, 36, .inl (fun _ => 0)))] rfl (by decide) g175 rfl rfl rfl rfl (Nat.le_of_ble_eq_true rfl) rfl dX2_init_9 ?_
  refine J_aload_n (pc := 12) X 0 dX2_init_12 rfl ?_
  refine J_iconst (pc := 13) X 2 dX2_init_13 (by decide) ?_
  refine J_newa (atype := .int) (fty := .int) (pc := 14) X 0 2 (fun n14 => [(z, .inr (2, [.ref n7, .null, .null])), (n7, .inl (cI, 36, .inl (fun _ => 0))), (n14, .inl (cI, 2, .inl (fun _ => 0)))]) rfl rfl ra_I rfl g119 rfl (by decide) (by decide) (Nat.le_of_ble_eq_true rfl) (Nat.le_of_ble_eq_true rfl) dX2_init_14 (fun _ => rfl) (fun n14 => ?_)
  refine J_putF (pc := 16) X hin clX2 0 1 [(z, .inr (2, [.ref n7, .ref n14, .null])), (n7, .inl (cI, 36, .inl (fun _ => 0))), (n14, .inl (cI, 2, .inl (fun _ => 0)))] rfl (by decide) g176 rfl rfl rfl rfl (Nat.le_of_ble_eq_true rfl) rfl dX2_init_16 ?_
  refine J_aload_n (pc := 19) X 0 dX2_init_19 rfl ?_
  refine J_iconst (pc := 20) X 2 dX2_init_20 (by decide) ?_
  refine J_newa (atype := .boolean) (fty := .boolean) (pc := 21) X 2 2 (fun n21 => [(z, .inr (2, [.ref n7, .ref n14, .null])), (n7, .inl (cI, 36, .inl (fun _ => 0))), (n14, .inl (cI, 2, .inl (fun _ => 0))), (n21, .inl (cZ, 2, .inl (fun _ => 0)))]) rfl rfl ra_Z rfl g185 rfl (by decide) (by decide) (Nat.le_of_ble_eq_true rfl) (Nat.le_of_ble_eq_true rfl) dX2_init_21 (fun _ => rfl) (fun n21 => ?_)
  refine J_putF (pc := 23) X hin clX2 0 2 [(z, .inr (2, [.ref n7, .ref n14, .ref n21])), (n7, .inl (cI, 36, .inl (fun _ => 0))), (n14, .inl (cI, 2, .inl (fun _ => 0))), (n21, .inl (cZ, 2, .inl (fun _ => 0)))] rfl (by decide) g177 rfl rfl rfl rfl (Nat.le_of_ble_eq_true rfl) rfl dX2_init_23 ?_
  refine J_vretN (pc := 26) X hr (n7, n14, n21) dX2_init_26 ?_ rfl
  trivial
set_option maxRecDepth 100000 in
set_option maxHeartbeats 600000 in
theorem kX3_init6 (l : Launch) (G : va_G) (cI cC cZ : ClassId) (z : Nat) : CN l G (tys3 cI cC cZ) yX3_init cX3_init 3 ({ frames := 1, cells := 2, slots := 12, locals := 13 }) 2 12 (fun _ => True) [.ref z, .int 6] [(z, .inr (3, [.null, .null, .int 0]))] (S := Nat × Nat) (fun (u : Nat × Nat) => True) (fun (u : Nat × Nat) => [(z, .inr (3, [.ref u.1, .ref u.2, .int 0])), (u.1, .inl (cI, 6, .inl (fun _ => 0))), (u.2, .inl (cI, 6, .inl (fun _ => 0)))]) := by
  refine CN.intro (by decide) (Nat.le_of_ble_eq_true rfl) ?_
  intro p0 e0 s0 m0 ar0 be0 me0 c0 A0 X hr hin hNW
  refine J_aload_n (pc := 0) X 0 dX3_init_0 rfl ?_
  refine J_oinit (pc := 1) X g191 g83 g84 (Nat.le_of_ble_eq_true rfl) (Nat.le_of_ble_eq_true rfl) dX3_init_1 ?_
  refine J_iconst (pc := 4) X 0 dX3_init_4 (by decide) ?_
  refine J_iload_n (pc := 5) X 1 dX3_init_5 rfl ?_
  refine J_mmax (pc := 6) X g192 g193 g70 g194 (Nat.le_of_ble_eq_true rfl) (Nat.le_of_ble_eq_true rfl) (Nat.zero_le _) (Nat.zero_le _) dX3_init_6 ?_
  refine J_top (y := 6) (by decide) ?_
  refine J_istore_n (pc := 9) X [(2, .int 6), (0, .ref z), (1, .int 6)] dX3_init_9 (by decide) rfl ?_
  refine J_aload_n (pc := 10) X 1 dX3_init_10 rfl ?_
  refine J_iload_n (pc := 11) X 0 dX3_init_11 rfl ?_
  refine J_newa (atype := .int) (fty := .int) (pc := 12) X 0 6 (fun n12 => [(z, .inr (3, [.null, .null, .int 0])), (n12, .inl (cI, 6, .inl (fun _ => 0)))]) rfl rfl ra_I rfl g119 rfl (by decide) (by decide) (Nat.le_of_ble_eq_true rfl) (Nat.le_of_ble_eq_true rfl) dX3_init_12 (fun _ => rfl) (fun n12 => ?_)
  refine J_putF (pc := 14) X hin clX3 0 0 [(z, .inr (3, [.ref n12, .null, .int 0])), (n12, .inl (cI, 6, .inl (fun _ => 0)))] rfl (by decide) g195 rfl rfl rfl rfl (Nat.le_of_ble_eq_true rfl) rfl dX3_init_14 ?_
  refine J_aload_n (pc := 17) X 1 dX3_init_17 rfl ?_
  refine J_iload_n (pc := 18) X 0 dX3_init_18 rfl ?_
  refine J_newa (atype := .int) (fty := .int) (pc := 19) X 0 6 (fun n19 => [(z, .inr (3, [.ref n12, .null, .int 0])), (n12, .inl (cI, 6, .inl (fun _ => 0))), (n19, .inl (cI, 6, .inl (fun _ => 0)))]) rfl rfl ra_I rfl g119 rfl (by decide) (by decide) (Nat.le_of_ble_eq_true rfl) (Nat.le_of_ble_eq_true rfl) dX3_init_19 (fun _ => rfl) (fun n19 => ?_)
  refine J_putF (pc := 21) X hin clX3 0 1 [(z, .inr (3, [.ref n12, .ref n19, .int 0])), (n12, .inl (cI, 6, .inl (fun _ => 0))), (n19, .inl (cI, 6, .inl (fun _ => 0)))] rfl (by decide) g196 rfl rfl rfl rfl (Nat.le_of_ble_eq_true rfl) rfl dX3_init_21 ?_
  refine J_vretN (pc := 24) X hr (n12, n19) dX3_init_24 ?_ rfl
  trivial
set_option maxRecDepth 100000 in
set_option maxHeartbeats 600000 in
theorem kX3_init20 (l : Launch) (G : va_G) (cI cC cZ : ClassId) (z : Nat) : CN l G (tys3 cI cC cZ) yX3_init cX3_init 3 ({ frames := 1, cells := 2, slots := 40, locals := 13 }) 2 40 (fun _ => True) [.ref z, .int 20] [(z, .inr (3, [.null, .null, .int 0]))] (S := Nat × Nat) (fun (u : Nat × Nat) => True) (fun (u : Nat × Nat) => [(z, .inr (3, [.ref u.1, .ref u.2, .int 0])), (u.1, .inl (cI, 20, .inl (fun _ => 0))), (u.2, .inl (cI, 20, .inl (fun _ => 0)))]) := by
  refine CN.intro (by decide) (Nat.le_of_ble_eq_true rfl) ?_
  intro p0 e0 s0 m0 ar0 be0 me0 c0 A0 X hr hin hNW
  refine J_aload_n (pc := 0) X 0 dX3_init_0 rfl ?_
  refine J_oinit (pc := 1) X g191 g83 g84 (Nat.le_of_ble_eq_true rfl) (Nat.le_of_ble_eq_true rfl) dX3_init_1 ?_
  refine J_iconst (pc := 4) X 0 dX3_init_4 (by decide) ?_
  refine J_iload_n (pc := 5) X 1 dX3_init_5 rfl ?_
  refine J_mmax (pc := 6) X g192 g193 g70 g194 (Nat.le_of_ble_eq_true rfl) (Nat.le_of_ble_eq_true rfl) (Nat.zero_le _) (Nat.zero_le _) dX3_init_6 ?_
  refine J_top (y := 20) (by decide) ?_
  refine J_istore_n (pc := 9) X [(2, .int 20), (0, .ref z), (1, .int 20)] dX3_init_9 (by decide) rfl ?_
  refine J_aload_n (pc := 10) X 1 dX3_init_10 rfl ?_
  refine J_iload_n (pc := 11) X 0 dX3_init_11 rfl ?_
  refine J_newa (atype := .int) (fty := .int) (pc := 12) X 0 20 (fun n12 => [(z, .inr (3, [.null, .null, .int 0])), (n12, .inl (cI, 20, .inl (fun _ => 0)))]) rfl rfl ra_I rfl g119 rfl (by decide) (by decide) (Nat.le_of_ble_eq_true rfl) (Nat.le_of_ble_eq_true rfl) dX3_init_12 (fun _ => rfl) (fun n12 => ?_)
  refine J_putF (pc := 14) X hin clX3 0 0 [(z, .inr (3, [.ref n12, .null, .int 0])), (n12, .inl (cI, 20, .inl (fun _ => 0)))] rfl (by decide) g195 rfl rfl rfl rfl (Nat.le_of_ble_eq_true rfl) rfl dX3_init_14 ?_
  refine J_aload_n (pc := 17) X 1 dX3_init_17 rfl ?_
  refine J_iload_n (pc := 18) X 0 dX3_init_18 rfl ?_
  refine J_newa (atype := .int) (fty := .int) (pc := 19) X 0 20 (fun n19 => [(z, .inr (3, [.ref n12, .null, .int 0])), (n12, .inl (cI, 20, .inl (fun _ => 0))), (n19, .inl (cI, 20, .inl (fun _ => 0)))]) rfl rfl ra_I rfl g119 rfl (by decide) (by decide) (Nat.le_of_ble_eq_true rfl) (Nat.le_of_ble_eq_true rfl) dX3_init_19 (fun _ => rfl) (fun n19 => ?_)
  refine J_putF (pc := 21) X hin clX3 0 1 [(z, .inr (3, [.ref n12, .ref n19, .int 0])), (n12, .inl (cI, 20, .inl (fun _ => 0))), (n19, .inl (cI, 20, .inl (fun _ => 0)))] rfl (by decide) g196 rfl rfl rfl rfl (Nat.le_of_ble_eq_true rfl) rfl dX3_init_21 ?_
  refine J_vretN (pc := 24) X hr (n12, n19) dX3_init_24 ?_ rfl
  trivial
set_option maxRecDepth 100000 in
set_option maxHeartbeats 600000 in
theorem kX4_init (l : Launch) (G : va_G) (cI cC cZ : ClassId) (z : Nat) : CN l G (tys3 cI cC cZ) yX4_init cX4_init 1 ({ frames := 1, cells := 1, slots := 540, locals := 12 }) 1 540 (fun _ => True) [.ref z] [(z, .inr (4, [.null, .int 0, .int 0]))] (S := Nat) (fun (u : Nat) => True) (fun (u : Nat) => [(z, .inr (4, [.ref u, .int 0, .int 0])), (u, .inl (cI, 540, .inl (fun _ => 0)))]) := by
  refine CN.intro (by decide) (Nat.le_of_ble_eq_true rfl) ?_
  intro p0 e0 s0 m0 ar0 be0 me0 c0 A0 X hr hin hNW
  refine J_aload_n (pc := 0) X 0 dX4_init_0 rfl ?_
  refine J_oinit (pc := 1) X g158 g83 g84 (Nat.le_of_ble_eq_true rfl) (Nat.le_of_ble_eq_true rfl) dX4_init_1 ?_
  refine J_aload_n (pc := 4) X 0 dX4_init_4 rfl ?_
  refine J_sipush (pc := 5) X 540 dX4_init_5 (by decide) ?_
  refine J_newa (atype := .int) (fty := .int) (pc := 8) X 0 540 (fun n8 => [(z, .inr (4, [.null, .int 0, .int 0])), (n8, .inl (cI, 540, .inl (fun _ => 0)))]) rfl rfl ra_I rfl g119 rfl (by decide) (by decide) (Nat.le_of_ble_eq_true rfl) (Nat.le_of_ble_eq_true rfl) dX4_init_8 (fun _ => rfl) (fun n8 => ?_)
  refine J_putF (pc := 10) X hin clX4 0 0 [(z, .inr (4, [.ref n8, .int 0, .int 0])), (n8, .inl (cI, 540, .inl (fun _ => 0)))] rfl (by decide) g159 rfl rfl rfl rfl (Nat.le_of_ble_eq_true rfl) rfl dX4_init_10 ?_
  refine J_vretN (pc := 13) X hr n8 dX4_init_13 ?_ rfl
  trivial
set_option maxRecDepth 100000 in
set_option maxHeartbeats 600000 in
theorem kX5_init (l : Launch) (G : va_G) (cI cC cZ : ClassId) (z : Nat) : CN l G (tys3 cI cC cZ) yX5_init cX5_init 1 ({ frames := 1, cells := 3, slots := 16, locals := 12 }) 3 16 (fun _ => True) [.ref z] [(z, .inr (5, [.int 0, .int 0, .int 0, .int 0, .int 0, .int 0, .null, .null, .null]))] (S := Nat × Nat × Nat) (fun (u : Nat × Nat × Nat) => True) (fun (u : Nat × Nat × Nat) => [(z, .inr (5, [.int 0, .int 0, .int 0, .int 0, .int 0, .int 0, .ref u.1, .ref u.2.1, .ref u.2.2])), (u.1, .inl (cI, 8, .inl (fun _ => 0))), (u.2.1, .inl (cI, 4, .inl (fun _ => 0))), (u.2.2, .inl (cI, 4, .inl (fun _ => 0)))]) := by
  refine CN.intro (by decide) (Nat.le_of_ble_eq_true rfl) ?_
  intro p0 e0 s0 m0 ar0 be0 me0 c0 A0 X hr hin hNW
  refine J_aload_n (pc := 0) X 0 dX5_init_0 rfl ?_
  refine J_oinit (pc := 1) X g90 g83 g84 (Nat.le_of_ble_eq_true rfl) (Nat.le_of_ble_eq_true rfl) dX5_init_1 ?_
  refine J_aload_n (pc := 4) X 0 dX5_init_4 rfl ?_
  refine J_bipush (pc := 5) X 8 dX5_init_5 (by decide) ?_
  refine J_newa (atype := .int) (fty := .int) (pc := 7) X 0 8 (fun n7 => [(z, .inr (5, [.int 0, .int 0, .int 0, .int 0, .int 0, .int 0, .null, .null, .null])), (n7, .inl (cI, 8, .inl (fun _ => 0)))]) rfl rfl ra_I rfl g119 rfl (by decide) (by decide) (Nat.le_of_ble_eq_true rfl) (Nat.le_of_ble_eq_true rfl) dX5_init_7 (fun _ => rfl) (fun n7 => ?_)
  refine J_putF (pc := 9) X hin clX5 0 6 [(z, .inr (5, [.int 0, .int 0, .int 0, .int 0, .int 0, .int 0, .ref n7, .null, .null])), (n7, .inl (cI, 8, .inl (fun _ => 0)))] rfl (by decide) g97 rfl rfl rfl rfl (Nat.le_of_ble_eq_true rfl) rfl dX5_init_9 ?_
  refine J_aload_n (pc := 12) X 0 dX5_init_12 rfl ?_
  refine J_iconst (pc := 13) X 4 dX5_init_13 (by decide) ?_
  refine J_newa (atype := .int) (fty := .int) (pc := 14) X 0 4 (fun n14 => [(z, .inr (5, [.int 0, .int 0, .int 0, .int 0, .int 0, .int 0, .ref n7, .null, .null])), (n7, .inl (cI, 8, .inl (fun _ => 0))), (n14, .inl (cI, 4, .inl (fun _ => 0)))]) rfl rfl ra_I rfl g119 rfl (by decide) (by decide) (Nat.le_of_ble_eq_true rfl) (Nat.le_of_ble_eq_true rfl) dX5_init_14 (fun _ => rfl) (fun n14 => ?_)
  refine J_putF (pc := 16) X hin clX5 0 7 [(z, .inr (5, [.int 0, .int 0, .int 0, .int 0, .int 0, .int 0, .ref n7, .ref n14, .null])), (n7, .inl (cI, 8, .inl (fun _ => 0))), (n14, .inl (cI, 4, .inl (fun _ => 0)))] rfl (by decide) g98 rfl rfl rfl rfl (Nat.le_of_ble_eq_true rfl) rfl dX5_init_16 ?_
  refine J_aload_n (pc := 19) X 0 dX5_init_19 rfl ?_
  refine J_iconst (pc := 20) X 4 dX5_init_20 (by decide) ?_
  refine J_newa (atype := .int) (fty := .int) (pc := 21) X 0 4 (fun n21 => [(z, .inr (5, [.int 0, .int 0, .int 0, .int 0, .int 0, .int 0, .ref n7, .ref n14, .null])), (n7, .inl (cI, 8, .inl (fun _ => 0))), (n14, .inl (cI, 4, .inl (fun _ => 0))), (n21, .inl (cI, 4, .inl (fun _ => 0)))]) rfl rfl ra_I rfl g119 rfl (by decide) (by decide) (Nat.le_of_ble_eq_true rfl) (Nat.le_of_ble_eq_true rfl) dX5_init_21 (fun _ => rfl) (fun n21 => ?_)
  refine J_putF (pc := 23) X hin clX5 0 8 [(z, .inr (5, [.int 0, .int 0, .int 0, .int 0, .int 0, .int 0, .ref n7, .ref n14, .ref n21])), (n7, .inl (cI, 8, .inl (fun _ => 0))), (n14, .inl (cI, 4, .inl (fun _ => 0))), (n21, .inl (cI, 4, .inl (fun _ => 0)))] rfl (by decide) g99 rfl rfl rfl rfl (Nat.le_of_ble_eq_true rfl) rfl dX5_init_23 ?_
  refine J_vretN (pc := 26) X hr (n7, n14, n21) dX5_init_26 ?_ rfl
  trivial
set_option maxRecDepth 100000 in
set_option maxHeartbeats 600000 in
theorem kX6_init (l : Launch) (G : va_G) (cI cC cZ : ClassId) (z : Nat) : CN l G (tys3 cI cC cZ) yX6_init cX6_init 1 ({ frames := 1, cells := 1, slots := 200, locals := 12 }) 1 200 (fun _ => True) [.ref z] [(z, .inr (6, [.null, .int 0, .int 0, .int 0, .int 0]))] (S := Nat) (fun (u : Nat) => True) (fun (u : Nat) => [(z, .inr (6, [.ref u, .int 0, .int 0, .int 0, .int (-1)])), (u, .inl (cC, 200, .inl (fun _ => 0)))]) := by
  refine CN.intro (by decide) (Nat.le_of_ble_eq_true rfl) ?_
  intro p0 e0 s0 m0 ar0 be0 me0 c0 A0 X hr hin hNW
  refine J_aload_n (pc := 0) X 0 dX6_init_0 rfl ?_
  refine J_oinit (pc := 1) X g125 g83 g84 (Nat.le_of_ble_eq_true rfl) (Nat.le_of_ble_eq_true rfl) dX6_init_1 ?_
  refine J_aload_n (pc := 4) X 0 dX6_init_4 rfl ?_
  refine J_sipush (pc := 5) X 200 dX6_init_5 (by decide) ?_
  refine J_newa (atype := .char) (fty := .char) (pc := 8) X 1 200 (fun n8 => [(z, .inr (6, [.null, .int 0, .int 0, .int 0, .int 0])), (n8, .inl (cC, 200, .inl (fun _ => 0)))]) rfl rfl ra_C rfl g142 rfl (by decide) (by decide) (Nat.le_of_ble_eq_true rfl) (Nat.le_of_ble_eq_true rfl) dX6_init_8 (fun _ => rfl) (fun n8 => ?_)
  refine J_putF (pc := 10) X hin clX6 0 0 [(z, .inr (6, [.ref n8, .int 0, .int 0, .int 0, .int 0])), (n8, .inl (cC, 200, .inl (fun _ => 0)))] rfl (by decide) g126 rfl rfl rfl rfl (Nat.le_of_ble_eq_true rfl) rfl dX6_init_10 ?_
  refine J_aload_n (pc := 13) X 0 dX6_init_13 rfl ?_
  refine J_iconst (pc := 14) X 0 dX6_init_14 (by decide) ?_
  refine J_put (pc := 15) X clX6 0 3 [(z, .inr (6, [.ref n8, .int 0, .int 0, .int 0, .int 0])), (n8, .inl (cC, 200, .inl (fun _ => 0)))] rfl (by decide) g129 rfl rfl rfl (Nat.le_of_ble_eq_true rfl) rfl dX6_init_15 ?_
  refine J_aload_n (pc := 18) X 0 dX6_init_18 rfl ?_
  refine J_iconst (pc := 19) X (-1) dX6_init_19 (by decide) ?_
  refine J_put (pc := 20) X clX6 0 4 [(z, .inr (6, [.ref n8, .int 0, .int 0, .int 0, .int (-1)])), (n8, .inl (cC, 200, .inl (fun _ => 0)))] rfl (by decide) g130 rfl rfl rfl (Nat.le_of_ble_eq_true rfl) rfl dX6_init_20 ?_
  refine J_vretN (pc := 23) X hr n8 dX6_init_23 ?_ rfl
  trivial
set_option maxRecDepth 100000 in
set_option maxHeartbeats 600000 in
theorem kX7_init (l : Launch) (G : va_G) (cI cC cZ : ClassId) (z : Nat) : CN l G (tys3 cI cC cZ) yX7_init cX7_init 1 ({ frames := 1, cells := 1, slots := 18, locals := 12 }) 1 18 (fun _ => True) [.ref z] [(z, .inr (7, [.null]))] (S := Nat) (fun (u : Nat) => True) (fun (u : Nat) => [(z, .inr (7, [.ref u])), (u, .inl (cI, 18, .inl (fun _ => 0)))]) := by
  refine CN.intro (by decide) (Nat.le_of_ble_eq_true rfl) ?_
  intro p0 e0 s0 m0 ar0 be0 me0 c0 A0 X hr hin hNW
  refine J_aload_n (pc := 0) X 0 dX7_init_0 rfl ?_
  refine J_oinit (pc := 1) X g148 g83 g84 (Nat.le_of_ble_eq_true rfl) (Nat.le_of_ble_eq_true rfl) dX7_init_1 ?_
  refine J_aload_n (pc := 4) X 0 dX7_init_4 rfl ?_
  refine J_bipush (pc := 5) X 18 dX7_init_5 (by decide) ?_
  refine J_newa (atype := .int) (fty := .int) (pc := 7) X 0 18 (fun n7 => [(z, .inr (7, [.null])), (n7, .inl (cI, 18, .inl (fun _ => 0)))]) rfl rfl ra_I rfl g119 rfl (by decide) (by decide) (Nat.le_of_ble_eq_true rfl) (Nat.le_of_ble_eq_true rfl) dX7_init_7 (fun _ => rfl) (fun n7 => ?_)
  refine J_putF (pc := 9) X hin clX7 0 0 [(z, .inr (7, [.ref n7])), (n7, .inl (cI, 18, .inl (fun _ => 0)))] rfl (by decide) g149 rfl rfl rfl rfl (Nat.le_of_ble_eq_true rfl) rfl dX7_init_9 ?_
  refine J_vretN (pc := 12) X hr n7 dX7_init_12 ?_ rfl
  trivial
set_option maxRecDepth 100000 in
set_option maxHeartbeats 600000 in
theorem kX8_init (l : Launch) (G : va_G) (cI cC cZ : ClassId) (z : Nat) : CN l G (tys3 cI cC cZ) yX8_init cX8_init 1 ({ frames := 1, cells := 0, slots := 0, locals := 12 }) 0 0 (fun _ => True) [.ref z] [(z, .inr (8, [.int 0, .int 0, .int 0]))] (S := Unit) (fun (u : Unit) => True) (fun (u : Unit) => [(z, .inr (8, [.int (-1), .int (-1), .int 0]))]) := by
  refine CN.intro (by decide) (Nat.le_of_ble_eq_true rfl) ?_
  intro p0 e0 s0 m0 ar0 be0 me0 c0 A0 X hr hin hNW
  refine J_aload_n (pc := 0) X 0 dX8_init_0 rfl ?_
  refine J_oinit (pc := 1) X g230 g83 g84 (Nat.le_of_ble_eq_true rfl) (Nat.le_of_ble_eq_true rfl) dX8_init_1 ?_
  refine J_aload_n (pc := 4) X 0 dX8_init_4 rfl ?_
  refine J_iconst (pc := 5) X (-1) dX8_init_5 (by decide) ?_
  refine J_put (pc := 6) X clX8 0 0 [(z, .inr (8, [.int (-1), .int 0, .int 0]))] rfl (by decide) g231 rfl rfl rfl (Nat.le_of_ble_eq_true rfl) rfl dX8_init_6 ?_
  refine J_aload_n (pc := 9) X 0 dX8_init_9 rfl ?_
  refine J_iconst (pc := 10) X (-1) dX8_init_10 (by decide) ?_
  refine J_put (pc := 11) X clX8 0 1 [(z, .inr (8, [.int (-1), .int (-1), .int 0]))] rfl (by decide) g232 rfl rfl rfl (Nat.le_of_ble_eq_true rfl) rfl dX8_init_11 ?_
  refine J_vretN (pc := 14) X hr () dX8_init_14 ?_ rfl
  trivial
