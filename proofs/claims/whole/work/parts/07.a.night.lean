set_option maxRecDepth 100000 in
set_option maxHeartbeats 600000 in
theorem kX9_isWithin (l : Launch) (G : va_G) (cI cC cZ : ClassId) (x : Int32) (lo : Int32) (hi : Int32) : CI l G (tys3 cI cC cZ) yX9_isWithin cX9_isWithin 3 (some .boolean) ({ frames := 0, cells := 0, slots := 0, locals := 0 }) [.int x, .int lo, .int hi] [] (S := Unit) (fun (r : Int32) (u : Unit) => r = bI (wIn x lo hi)) (fun _ => []) := by
  refine CI.intro (by decide) (Nat.le_of_ble_eq_true rfl) ?_
  intro p0 e0 s0 m0 ar0 be0 me0 c0 A0 X hr
  refine J_iload_n (pc := 0) X 0 dX9_isWithin_0 rfl ?_
  refine J_iload_n (pc := 1) X 1 dX9_isWithin_1 rfl ?_
  refine J_icmp_lt (pc := 2) X 14 dX9_isWithin_2 (by decide) (fun c_1 => ?_) (fun c_1 => ?_)
  · skip
    refine J_iconst (pc := 14) X 0 dX9_isWithin_14 (by decide) ?_
    refine J_zret (pc := 15) X hr () rfl dX9_isWithin_15 ?_ rfl
    first | exact (bI_t (wIn_t (by assumption) (by assumption))).symm | exact (bI_f (wIn_f1 (by assumption))).symm | exact (bI_f (wIn_f2 (by assumption))).symm
  · skip
    refine J_iload_n (pc := 5) X 0 dX9_isWithin_5 rfl ?_
    refine J_iload_n (pc := 6) X 2 dX9_isWithin_6 rfl ?_
    refine J_icmp_gt (pc := 7) X 14 dX9_isWithin_7 (by decide) (fun c_2 => ?_) (fun c_2 => ?_)
    · skip
      refine J_iconst (pc := 14) X 0 dX9_isWithin_14 (by decide) ?_
      refine J_zret (pc := 15) X hr () rfl dX9_isWithin_15 ?_ rfl
      first | exact (bI_t (wIn_t (by assumption) (by assumption))).symm | exact (bI_f (wIn_f1 (by assumption))).symm | exact (bI_f (wIn_f2 (by assumption))).symm
    · skip
      refine J_iconst (pc := 10) X 1 dX9_isWithin_10 (by decide) ?_
      refine J_goto (pc := 11) X 15 dX9_isWithin_11 (by decide) ?_
      refine J_zret (pc := 15) X hr () rfl dX9_isWithin_15 ?_ rfl
      first | exact (bI_t (wIn_t (by assumption) (by assumption))).symm | exact (bI_f (wIn_f1 (by assumption))).symm | exact (bI_f (wIn_f2 (by assumption))).symm
set_option maxRecDepth 100000 in
set_option maxHeartbeats 600000 in
theorem kX9_isPace (l : Launch) (G : va_G) (cI cC cZ : ClassId) (x : Int32) : CI l G (tys3 cI cC cZ) yX9_isPace cX9_isPace 1 (some .boolean) ({ frames := 1, cells := 0, slots := 0, locals := 22 }) [.int x] [] (S := Unit) (fun (r : Int32) (u : Unit) => r = bI (wIn x 1 40)) (fun _ => []) := by
  refine CI.intro (by decide) (Nat.le_of_ble_eq_true rfl) ?_
  intro p0 e0 s0 m0 ar0 be0 me0 c0 A0 X hr
  refine J_iload_n (pc := 0) X 0 dX9_isPace_0 rfl ?_
  refine J_iconst (pc := 1) X 1 dX9_isPace_1 (by decide) ?_
  refine J_bipush (pc := 2) X 40 dX9_isPace_2 (by decide) ?_
  refine J_callS (pc := 4) (As := [.int x, .int 1, .int 40]) (rest := []) X mtX9_isWithin g282 [] (kX9_isWithin l G cI cC cZ x 1 40 ) ⟨Nat.le_of_ble_eq_true rfl, Nat.le_of_ble_eq_true rfl⟩ rfl rfl rfl (by decide) rfl rfl (Nat.le_of_ble_eq_true rfl) (Nat.zero_le _) (Nat.zero_le _) dX9_isPace_4 (fun r_1 u_2 w_3 => ?_)
  try dsimp only at w_3
  subst w_3
  refine J_zret (pc := 7) X hr () bI_nar dX9_isPace_7 ?_ rfl
  rfl
