set_option maxRecDepth 100000 in
set_option maxHeartbeats 600000 in
theorem kX6_length (l : Launch) (G : va_G) (cI cC cZ : ClassId) (qr : Nat) (qrl : Nat) (ln : Nat) (at_ : Nat) (fk : Nat) (fa : Int32) : CI l G (tys3 cI cC cZ) yX6_length cX6_length 1 (some .int) ({ frames := 0, cells := 0, slots := 0, locals := 0 }) [.ref qr] [(qr, .inr (6, [.ref qrl, .int (nI ln), .int (nI at_), .int (nI fk), .int fa]))] (S := Unit) (fun (r : Int32) (u : Unit) => r = nI ln) (fun _ => [(qr, .inr (6, [.ref qrl, .int (nI ln), .int (nI at_), .int (nI fk), .int fa]))]) := by
  refine CI.intro (by decide) (Nat.le_of_ble_eq_true rfl) ?_
  intro p0 e0 s0 m0 ar0 be0 me0 c0 A0 X hr
  refine J_aload_n (pc := 0) X 0 dX6_length_0 rfl ?_
  refine J_get (pc := 1) X clX6 0 1 rfl (by decide) g127 rfl dX6_length_1 ?_
  refine J_iret (pc := 4) X hr () dX6_length_4 ?_ rfl
  rfl
set_option maxRecDepth 100000 in
set_option maxHeartbeats 600000 in
theorem kX6_empty (l : Launch) (G : va_G) (cI cC cZ : ClassId) (qr : Nat) (qrl : Nat) (ln : Nat) (at_ : Nat) (fk : Nat) (fa : Int32) : CV l G (tys3 cI cC cZ) yX6_empty cX6_empty 1 ({ frames := 0, cells := 0, slots := 0, locals := 0 }) [.ref qr] [(qr, .inr (6, [.ref qrl, .int (nI ln), .int (nI at_), .int (nI fk), .int fa]))] (S := Unit) (fun (u : Unit) => True) (fun (u : Unit) => [(qr, .inr (6, [.ref qrl, .int 0, .int (nI at_), .int (nI fk), .int fa]))]) := by
  refine CV.intro (by decide) (Nat.le_of_ble_eq_true rfl) ?_
  intro p0 e0 s0 m0 ar0 be0 me0 c0 A0 X hr
  refine J_aload_n (pc := 0) X 0 dX6_empty_0 rfl ?_
  refine J_iconst (pc := 1) X 0 dX6_empty_1 (by decide) ?_
  refine J_put (pc := 2) X clX6 0 1 [(qr, .inr (6, [.ref qrl, .int 0, .int (nI at_), .int (nI fk), .int fa]))] rfl (by decide) g127 rfl rfl rfl (Nat.le_of_ble_eq_true rfl) rfl dX6_empty_2 ?_
  refine J_vret (pc := 5) X hr () dX6_empty_5 ?_ rfl
  trivial
set_option maxRecDepth 100000 in
set_option maxHeartbeats 600000 in
theorem kX6_faultPlace (l : Launch) (G : va_G) (cI cC cZ : ClassId) (qr : Nat) (qrl : Nat) (ln : Nat) (at_ : Nat) (fk : Nat) (fa : Int32) : CI l G (tys3 cI cC cZ) yX6_faultPlace cX6_faultPlace 1 (some .int) ({ frames := 0, cells := 0, slots := 0, locals := 0 }) [.ref qr] [(qr, .inr (6, [.ref qrl, .int (nI ln), .int (nI at_), .int (nI fk), .int fa]))] (S := Unit) (fun (r : Int32) (u : Unit) => r = fa) (fun _ => [(qr, .inr (6, [.ref qrl, .int (nI ln), .int (nI at_), .int (nI fk), .int fa]))]) := by
  refine CI.intro (by decide) (Nat.le_of_ble_eq_true rfl) ?_
  intro p0 e0 s0 m0 ar0 be0 me0 c0 A0 X hr
  refine J_aload_n (pc := 0) X 0 dX6_faultPlace_0 rfl ?_
  refine J_get (pc := 1) X clX6 0 4 rfl (by decide) g130 rfl dX6_faultPlace_1 ?_
  refine J_iret (pc := 4) X hr () dX6_faultPlace_4 ?_ rfl
  rfl
set_option maxRecDepth 100000 in
set_option maxHeartbeats 600000 in
theorem kX6_append (l : Launch) (G : va_G) (cI cC cZ : ClassId) (qr : Nat) (qrl : Nat) (ln : Nat) (at_ : Nat) (fk : Nat) (fa : Int32) (lt : Nat → Int32) (x : Int32) (hln : ln ≤ 200) : CI l G (tys3 cI cC cZ) yX6_append cX6_append 2 (some .boolean) ({ frames := 0, cells := 0, slots := 0, locals := 0 }) [.ref qr, .int x] [(qr, .inr (6, [.ref qrl, .int (nI ln), .int (nI at_), .int (nI fk), .int fa])), (qrl, .inl (cC, 200, .inl lt))] (S := Nat × (Nat → Int32)) (fun (r : Int32) (u : Nat × (Nat → Int32)) => r = bI (ln < 200) ∧ (ln < 200 → u.1 = ln + 1 ∧ u.2 = upd lt ln (vp_nar .char (vp_nar .char x))) ∧ (¬ ln < 200 → u.1 = ln ∧ u.2 = lt)) (fun (u : Nat × (Nat → Int32)) => [(qr, .inr (6, [.ref qrl, .int (nI u.1), .int (nI at_), .int (nI fk), .int fa])), (qrl, .inl (cC, 200, .inl u.2))]) := by
  refine CI.intro (by decide) (Nat.le_of_ble_eq_true rfl) ?_
  intro p0 e0 s0 m0 ar0 be0 me0 c0 A0 X hr
  refine J_aload_n (pc := 0) X 0 dX6_append_0 rfl ?_
  refine J_get (pc := 1) X clX6 0 1 rfl (by decide) g127 rfl dX6_append_1 ?_
  refine J_if_lt (pc := 4) X 19 dX6_append_4 (by decide) (fun c_1 => ?_) (fun c_1 => ?_)
  · have c_1 : ln < 0 := n_lt_of (a := ln) (b := 0) (by omega) (by omega) c_1
    exfalso; omega
  · have c_1 : 0 ≤ ln := n_nlt_of (a := ln) (b := 0) (by omega) (by omega) c_1
    refine J_aload_n (pc := 7) X 0 dX6_append_7 rfl ?_
    refine J_get (pc := 8) X clX6 0 1 rfl (by decide) g127 rfl dX6_append_8 ?_
    refine J_aload_n (pc := 11) X 0 dX6_append_11 rfl ?_
    refine J_get (pc := 12) X clX6 0 0 rfl (by decide) g126 rfl dX6_append_12 ?_
    refine J_alen (pc := 15) X 1 1 rfl rfl dX6_append_15 ?_
    refine J_icmp_lt (pc := 16) X 21 dX6_append_16 (by decide) (fun c_2 => ?_) (fun c_2 => ?_)
    · have c_2 : ln < 200 := n_lt_of (a := ln) (b := 200) (by omega) (by omega) c_2
      refine J_aload_n (pc := 21) X 0 dX6_append_21 rfl ?_
      refine J_get (pc := 22) X clX6 0 0 rfl (by decide) g126 rfl dX6_append_22 ?_
      refine J_aload_n (pc := 25) X 0 dX6_append_25 rfl ?_
      refine J_get (pc := 26) X clX6 0 1 rfl (by decide) g127 rfl dX6_append_26 ?_
      refine J_iload_n (pc := 29) X 1 dX6_append_29 rfl ?_
      refine J_i2c (pc := 30) X dX6_append_30 ?_
      refine J_cast (pc := 31) X 1 1 ln [(qr, .inr (6, [.ref qrl, .int (nI ln), .int (nI at_), .int (nI fk), .int fa])), (qrl, .inl (cC, 200, .inl (upd lt ln (vp_nar .char ((x.toUInt32 % 65536).toInt32)))))] rfl rfl rfl (by omega) (by decide) rfl dX6_append_31 ?_
      refine J_aload_n (pc := 32) X 0 dX6_append_32 rfl ?_
      refine J_dup (pc := 33) X dX6_append_33 rfl ?_
      refine J_get (pc := 34) X clX6 0 1 rfl (by decide) g127 rfl dX6_append_34 ?_
      refine J_iconst (pc := 37) X 1 dX6_append_37 (by decide) ?_
      refine J_iadd (pc := 38) X dX6_append_38 ?_
      refine J_top (y := nI (ln + 1)) (n_add (x := ln) (y := 1) rfl rfl (by omega)) ?_
      refine J_put (pc := 39) X clX6 0 1 [(qr, .inr (6, [.ref qrl, .int (nI (ln + 1)), .int (nI at_), .int (nI fk), .int fa])), (qrl, .inl (cC, 200, .inl (upd lt ln (vp_nar .char ((x.toUInt32 % 65536).toInt32)))))] rfl (by decide) g127 rfl rfl rfl (Nat.le_of_ble_eq_true rfl) rfl dX6_append_39 ?_
      refine J_iconst (pc := 42) X 1 dX6_append_42 (by decide) ?_
      refine J_zret (pc := 43) X hr ((ln + 1), (upd lt ln (vp_nar .char ((x.toUInt32 % 65536).toInt32)))) rfl dX6_append_43 ?_ rfl
      first | exact ⟨(bI_t (by omega)).symm, fun _ => ⟨rfl, rfl⟩, fun h => absurd (by omega) h⟩ | exact ⟨(bI_f (by omega)).symm, fun h => absurd h (by omega), fun _ => ⟨rfl, rfl⟩⟩
    · have c_2 : 200 ≤ ln := n_nlt_of (a := ln) (b := 200) (by omega) (by omega) c_2
      refine J_iconst (pc := 19) X 0 dX6_append_19 (by decide) ?_
      refine J_zret (pc := 20) X hr (ln, lt) rfl dX6_append_20 ?_ rfl
      first | exact ⟨(bI_t (by omega)).symm, fun _ => ⟨rfl, rfl⟩, fun h => absurd (by omega) h⟩ | exact ⟨(bI_f (by omega)).symm, fun h => absurd h (by omega), fun _ => ⟨rfl, rfl⟩⟩
set_option maxRecDepth 100000 in
set_option maxHeartbeats 600000 in
theorem kX6_isFigure (l : Launch) (G : va_G) (cI cC cZ : ClassId) (x : Int32) : CI l G (tys3 cI cC cZ) yX6_isFigure cX6_isFigure 1 (some .boolean) ({ frames := 0, cells := 0, slots := 0, locals := 0 }) [.int x] [] (S := Unit) (fun (r : Int32) (u : Unit) => r = bI (wIn x 48 57)) (fun _ => []) := by
  refine CI.intro (by decide) (Nat.le_of_ble_eq_true rfl) ?_
  intro p0 e0 s0 m0 ar0 be0 me0 c0 A0 X hr
  refine J_iload_n (pc := 0) X 0 dX6_isFigure_0 rfl ?_
  refine J_bipush (pc := 1) X 48 dX6_isFigure_1 (by decide) ?_
  refine J_icmp_lt (pc := 3) X 16 dX6_isFigure_3 (by decide) (fun c_1 => ?_) (fun c_1 => ?_)
  · skip
    refine J_iconst (pc := 16) X 0 dX6_isFigure_16 (by decide) ?_
    refine J_zret (pc := 17) X hr () rfl dX6_isFigure_17 ?_ rfl
    first | exact (bI_t (wIn_t (by assumption) (by assumption))).symm | exact (bI_f (wIn_f1 (by assumption))).symm | exact (bI_f (wIn_f2 (by assumption))).symm
  · skip
    refine J_iload_n (pc := 6) X 0 dX6_isFigure_6 rfl ?_
    refine J_bipush (pc := 7) X 57 dX6_isFigure_7 (by decide) ?_
    refine J_icmp_gt (pc := 9) X 16 dX6_isFigure_9 (by decide) (fun c_2 => ?_) (fun c_2 => ?_)
    · skip
      refine J_iconst (pc := 16) X 0 dX6_isFigure_16 (by decide) ?_
      refine J_zret (pc := 17) X hr () rfl dX6_isFigure_17 ?_ rfl
      first | exact (bI_t (wIn_t (by assumption) (by assumption))).symm | exact (bI_f (wIn_f1 (by assumption))).symm | exact (bI_f (wIn_f2 (by assumption))).symm
    · skip
      refine J_iconst (pc := 12) X 1 dX6_isFigure_12 (by decide) ?_
      refine J_goto (pc := 13) X 17 dX6_isFigure_13 (by decide) ?_
      refine J_zret (pc := 17) X hr () rfl dX6_isFigure_17 ?_ rfl
      first | exact (bI_t (wIn_t (by assumption) (by assumption))).symm | exact (bI_f (wIn_f1 (by assumption))).symm | exact (bI_f (wIn_f2 (by assumption))).symm
set_option maxRecDepth 100000 in
set_option maxHeartbeats 600000 in
theorem kX6_hasFault (l : Launch) (G : va_G) (cI cC cZ : ClassId) (qr : Nat) (qrl : Nat) (ln : Nat) (at_ : Nat) (fk : Nat) (fa : Int32) (hfk : fk ≤ 4) : CI l G (tys3 cI cC cZ) yX6_hasFault cX6_hasFault 1 (some .boolean) ({ frames := 0, cells := 0, slots := 0, locals := 0 }) [.ref qr] [(qr, .inr (6, [.ref qrl, .int (nI ln), .int (nI at_), .int (nI fk), .int fa]))] (S := Unit) (fun (r : Int32) (u : Unit) => r = bI (¬ fk = 0)) (fun _ => [(qr, .inr (6, [.ref qrl, .int (nI ln), .int (nI at_), .int (nI fk), .int fa]))]) := by
  refine CI.intro (by decide) (Nat.le_of_ble_eq_true rfl) ?_
  intro p0 e0 s0 m0 ar0 be0 me0 c0 A0 X hr
  refine J_aload_n (pc := 0) X 0 dX6_hasFault_0 rfl ?_
  refine J_get (pc := 1) X clX6 0 3 rfl (by decide) g129 rfl dX6_hasFault_1 ?_
  refine J_if_eq (pc := 4) X 11 dX6_hasFault_4 (by decide) (fun c_1 => ?_) (fun c_1 => ?_)
  · have c_1 : fk = 0 := n_eq_of (a := fk) (b := 0) (by omega) (by omega) c_1
    refine J_iconst (pc := 11) X 0 dX6_hasFault_11 (by decide) ?_
    refine J_zret (pc := 12) X hr () rfl dX6_hasFault_12 ?_ rfl
    first | exact (bI_t (by omega)).symm | exact (bI_f (by omega)).symm
  · have c_1 : ¬ fk = 0 := n_ne_of (a := fk) (b := 0) (by omega) (by omega) c_1
    refine J_iconst (pc := 7) X 1 dX6_hasFault_7 (by decide) ?_
    refine J_goto (pc := 8) X 12 dX6_hasFault_8 (by decide) ?_
    refine J_zret (pc := 12) X hr () rfl dX6_hasFault_12 ?_ rfl
    first | exact (bI_t (by omega)).symm | exact (bI_f (by omega)).symm
set_option maxRecDepth 100000 in
set_option maxHeartbeats 600000 in
theorem kX6_letter (l : Launch) (G : va_G) (cI cC cZ : ClassId) (qr : Nat) (qrl : Nat) (ln : Nat) (at_ : Nat) (fk : Nat) (fa : Int32) (lt : Nat → Int32) (tx : Nat → Int32) (hln : ln ≤ 200) (hat : at_ ≤ ln) (hfk : fk ≤ 4) (hlt : ∀ i9, i9 < ln → lt i9 = tx i9) : CI l G (tys3 cI cC cZ) yX6_letter cX6_letter 1 (some .int) ({ frames := 0, cells := 0, slots := 0, locals := 0 }) [.ref qr] [(qr, .inr (6, [.ref qrl, .int (nI ln), .int (nI at_), .int (nI fk), .int fa])), (qrl, .inl (cC, 200, .inl lt))] (S := Unit) (fun (r : Int32) (u : Unit) => r = lk tx ln at_) (fun _ => [(qr, .inr (6, [.ref qrl, .int (nI ln), .int (nI at_), .int (nI fk), .int fa])), (qrl, .inl (cC, 200, .inl lt))]) := by
  refine CI.intro (by decide) (Nat.le_of_ble_eq_true rfl) ?_
  intro p0 e0 s0 m0 ar0 be0 me0 c0 A0 X hr
  refine J_aload_n (pc := 0) X 0 dX6_letter_0 rfl ?_
  refine J_get (pc := 1) X clX6 0 2 rfl (by decide) g128 rfl dX6_letter_1 ?_
  refine J_if_lt (pc := 4) X 42 dX6_letter_4 (by decide) (fun c_1 => ?_) (fun c_1 => ?_)
  · have c_1 : at_ < 0 := n_lt_of (a := at_) (b := 0) (by omega) (by omega) c_1
    exfalso; omega
  · have c_1 : 0 ≤ at_ := n_nlt_of (a := at_) (b := 0) (by omega) (by omega) c_1
    refine J_aload_n (pc := 7) X 0 dX6_letter_7 rfl ?_
    refine J_get (pc := 8) X clX6 0 2 rfl (by decide) g128 rfl dX6_letter_8 ?_
    refine J_aload_n (pc := 11) X 0 dX6_letter_11 rfl ?_
    refine J_get (pc := 12) X clX6 0 1 rfl (by decide) g127 rfl dX6_letter_12 ?_
    refine J_icmp_ge (pc := 15) X 42 dX6_letter_15 (by decide) (fun c_2 => ?_) (fun c_2 => ?_)
    · have c_2 : ln ≤ at_ := n_le_of (a := ln) (b := at_) (by omega) (by omega) c_2
      refine J_iconst (pc := 42) X (-1) dX6_letter_42 (by decide) ?_
      refine J_iret (pc := 43) X hr () dX6_letter_43 ?_ rfl
      first | exact (lk_out (by omega)).symm | exact (hlt _ (by omega)).trans (lk_in (by omega)).symm
    · have c_2 : at_ < ln := n_nle_of (a := ln) (b := at_) (by omega) (by omega) c_2
      refine J_aload_n (pc := 18) X 0 dX6_letter_18 rfl ?_
      refine J_get (pc := 19) X clX6 0 2 rfl (by decide) g128 rfl dX6_letter_19 ?_
      refine J_aload_n (pc := 22) X 0 dX6_letter_22 rfl ?_
      refine J_get (pc := 23) X clX6 0 0 rfl (by decide) g126 rfl dX6_letter_23 ?_
      refine J_alen (pc := 26) X 1 1 rfl rfl dX6_letter_26 ?_
      refine J_icmp_ge (pc := 27) X 42 dX6_letter_27 (by decide) (fun c_3 => ?_) (fun c_3 => ?_)
      · have c_3 : 200 ≤ at_ := n_le_of (a := 200) (b := at_) (by omega) (by omega) c_3
        exfalso; omega
      · have c_3 : at_ < 200 := n_nle_of (a := 200) (b := at_) (by omega) (by omega) c_3
        refine J_aload_n (pc := 30) X 0 dX6_letter_30 rfl ?_
        refine J_get (pc := 31) X clX6 0 0 rfl (by decide) g126 rfl dX6_letter_31 ?_
        refine J_aload_n (pc := 34) X 0 dX6_letter_34 rfl ?_
        refine J_get (pc := 35) X clX6 0 2 rfl (by decide) g128 rfl dX6_letter_35 ?_
        refine J_cald (pc := 38) X 1 1 at_ rfl rfl rfl (by omega) (by decide) dX6_letter_38 ?_
        refine J_goto (pc := 39) X 43 dX6_letter_39 (by decide) ?_
        refine J_iret (pc := 43) X hr () dX6_letter_43 ?_ rfl
        first | exact (lk_out (by omega)).symm | exact (hlt _ (by omega)).trans (lk_in (by omega)).symm
set_option maxRecDepth 100000 in
set_option maxHeartbeats 600000 in
theorem kX6_blame (l : Launch) (G : va_G) (cI cC cZ : ClassId) (qr : Nat) (qrl : Nat) (ln : Nat) (at_ : Nat) (fk : Nat) (fa : Int32) (kd : Nat) (pl : Nat) (hfk : fk ≤ 4) : CV l G (tys3 cI cC cZ) yX6_blame cX6_blame 3 ({ frames := 1, cells := 0, slots := 0, locals := 20 }) [.ref qr, .int (nI kd), .int (nI pl)] [(qr, .inr (6, [.ref qrl, .int (nI ln), .int (nI at_), .int (nI fk), .int fa]))] (S := Nat × Int32) (fun (u : Nat × Int32) => u.1 = (if fk = 0 then kd else fk) ∧ u.2 = (if fk = 0 then nI pl else fa)) (fun (u : Nat × Int32) => [(qr, .inr (6, [.ref qrl, .int (nI ln), .int (nI at_), .int (nI u.1), .int u.2]))]) := by
  refine CV.intro (by decide) (Nat.le_of_ble_eq_true rfl) ?_
  intro p0 e0 s0 m0 ar0 be0 me0 c0 A0 X hr
  refine J_aload_n (pc := 0) X 0 dX6_blame_0 rfl ?_
  refine J_callR (pc := 1) (As := []) (rest := []) X mtX6_hasFault g315 [0] 0 (kX6_hasFault l G cI cC cZ qr qrl ln at_ fk fa (by first | assumption | omega)) ⟨Nat.le_of_ble_eq_true rfl, Nat.le_of_ble_eq_true rfl⟩ rfl rfl rfl (by decide) rfl rfl rfl rfl rfl (Nat.le_of_ble_eq_true rfl) (Nat.zero_le _) (Nat.zero_le _) dX6_blame_1 (fun r_1 u_2 w_3 => ?_)
  try dsimp only at w_3
  subst w_3
  refine J_bif_ne (pc := 4) X 17 dX6_blame_4 (by decide) (fun c_4 => ?_) (fun c_4 => ?_)
  · skip
    refine J_vret (pc := 17) X hr (fk, fa) dX6_blame_17 ?_ rfl
    first | exact ⟨(if_pos (by omega)).symm, (if_pos (by omega)).symm⟩ | exact ⟨(if_neg (by omega)).symm, (if_neg (by omega)).symm⟩
  · skip
    refine J_aload_n (pc := 7) X 0 dX6_blame_7 rfl ?_
    refine J_iload_n (pc := 8) X 1 dX6_blame_8 rfl ?_
    refine J_put (pc := 9) X clX6 0 3 [(qr, .inr (6, [.ref qrl, .int (nI ln), .int (nI at_), .int (nI kd), .int fa]))] rfl (by decide) g129 rfl rfl rfl (Nat.le_of_ble_eq_true rfl) rfl dX6_blame_9 ?_
    refine J_aload_n (pc := 12) X 0 dX6_blame_12 rfl ?_
    refine J_iload_n (pc := 13) X 2 dX6_blame_13 rfl ?_
    refine J_put (pc := 14) X clX6 0 4 [(qr, .inr (6, [.ref qrl, .int (nI ln), .int (nI at_), .int (nI kd), .int (nI pl)]))] rfl (by decide) g130 rfl rfl rfl (Nat.le_of_ble_eq_true rfl) rfl dX6_blame_14 ?_
    refine J_vret (pc := 17) X hr (kd, (nI pl)) dX6_blame_17 ?_ rfl
    first | exact ⟨(if_pos (by omega)).symm, (if_pos (by omega)).symm⟩ | exact ⟨(if_neg (by omega)).symm, (if_neg (by omega)).symm⟩
set_option maxRecDepth 100000 in
set_option maxHeartbeats 600000 in
theorem kX6_skipBlanks (l : Launch) (G : va_G) (cI cC cZ : ClassId) (qr : Nat) (qrl : Nat) (ln : Nat) (at_ : Nat) (fk : Nat) (fa : Int32) (lt : Nat → Int32) (tx : Nat → Int32) (hln : ln ≤ 200) (hat : at_ ≤ ln) (hfk : fk ≤ 4) (hlt : ∀ i9, i9 < ln → lt i9 = tx i9) : CV l G (tys3 cI cC cZ) yX6_skipBlanks cX6_skipBlanks 1 ({ frames := 1, cells := 0, slots := 0, locals := 20 }) [.ref qr] [(qr, .inr (6, [.ref qrl, .int (nI ln), .int (nI at_), .int (nI fk), .int fa])), (qrl, .inl (cC, 200, .inl lt))] (S := Nat) (fun (u : Nat) => u = sk tx ln at_) (fun (u : Nat) => [(qr, .inr (6, [.ref qrl, .int (nI ln), .int (nI u), .int (nI fk), .int fa])), (qrl, .inl (cC, 200, .inl lt))]) := by
  refine CV.intro (by decide) (Nat.le_of_ble_eq_true rfl) ?_
  intro p0 e0 s0 m0 ar0 be0 me0 c0 A0 X hr
  have L_0 : ∀ (n_0 : Nat) (i : Nat) (hi : i ≤ ln) (hT : skF tx ln (ln - i) i = sk tx ln at_), (ln - i) < n_0 → JJ p0 l e0 ({ frames := 1, cells := 0, slots := 0, locals := 20 }) s0 m0 ar0 be0 me0 c0 A0 G 1 0 0 (QV be0 ar0 s0 A0 G (tys3 cI cC cZ) (S := Nat) (fun (u : Nat) => u = sk tx ln at_) (fun (u : Nat) => [(qr, .inr (6, [.ref qrl, .int (nI ln), .int (nI u), .int (nI fk), .int fa])), (qrl, .inl (cC, 200, .inl lt))])) [(qr, .inr (6, [.ref qrl, .int (nI ln), .int (nI i), .int (nI fk), .int fa])), (qrl, .inl (cC, 200, .inl lt))] 0 [(0, .ref qr)] [] := by
    intro n_0
    induction n_0 with
    | zero => intro i hi hT hm_0; exact absurd hm_0 (Nat.not_lt_zero _)
    | succ n_0 ih_0 =>
      intro i hi hT hm_0
      refine J_aload_n (pc := 0) X 0 dX6_skipBlanks_0 rfl ?_
      refine J_get (pc := 1) X clX6 0 2 rfl (by decide) g128 rfl dX6_skipBlanks_1 ?_
      refine J_aload_n (pc := 4) X 0 dX6_skipBlanks_4 rfl ?_
      refine J_get (pc := 5) X clX6 0 1 rfl (by decide) g127 rfl dX6_skipBlanks_5 ?_
      refine J_icmp_ge (pc := 8) X 33 dX6_skipBlanks_8 (by decide) (fun c_1 => ?_) (fun c_1 => ?_)
      · have c_1 : ln ≤ i := n_le_of (a := ln) (b := i) (by omega) (by omega) c_1
        refine J_vret (pc := 33) X hr i dX6_skipBlanks_33 ?_ rfl
        exact (sk_stop (by first | assumption | (rw [lk_out (by omega)]; decide))).symm.trans hT
      · have c_1 : i < ln := n_nle_of (a := ln) (b := i) (by omega) (by omega) c_1
        refine J_aload_n (pc := 11) X 0 dX6_skipBlanks_11 rfl ?_
        refine J_callR (pc := 12) (As := []) (rest := []) X mtX6_letter g311 [0, 1] 0 (kX6_letter l G cI cC cZ qr qrl ln i fk fa lt tx (by first | assumption | omega) (by first | assumption | omega) (by first | assumption | omega) (by first | assumption | omega)) ⟨Nat.le_of_ble_eq_true rfl, Nat.le_of_ble_eq_true rfl⟩ rfl rfl rfl (by decide) rfl rfl rfl rfl rfl (Nat.le_of_ble_eq_true rfl) (Nat.zero_le _) (Nat.zero_le _) dX6_skipBlanks_12 (fun r_2 u_3 w_4 => ?_)
        try dsimp only at w_4
        subst w_4
        refine J_bipush (pc := 15) X 32 dX6_skipBlanks_15 (by decide) ?_
        refine J_icmp_ne (pc := 17) X 33 dX6_skipBlanks_17 (by decide) (fun c_5 => ?_) (fun c_5 => ?_)
        · skip
          refine J_vret (pc := 33) X hr i dX6_skipBlanks_33 ?_ rfl
          exact (sk_stop (by first | assumption | (rw [lk_out (by omega)]; decide))).symm.trans hT
        · skip
          refine J_aload_n (pc := 20) X 0 dX6_skipBlanks_20 rfl ?_
          refine J_dup (pc := 21) X dX6_skipBlanks_21 rfl ?_
          refine J_get (pc := 22) X clX6 0 2 rfl (by decide) g128 rfl dX6_skipBlanks_22 ?_
          refine J_iconst (pc := 25) X 1 dX6_skipBlanks_25 (by decide) ?_
          refine J_iadd (pc := 26) X dX6_skipBlanks_26 ?_
          refine J_top (y := nI (i + 1)) (n_add (x := i) (y := 1) rfl rfl (by omega)) ?_
          refine J_put (pc := 27) X clX6 0 2 [(qr, .inr (6, [.ref qrl, .int (nI ln), .int (nI (i + 1)), .int (nI fk), .int fa])), (qrl, .inl (cC, 200, .inl lt))] rfl (by decide) g128 rfl rfl rfl (Nat.le_of_ble_eq_true rfl) rfl dX6_skipBlanks_27 ?_
          refine J_goto (pc := 30) X 0 dX6_skipBlanks_30 (by decide) ?_
          refine J_loc [0] (lv2 := [(0, .ref qr)]) rfl ?_
          exact ih_0  (i + 1) (by first | assumption | omega | simp_all) (sk_go hT (by assumption)) (by omega)
  refine J_loc [0] (lv2 := [(0, .ref qr)]) rfl ?_
  exact L_0 _  at_ (by first | assumption | omega | simp_all) rfl (Nat.lt_succ_self _)
set_option maxRecDepth 100000 in
set_option maxHeartbeats 600000 in
theorem kX6_readEnd (l : Launch) (G : va_G) (cI cC cZ : ClassId) (qr : Nat) (qrl : Nat) (ln : Nat) (at_ : Nat) (fk : Nat) (fa : Int32) (lt : Nat → Int32) (tx : Nat → Int32) (a : Nat) (w : Nat) (hln : ln ≤ 200) (hat : at_ ≤ ln) (hfk : fk ≤ 4) (hlt : ∀ i9, i9 < ln → lt i9 = tx i9) (hrd : rdR ln at_ fk fa a w) : CV l G (tys3 cI cC cZ) yX6_readEnd cX6_readEnd 1 ({ frames := 2, cells := 0, slots := 0, locals := 42 }) [.ref qr] [(qr, .inr (6, [.ref qrl, .int (nI ln), .int (nI at_), .int (nI fk), .int fa])), (qrl, .inl (cC, 200, .inl lt))] (S := Nat × Nat × Int32) (fun (u : Nat × Nat × Int32) => rdR ln u.1 u.2.1 u.2.2 (wdS tx ln 59 a w).1 (wdS tx ln 59 a w).2) (fun (u : Nat × Nat × Int32) => [(qr, .inr (6, [.ref qrl, .int (nI ln), .int (nI u.1), .int (nI u.2.1), .int u.2.2])), (qrl, .inl (cC, 200, .inl lt))]) := by
  refine CV.intro (by decide) (Nat.le_of_ble_eq_true rfl) ?_
  intro p0 e0 s0 m0 ar0 be0 me0 c0 A0 X hr
  refine J_aload_n (pc := 0) X 0 dX6_readEnd_0 rfl ?_
  refine J_callV (pc := 1) (As := []) (rest := []) X mtX6_skipBlanks g307 [0, 1] [] [0, 1] 0 (fun u => [(qr, .inr (6, [.ref qrl, .int (nI ln), .int (nI u), .int (nI fk), .int fa])), (qrl, .inl (cC, 200, .inl lt))]) (kX6_skipBlanks l G cI cC cZ qr qrl ln at_ fk fa lt tx (by first | assumption | omega) (by first | assumption | omega) (by first | assumption | omega) (by first | assumption | omega)) ⟨Nat.le_of_ble_eq_true rfl, Nat.le_of_ble_eq_true rfl⟩ rfl rfl rfl (by decide) (wr := []) rfl (by decide) (by decide) (fun _ => rfl) (by decide) rfl rfl rfl rfl rfl (Nat.le_of_ble_eq_true rfl) (Nat.zero_le _) (Nat.zero_le _) dX6_readEnd_1 (fun u_2 w_3 => ?_)
  obtain ⟨fr, rfl⟩ : ∃ z, z = u_2 := ⟨_, rfl⟩
  try dsimp only at w_3
  have hfr := w_3
  have hfl : fr ≤ ln := by rw [hfr]; exact sk_le hat
  refine J_aload_n (pc := 4) X 0 dX6_readEnd_4 rfl ?_
  refine J_callR (pc := 5) (As := []) (rest := []) X mtX6_letter g311 [0, 1] 0 (kX6_letter l G cI cC cZ qr qrl ln fr fk fa lt tx (by first | assumption | omega) (by first | assumption | omega) (by first | assumption | omega) (by first | assumption | omega)) ⟨Nat.le_of_ble_eq_true rfl, Nat.le_of_ble_eq_true rfl⟩ rfl rfl rfl (by decide) rfl rfl rfl rfl rfl (Nat.le_of_ble_eq_true rfl) (Nat.zero_le _) (Nat.zero_le _) dX6_readEnd_5 (fun r_4 u_5 w_6 => ?_)
  try dsimp only at w_6
  subst w_6
  refine J_bipush (pc := 8) X 59 dX6_readEnd_8 (by decide) ?_
  refine J_icmp_ne (pc := 10) X 26 dX6_readEnd_10 (by decide) (fun c_7 => ?_) (fun c_7 => ?_)
  · skip
    refine J_aload_n (pc := 26) X 0 dX6_readEnd_26 rfl ?_
    refine J_iconst (pc := 27) X 1 dX6_readEnd_27 (by decide) ?_
    refine J_aload_n (pc := 28) X 0 dX6_readEnd_28 rfl ?_
    refine J_get (pc := 29) X clX6 0 2 rfl (by decide) g128 rfl dX6_readEnd_29 ?_
    refine J_callV (pc := 32) (As := [.int 1, .int (nI fr)]) (rest := []) X mtX6_blame g327 [0] [1] [1, 0] 0 (fun u => [(qr, .inr (6, [.ref qrl, .int (nI ln), .int (nI fr), .int (nI u.1), .int u.2])), (qrl, .inl (cC, 200, .inl lt))]) (kX6_blame l G cI cC cZ qr qrl ln fr fk fa 1 fr (by first | assumption | omega)) ⟨Nat.le_of_ble_eq_true rfl, Nat.le_of_ble_eq_true rfl⟩ rfl rfl rfl (by decide) (wr := [(qrl, .inl (cC, 200, .inl lt))]) rfl (by decide) (by decide) (fun _ => rfl) (by decide) rfl rfl rfl rfl rfl (Nat.le_of_ble_eq_true rfl) (Nat.zero_le _) (Nat.zero_le _) dX6_readEnd_32 (fun u_9 w_10 => ?_)
    obtain ⟨fk2_u_9, fa2_u_9⟩ := u_9
    try dsimp only at w_10
    have hbl := w_10
    refine J_vret (pc := 35) X hr (fr, fk2_u_9, fa2_u_9) dX6_readEnd_35 ?_ rfl
    exact rdR_wd1 hrd hfr (by assumption) hfl hbl.1 hbl.2
  · skip
    have hlt9 : fr < ln := lk_lt (show lk tx ln fr = 59 from by assumption) (by decide)
    refine J_aload_n (pc := 13) X 0 dX6_readEnd_13 rfl ?_
    refine J_dup (pc := 14) X dX6_readEnd_14 rfl ?_
    refine J_get (pc := 15) X clX6 0 2 rfl (by decide) g128 rfl dX6_readEnd_15 ?_
    refine J_iconst (pc := 18) X 1 dX6_readEnd_18 (by decide) ?_
    refine J_iadd (pc := 19) X dX6_readEnd_19 ?_
    refine J_top (y := nI (fr + 1)) (n_add (x := fr) (y := 1) rfl rfl (by omega)) ?_
    refine J_put (pc := 20) X clX6 0 2 [(qr, .inr (6, [.ref qrl, .int (nI ln), .int (nI (fr + 1)), .int (nI fk), .int fa])), (qrl, .inl (cC, 200, .inl lt))] rfl (by decide) g128 rfl rfl rfl (Nat.le_of_ble_eq_true rfl) rfl dX6_readEnd_20 ?_
    refine J_goto (pc := 23) X 35 dX6_readEnd_23 (by decide) ?_
    refine J_vret (pc := 35) X hr ((fr + 1), fk, fa) dX6_readEnd_35 ?_ rfl
    exact rdR_wd0 hrd hfr (by assumption) (by omega)
set_option maxRecDepth 100000 in
set_option maxHeartbeats 600000 in
theorem kX6_readNumber (l : Launch) (G : va_G) (cI cC cZ : ClassId) (qr : Nat) (qrl : Nat) (ln : Nat) (at_ : Nat) (fk : Nat) (fa : Int32) (lt : Nat → Int32) (tx : Nat → Int32) (a : Nat) (w : Nat) (lo : Int32) (hi : Int32) (hln : ln ≤ 200) (hat : at_ ≤ ln) (hfk : fk ≤ 4) (hlt : ∀ i9, i9 < ln → lt i9 = tx i9) (hrd : rdR ln at_ fk fa a w) : CI l G (tys3 cI cC cZ) yX6_readNumber cX6_readNumber 5 (some .int) ({ frames := 2, cells := 0, slots := 0, locals := 42 }) [.ref qr, .int lo, .int hi] [(qr, .inr (6, [.ref qrl, .int (nI ln), .int (nI at_), .int (nI fk), .int fa])), (qrl, .inl (cC, 200, .inl lt))] (S := Nat × Nat × Int32) (fun (r : Int32) (u : Nat × Nat × Int32) => rdR ln u.1 u.2.1 u.2.2 (nmS tx ln lo hi a w).1 (nmS tx ln lo hi a w).2.1 ∧ (u.2.1 = 0 → r = (nmS tx ln lo hi a w).2.2)) (fun (u : Nat × Nat × Int32) => [(qr, .inr (6, [.ref qrl, .int (nI ln), .int (nI u.1), .int (nI u.2.1), .int u.2.2])), (qrl, .inl (cC, 200, .inl lt))]) := by
  refine CI.intro (by decide) (Nat.le_of_ble_eq_true rfl) ?_
  intro p0 e0 s0 m0 ar0 be0 me0 c0 A0 X hr
  refine J_aload_n (pc := 0) X 0 dX6_readNumber_0 rfl ?_
  refine J_callV (pc := 1) (As := []) (rest := []) X mtX6_skipBlanks g307 [0, 1] [] [0, 1] 0 (fun u => [(qr, .inr (6, [.ref qrl, .int (nI ln), .int (nI u), .int (nI fk), .int fa])), (qrl, .inl (cC, 200, .inl lt))]) (kX6_skipBlanks l G cI cC cZ qr qrl ln at_ fk fa lt tx (by first | assumption | omega) (by first | assumption | omega) (by first | assumption | omega) (by first | assumption | omega)) ⟨Nat.le_of_ble_eq_true rfl, Nat.le_of_ble_eq_true rfl⟩ rfl rfl rfl (by decide) (wr := []) rfl (by decide) (by decide) (fun _ => rfl) (by decide) rfl rfl rfl rfl rfl (Nat.le_of_ble_eq_true rfl) (Nat.zero_le _) (Nat.zero_le _) dX6_readNumber_1 (fun u_2 w_3 => ?_)
  obtain ⟨fr, rfl⟩ : ∃ z, z = u_2 := ⟨_, rfl⟩
  try dsimp only at w_3
  have hfr := w_3
  have hfl : fr ≤ ln := by rw [hfr]; exact sk_le hat
  refine J_aload_n (pc := 4) X 0 dX6_readNumber_4 rfl ?_
  refine J_get (pc := 5) X clX6 0 2 rfl (by decide) g128 rfl dX6_readNumber_5 ?_
  refine J_istore_n (pc := 8) X [(3, .int (nI fr)), (0, .ref qr), (1, .int lo), (2, .int hi)] dX6_readNumber_8 (by decide) rfl ?_
  refine J_iconst (pc := 9) X 0 dX6_readNumber_9 (by decide) ?_
  refine J_istore (pc := 10) X [(4, .int 0), (3, .int (nI fr)), (0, .ref qr), (1, .int lo), (2, .int hi)] dX6_readNumber_10 (by decide) rfl ?_
  have L_12 : ∀ (n_12 : Nat) (i : Nat) (v : Int32) (hi1 : fr ≤ i) (hi2 : i ≤ ln) (hT : scF tx ln fr (ln - i) i v = sc tx ln fr) (hdg : fr < i → wIn (lk tx ln fr) 48 57), (ln - i) < n_12 → JJ p0 l e0 ({ frames := 2, cells := 0, slots := 0, locals := 42 }) s0 m0 ar0 be0 me0 c0 A0 G 5 0 0 (QI be0 ar0 s0 A0 G (tys3 cI cC cZ) (S := Nat × Nat × Int32) (fun (r : Int32) (u : Nat × Nat × Int32) => rdR ln u.1 u.2.1 u.2.2 (nmS tx ln lo hi a w).1 (nmS tx ln lo hi a w).2.1 ∧ (u.2.1 = 0 → r = (nmS tx ln lo hi a w).2.2)) (fun (u : Nat × Nat × Int32) => [(qr, .inr (6, [.ref qrl, .int (nI ln), .int (nI u.1), .int (nI u.2.1), .int u.2.2])), (qrl, .inl (cC, 200, .inl lt))])) [(qr, .inr (6, [.ref qrl, .int (nI ln), .int (nI i), .int (nI fk), .int fa])), (qrl, .inl (cC, 200, .inl lt))] 12 [(0, .ref qr), (1, .int lo), (2, .int hi), (3, .int (nI fr)), (4, .int v)] [] := by
    intro n_12
    induction n_12 with
    | zero => intro i v hi1 hi2 hT hdg hm_12; exact absurd hm_12 (Nat.not_lt_zero _)
    | succ n_12 ih_12 =>
      intro i v hi1 hi2 hT hdg hm_12
      refine J_aload_n (pc := 12) X 0 dX6_readNumber_12 rfl ?_
      refine J_get (pc := 13) X clX6 0 2 rfl (by decide) g128 rfl dX6_readNumber_13 ?_
      refine J_aload_n (pc := 16) X 0 dX6_readNumber_16 rfl ?_
      refine J_get (pc := 17) X clX6 0 1 rfl (by decide) g127 rfl dX6_readNumber_17 ?_
      refine J_icmp_ge (pc := 20) X 76 dX6_readNumber_20 (by decide) (fun c_4 => ?_) (fun c_4 => ?_)
      · have c_4 : ln ≤ i := n_le_of (a := ln) (b := i) (by omega) (by omega) c_4
        refine J_aload_n (pc := 76) X 0 dX6_readNumber_76 rfl ?_
        refine J_get (pc := 77) X clX6 0 2 rfl (by decide) g128 rfl dX6_readNumber_77 ?_
        refine J_iload_n (pc := 80) X 3 dX6_readNumber_80 rfl ?_
        refine J_icmp_ne (pc := 81) X 93 dX6_readNumber_81 (by decide) (fun c_5 => ?_) (fun c_5 => ?_)
        · have c_5 : ¬ i = fr := n_ne_of (a := i) (b := fr) (by omega) (by omega) c_5
          refine J_aload_n (pc := 93) X 0 dX6_readNumber_93 rfl ?_
          refine J_get (pc := 94) X clX6 0 2 rfl (by decide) g128 rfl dX6_readNumber_94 ?_
          refine J_iload_n (pc := 97) X 3 dX6_readNumber_97 rfl ?_
          refine J_isub (pc := 98) X dX6_readNumber_98 ?_
          refine J_top (y := nI (i - fr)) (n_sub (x := i) (y := fr) rfl rfl (by omega) (by omega)) ?_
          refine J_iconst (pc := 99) X 3 dX6_readNumber_99 (by decide) ?_
          refine J_icmp_gt (pc := 100) X 115 dX6_readNumber_100 (by decide) (fun c_6 => ?_) (fun c_6 => ?_)
          · have c_6 : 3 < i - fr := n_lt_of (a := 3) (b := i - fr) (by omega) (by omega) c_6
            refine J_aload_n (pc := 115) X 0 dX6_readNumber_115 rfl ?_
            refine J_iconst (pc := 116) X 2 dX6_readNumber_116 (by decide) ?_
            refine J_iload_n (pc := 117) X 3 dX6_readNumber_117 rfl ?_
            refine J_callV (pc := 118) (As := [.int 2, .int (nI fr)]) (rest := []) X mtX6_blame g327 [0] [1] [1, 0] 0 (fun u => [(qr, .inr (6, [.ref qrl, .int (nI ln), .int (nI i), .int (nI u.1), .int u.2])), (qrl, .inl (cC, 200, .inl lt))]) (kX6_blame l G cI cC cZ qr qrl ln i fk fa 2 fr (by first | assumption | omega)) ⟨Nat.le_of_ble_eq_true rfl, Nat.le_of_ble_eq_true rfl⟩ rfl rfl rfl (by decide) (wr := [(qrl, .inl (cC, 200, .inl lt))]) rfl (by decide) (by decide) (fun _ => rfl) (by decide) rfl rfl rfl rfl rfl (Nat.le_of_ble_eq_true rfl) (Nat.zero_le _) (Nat.zero_le _) dX6_readNumber_118 (fun u_8 w_9 => ?_)
            obtain ⟨fk2_u_8, fa2_u_8⟩ := u_8
            try dsimp only at w_9
            have hb2 := w_9
            refine J_iload (pc := 121) X 4 dX6_readNumber_121 rfl ?_
            refine J_iret (pc := 123) X hr (i, fk2_u_8, fa2_u_8) dX6_readNumber_123 ?_ rfl
            have hsc := sc_stop hT (by first | assumption | exact lk_ne_end (by omega))
            first | exact rdR_nm0 hrd hi2 hfr (hdg (by omega)) hsc (by omega) (wIn_t (by assumption) (by assumption)) | exact rdR_nm1 hrd hi2 hfr (by first | (rw [show fr = i from by omega]; exact (by first | assumption | exact lk_ne_end (by omega)))) hb1.1 hb1.2 | exact rdR_nm2 hrd hi2 hfr (hdg (by omega)) hsc (by first | exact Or.inl (by omega) | exact Or.inr (wIn_f1 (by assumption)) | exact Or.inr (wIn_f2 (by assumption))) hb2.1 hb2.2
          · have c_6 : i - fr ≤ 3 := n_nlt_of (a := 3) (b := i - fr) (by omega) (by omega) c_6
            refine J_iload (pc := 103) X 4 dX6_readNumber_103 rfl ?_
            refine J_iload_n (pc := 105) X 1 dX6_readNumber_105 rfl ?_
            refine J_icmp_lt (pc := 106) X 115 dX6_readNumber_106 (by decide) (fun c_10 => ?_) (fun c_10 => ?_)
            · skip
              refine J_aload_n (pc := 115) X 0 dX6_readNumber_115 rfl ?_
              refine J_iconst (pc := 116) X 2 dX6_readNumber_116 (by decide) ?_
              refine J_iload_n (pc := 117) X 3 dX6_readNumber_117 rfl ?_
              refine J_callV (pc := 118) (As := [.int 2, .int (nI fr)]) (rest := []) X mtX6_blame g327 [0] [1] [1, 0] 0 (fun u => [(qr, .inr (6, [.ref qrl, .int (nI ln), .int (nI i), .int (nI u.1), .int u.2])), (qrl, .inl (cC, 200, .inl lt))]) (kX6_blame l G cI cC cZ qr qrl ln i fk fa 2 fr (by first | assumption | omega)) ⟨Nat.le_of_ble_eq_true rfl, Nat.le_of_ble_eq_true rfl⟩ rfl rfl rfl (by decide) (wr := [(qrl, .inl (cC, 200, .inl lt))]) rfl (by decide) (by decide) (fun _ => rfl) (by decide) rfl rfl rfl rfl rfl (Nat.le_of_ble_eq_true rfl) (Nat.zero_le _) (Nat.zero_le _) dX6_readNumber_118 (fun u_12 w_13 => ?_)
              obtain ⟨fk2_u_12, fa2_u_12⟩ := u_12
              try dsimp only at w_13
              have hb2 := w_13
              refine J_iload (pc := 121) X 4 dX6_readNumber_121 rfl ?_
              refine J_iret (pc := 123) X hr (i, fk2_u_12, fa2_u_12) dX6_readNumber_123 ?_ rfl
              have hsc := sc_stop hT (by first | assumption | exact lk_ne_end (by omega))
              first | exact rdR_nm0 hrd hi2 hfr (hdg (by omega)) hsc (by omega) (wIn_t (by assumption) (by assumption)) | exact rdR_nm1 hrd hi2 hfr (by first | (rw [show fr = i from by omega]; exact (by first | assumption | exact lk_ne_end (by omega)))) hb1.1 hb1.2 | exact rdR_nm2 hrd hi2 hfr (hdg (by omega)) hsc (by first | exact Or.inl (by omega) | exact Or.inr (wIn_f1 (by assumption)) | exact Or.inr (wIn_f2 (by assumption))) hb2.1 hb2.2
            · skip
              refine J_iload (pc := 109) X 4 dX6_readNumber_109 rfl ?_
              refine J_iload_n (pc := 111) X 2 dX6_readNumber_111 rfl ?_
              refine J_icmp_le (pc := 112) X 121 dX6_readNumber_112 (by decide) (fun c_14 => ?_) (fun c_14 => ?_)
              · have c_14 := Int32.not_lt.mpr c_14
                refine J_iload (pc := 121) X 4 dX6_readNumber_121 rfl ?_
                refine J_iret (pc := 123) X hr (i, fk, fa) dX6_readNumber_123 ?_ rfl
                have hsc := sc_stop hT (by first | assumption | exact lk_ne_end (by omega))
                first | exact rdR_nm0 hrd hi2 hfr (hdg (by omega)) hsc (by omega) (wIn_t (by assumption) (by assumption)) | exact rdR_nm1 hrd hi2 hfr (by first | (rw [show fr = i from by omega]; exact (by first | assumption | exact lk_ne_end (by omega)))) hb1.1 hb1.2 | exact rdR_nm2 hrd hi2 hfr (hdg (by omega)) hsc (by first | exact Or.inl (by omega) | exact Or.inr (wIn_f1 (by assumption)) | exact Or.inr (wIn_f2 (by assumption))) hb2.1 hb2.2
              · have c_14 := Int32.not_le.mp c_14
                refine J_aload_n (pc := 115) X 0 dX6_readNumber_115 rfl ?_
                refine J_iconst (pc := 116) X 2 dX6_readNumber_116 (by decide) ?_
                refine J_iload_n (pc := 117) X 3 dX6_readNumber_117 rfl ?_
                refine J_callV (pc := 118) (As := [.int 2, .int (nI fr)]) (rest := []) X mtX6_blame g327 [0] [1] [1, 0] 0 (fun u => [(qr, .inr (6, [.ref qrl, .int (nI ln), .int (nI i), .int (nI u.1), .int u.2])), (qrl, .inl (cC, 200, .inl lt))]) (kX6_blame l G cI cC cZ qr qrl ln i fk fa 2 fr (by first | assumption | omega)) ⟨Nat.le_of_ble_eq_true rfl, Nat.le_of_ble_eq_true rfl⟩ rfl rfl rfl (by decide) (wr := [(qrl, .inl (cC, 200, .inl lt))]) rfl (by decide) (by decide) (fun _ => rfl) (by decide) rfl rfl rfl rfl rfl (Nat.le_of_ble_eq_true rfl) (Nat.zero_le _) (Nat.zero_le _) dX6_readNumber_118 (fun u_16 w_17 => ?_)
                obtain ⟨fk2_u_16, fa2_u_16⟩ := u_16
                try dsimp only at w_17
                have hb2 := w_17
                refine J_iload (pc := 121) X 4 dX6_readNumber_121 rfl ?_
                refine J_iret (pc := 123) X hr (i, fk2_u_16, fa2_u_16) dX6_readNumber_123 ?_ rfl
                have hsc := sc_stop hT (by first | assumption | exact lk_ne_end (by omega))
                first | exact rdR_nm0 hrd hi2 hfr (hdg (by omega)) hsc (by omega) (wIn_t (by assumption) (by assumption)) | exact rdR_nm1 hrd hi2 hfr (by first | (rw [show fr = i from by omega]; exact (by first | assumption | exact lk_ne_end (by omega)))) hb1.1 hb1.2 | exact rdR_nm2 hrd hi2 hfr (hdg (by omega)) hsc (by first | exact Or.inl (by omega) | exact Or.inr (wIn_f1 (by assumption)) | exact Or.inr (wIn_f2 (by assumption))) hb2.1 hb2.2
        · have c_5 : i = fr := n_eq_of (a := i) (b := fr) (by omega) (by omega) c_5
          refine J_aload_n (pc := 84) X 0 dX6_readNumber_84 rfl ?_
          refine J_iconst (pc := 85) X 1 dX6_readNumber_85 (by decide) ?_
          refine J_iload_n (pc := 86) X 3 dX6_readNumber_86 rfl ?_
          refine J_callV (pc := 87) (As := [.int 1, .int (nI fr)]) (rest := []) X mtX6_blame g327 [0] [1] [1, 0] 0 (fun u => [(qr, .inr (6, [.ref qrl, .int (nI ln), .int (nI i), .int (nI u.1), .int u.2])), (qrl, .inl (cC, 200, .inl lt))]) (kX6_blame l G cI cC cZ qr qrl ln i fk fa 1 fr (by first | assumption | omega)) ⟨Nat.le_of_ble_eq_true rfl, Nat.le_of_ble_eq_true rfl⟩ rfl rfl rfl (by decide) (wr := [(qrl, .inl (cC, 200, .inl lt))]) rfl (by decide) (by decide) (fun _ => rfl) (by decide) rfl rfl rfl rfl rfl (Nat.le_of_ble_eq_true rfl) (Nat.zero_le _) (Nat.zero_le _) dX6_readNumber_87 (fun u_19 w_20 => ?_)
          obtain ⟨fk2_u_19, fa2_u_19⟩ := u_19
          try dsimp only at w_20
          have hb1 := w_20
          refine J_goto (pc := 90) X 121 dX6_readNumber_90 (by decide) ?_
          refine J_iload (pc := 121) X 4 dX6_readNumber_121 rfl ?_
          refine J_iret (pc := 123) X hr (i, fk2_u_19, fa2_u_19) dX6_readNumber_123 ?_ rfl
          have hsc := sc_stop hT (by first | assumption | exact lk_ne_end (by omega))
          first | exact rdR_nm0 hrd hi2 hfr (hdg (by omega)) hsc (by omega) (wIn_t (by assumption) (by assumption)) | exact rdR_nm1 hrd hi2 hfr (by first | (rw [show fr = i from by omega]; exact (by first | assumption | exact lk_ne_end (by omega)))) hb1.1 hb1.2 | exact rdR_nm2 hrd hi2 hfr (hdg (by omega)) hsc (by first | exact Or.inl (by omega) | exact Or.inr (wIn_f1 (by assumption)) | exact Or.inr (wIn_f2 (by assumption))) hb2.1 hb2.2
      · have c_4 : i < ln := n_nle_of (a := ln) (b := i) (by omega) (by omega) c_4
        refine J_aload_n (pc := 23) X 0 dX6_readNumber_23 rfl ?_
        refine J_callR (pc := 24) (As := []) (rest := []) X mtX6_letter g311 [0, 1] 0 (kX6_letter l G cI cC cZ qr qrl ln i fk fa lt tx (by first | assumption | omega) (by first | assumption | omega) (by first | assumption | omega) (by first | assumption | omega)) ⟨Nat.le_of_ble_eq_true rfl, Nat.le_of_ble_eq_true rfl⟩ rfl rfl rfl (by decide) rfl rfl rfl rfl rfl (Nat.le_of_ble_eq_true rfl) (Nat.zero_le _) (Nat.zero_le _) dX6_readNumber_24 (fun r_21 u_22 w_23 => ?_)
        try dsimp only at w_23
        subst w_23
        refine J_callS (pc := 27) (As := [.int (lk tx ln i)]) (rest := []) X mtX6_isFigure g339 [] (kX6_isFigure l G cI cC cZ (lk tx ln i) ) ⟨Nat.le_of_ble_eq_true rfl, Nat.le_of_ble_eq_true rfl⟩ rfl rfl rfl (by decide) rfl rfl (Nat.le_of_ble_eq_true rfl) (Nat.zero_le _) (Nat.zero_le _) dX6_readNumber_27 (fun r_24 u_25 w_26 => ?_)
        try dsimp only at w_26
        subst w_26
        refine J_bif_eq (pc := 30) X 76 dX6_readNumber_30 (by decide) (fun c_27 => ?_) (fun c_27 => ?_)
        · skip
          refine J_aload_n (pc := 76) X 0 dX6_readNumber_76 rfl ?_
          refine J_get (pc := 77) X clX6 0 2 rfl (by decide) g128 rfl dX6_readNumber_77 ?_
          refine J_iload_n (pc := 80) X 3 dX6_readNumber_80 rfl ?_
          refine J_icmp_ne (pc := 81) X 93 dX6_readNumber_81 (by decide) (fun c_28 => ?_) (fun c_28 => ?_)
          · have c_28 : ¬ i = fr := n_ne_of (a := i) (b := fr) (by omega) (by omega) c_28
            refine J_aload_n (pc := 93) X 0 dX6_readNumber_93 rfl ?_
            refine J_get (pc := 94) X clX6 0 2 rfl (by decide) g128 rfl dX6_readNumber_94 ?_
            refine J_iload_n (pc := 97) X 3 dX6_readNumber_97 rfl ?_
            refine J_isub (pc := 98) X dX6_readNumber_98 ?_
            refine J_top (y := nI (i - fr)) (n_sub (x := i) (y := fr) rfl rfl (by omega) (by omega)) ?_
            refine J_iconst (pc := 99) X 3 dX6_readNumber_99 (by decide) ?_
            refine J_icmp_gt (pc := 100) X 115 dX6_readNumber_100 (by decide) (fun c_29 => ?_) (fun c_29 => ?_)
            · have c_29 : 3 < i - fr := n_lt_of (a := 3) (b := i - fr) (by omega) (by omega) c_29
              refine J_aload_n (pc := 115) X 0 dX6_readNumber_115 rfl ?_
              refine J_iconst (pc := 116) X 2 dX6_readNumber_116 (by decide) ?_
              refine J_iload_n (pc := 117) X 3 dX6_readNumber_117 rfl ?_
              refine J_callV (pc := 118) (As := [.int 2, .int (nI fr)]) (rest := []) X mtX6_blame g327 [0] [1] [1, 0] 0 (fun u => [(qr, .inr (6, [.ref qrl, .int (nI ln), .int (nI i), .int (nI u.1), .int u.2])), (qrl, .inl (cC, 200, .inl lt))]) (kX6_blame l G cI cC cZ qr qrl ln i fk fa 2 fr (by first | assumption | omega)) ⟨Nat.le_of_ble_eq_true rfl, Nat.le_of_ble_eq_true rfl⟩ rfl rfl rfl (by decide) (wr := [(qrl, .inl (cC, 200, .inl lt))]) rfl (by decide) (by decide) (fun _ => rfl) (by decide) rfl rfl rfl rfl rfl (Nat.le_of_ble_eq_true rfl) (Nat.zero_le _) (Nat.zero_le _) dX6_readNumber_118 (fun u_31 w_32 => ?_)
              obtain ⟨fk2_u_31, fa2_u_31⟩ := u_31
              try dsimp only at w_32
              have hb2 := w_32
              refine J_iload (pc := 121) X 4 dX6_readNumber_121 rfl ?_
              refine J_iret (pc := 123) X hr (i, fk2_u_31, fa2_u_31) dX6_readNumber_123 ?_ rfl
              have hsc := sc_stop hT (by first | assumption | exact lk_ne_end (by omega))
              first | exact rdR_nm0 hrd hi2 hfr (hdg (by omega)) hsc (by omega) (wIn_t (by assumption) (by assumption)) | exact rdR_nm1 hrd hi2 hfr (by first | (rw [show fr = i from by omega]; exact (by first | assumption | exact lk_ne_end (by omega)))) hb1.1 hb1.2 | exact rdR_nm2 hrd hi2 hfr (hdg (by omega)) hsc (by first | exact Or.inl (by omega) | exact Or.inr (wIn_f1 (by assumption)) | exact Or.inr (wIn_f2 (by assumption))) hb2.1 hb2.2
            · have c_29 : i - fr ≤ 3 := n_nlt_of (a := 3) (b := i - fr) (by omega) (by omega) c_29
              refine J_iload (pc := 103) X 4 dX6_readNumber_103 rfl ?_
              refine J_iload_n (pc := 105) X 1 dX6_readNumber_105 rfl ?_
              refine J_icmp_lt (pc := 106) X 115 dX6_readNumber_106 (by decide) (fun c_33 => ?_) (fun c_33 => ?_)
              · skip
                refine J_aload_n (pc := 115) X 0 dX6_readNumber_115 rfl ?_
                refine J_iconst (pc := 116) X 2 dX6_readNumber_116 (by decide) ?_
                refine J_iload_n (pc := 117) X 3 dX6_readNumber_117 rfl ?_
                refine J_callV (pc := 118) (As := [.int 2, .int (nI fr)]) (rest := []) X mtX6_blame g327 [0] [1] [1, 0] 0 (fun u => [(qr, .inr (6, [.ref qrl, .int (nI ln), .int (nI i), .int (nI u.1), .int u.2])), (qrl, .inl (cC, 200, .inl lt))]) (kX6_blame l G cI cC cZ qr qrl ln i fk fa 2 fr (by first | assumption | omega)) ⟨Nat.le_of_ble_eq_true rfl, Nat.le_of_ble_eq_true rfl⟩ rfl rfl rfl (by decide) (wr := [(qrl, .inl (cC, 200, .inl lt))]) rfl (by decide) (by decide) (fun _ => rfl) (by decide) rfl rfl rfl rfl rfl (Nat.le_of_ble_eq_true rfl) (Nat.zero_le _) (Nat.zero_le _) dX6_readNumber_118 (fun u_35 w_36 => ?_)
                obtain ⟨fk2_u_35, fa2_u_35⟩ := u_35
                try dsimp only at w_36
                have hb2 := w_36
                refine J_iload (pc := 121) X 4 dX6_readNumber_121 rfl ?_
                refine J_iret (pc := 123) X hr (i, fk2_u_35, fa2_u_35) dX6_readNumber_123 ?_ rfl
                have hsc := sc_stop hT (by first | assumption | exact lk_ne_end (by omega))
                first | exact rdR_nm0 hrd hi2 hfr (hdg (by omega)) hsc (by omega) (wIn_t (by assumption) (by assumption)) | exact rdR_nm1 hrd hi2 hfr (by first | (rw [show fr = i from by omega]; exact (by first | assumption | exact lk_ne_end (by omega)))) hb1.1 hb1.2 | exact rdR_nm2 hrd hi2 hfr (hdg (by omega)) hsc (by first | exact Or.inl (by omega) | exact Or.inr (wIn_f1 (by assumption)) | exact Or.inr (wIn_f2 (by assumption))) hb2.1 hb2.2
              · skip
                refine J_iload (pc := 109) X 4 dX6_readNumber_109 rfl ?_
                refine J_iload_n (pc := 111) X 2 dX6_readNumber_111 rfl ?_
                refine J_icmp_le (pc := 112) X 121 dX6_readNumber_112 (by decide) (fun c_37 => ?_) (fun c_37 => ?_)
                · have c_37 := Int32.not_lt.mpr c_37
                  refine J_iload (pc := 121) X 4 dX6_readNumber_121 rfl ?_
                  refine J_iret (pc := 123) X hr (i, fk, fa) dX6_readNumber_123 ?_ rfl
                  have hsc := sc_stop hT (by first | assumption | exact lk_ne_end (by omega))
                  first | exact rdR_nm0 hrd hi2 hfr (hdg (by omega)) hsc (by omega) (wIn_t (by assumption) (by assumption)) | exact rdR_nm1 hrd hi2 hfr (by first | (rw [show fr = i from by omega]; exact (by first | assumption | exact lk_ne_end (by omega)))) hb1.1 hb1.2 | exact rdR_nm2 hrd hi2 hfr (hdg (by omega)) hsc (by first | exact Or.inl (by omega) | exact Or.inr (wIn_f1 (by assumption)) | exact Or.inr (wIn_f2 (by assumption))) hb2.1 hb2.2
                · have c_37 := Int32.not_le.mp c_37
                  refine J_aload_n (pc := 115) X 0 dX6_readNumber_115 rfl ?_
                  refine J_iconst (pc := 116) X 2 dX6_readNumber_116 (by decide) ?_
                  refine J_iload_n (pc := 117) X 3 dX6_readNumber_117 rfl ?_
                  refine J_callV (pc := 118) (As := [.int 2, .int (nI fr)]) (rest := []) X mtX6_blame g327 [0] [1] [1, 0] 0 (fun u => [(qr, .inr (6, [.ref qrl, .int (nI ln), .int (nI i), .int (nI u.1), .int u.2])), (qrl, .inl (cC, 200, .inl lt))]) (kX6_blame l G cI cC cZ qr qrl ln i fk fa 2 fr (by first | assumption | omega)) ⟨Nat.le_of_ble_eq_true rfl, Nat.le_of_ble_eq_true rfl⟩ rfl rfl rfl (by decide) (wr := [(qrl, .inl (cC, 200, .inl lt))]) rfl (by decide) (by decide) (fun _ => rfl) (by decide) rfl rfl rfl rfl rfl (Nat.le_of_ble_eq_true rfl) (Nat.zero_le _) (Nat.zero_le _) dX6_readNumber_118 (fun u_39 w_40 => ?_)
                  obtain ⟨fk2_u_39, fa2_u_39⟩ := u_39
                  try dsimp only at w_40
                  have hb2 := w_40
                  refine J_iload (pc := 121) X 4 dX6_readNumber_121 rfl ?_
                  refine J_iret (pc := 123) X hr (i, fk2_u_39, fa2_u_39) dX6_readNumber_123 ?_ rfl
                  have hsc := sc_stop hT (by first | assumption | exact lk_ne_end (by omega))
                  first | exact rdR_nm0 hrd hi2 hfr (hdg (by omega)) hsc (by omega) (wIn_t (by assumption) (by assumption)) | exact rdR_nm1 hrd hi2 hfr (by first | (rw [show fr = i from by omega]; exact (by first | assumption | exact lk_ne_end (by omega)))) hb1.1 hb1.2 | exact rdR_nm2 hrd hi2 hfr (hdg (by omega)) hsc (by first | exact Or.inl (by omega) | exact Or.inr (wIn_f1 (by assumption)) | exact Or.inr (wIn_f2 (by assumption))) hb2.1 hb2.2
          · have c_28 : i = fr := n_eq_of (a := i) (b := fr) (by omega) (by omega) c_28
            refine J_aload_n (pc := 84) X 0 dX6_readNumber_84 rfl ?_
            refine J_iconst (pc := 85) X 1 dX6_readNumber_85 (by decide) ?_
            refine J_iload_n (pc := 86) X 3 dX6_readNumber_86 rfl ?_
            refine J_callV (pc := 87) (As := [.int 1, .int (nI fr)]) (rest := []) X mtX6_blame g327 [0] [1] [1, 0] 0 (fun u => [(qr, .inr (6, [.ref qrl, .int (nI ln), .int (nI i), .int (nI u.1), .int u.2])), (qrl, .inl (cC, 200, .inl lt))]) (kX6_blame l G cI cC cZ qr qrl ln i fk fa 1 fr (by first | assumption | omega)) ⟨Nat.le_of_ble_eq_true rfl, Nat.le_of_ble_eq_true rfl⟩ rfl rfl rfl (by decide) (wr := [(qrl, .inl (cC, 200, .inl lt))]) rfl (by decide) (by decide) (fun _ => rfl) (by decide) rfl rfl rfl rfl rfl (Nat.le_of_ble_eq_true rfl) (Nat.zero_le _) (Nat.zero_le _) dX6_readNumber_87 (fun u_42 w_43 => ?_)
            obtain ⟨fk2_u_42, fa2_u_42⟩ := u_42
            try dsimp only at w_43
            have hb1 := w_43
            refine J_goto (pc := 90) X 121 dX6_readNumber_90 (by decide) ?_
            refine J_iload (pc := 121) X 4 dX6_readNumber_121 rfl ?_
            refine J_iret (pc := 123) X hr (i, fk2_u_42, fa2_u_42) dX6_readNumber_123 ?_ rfl
            have hsc := sc_stop hT (by first | assumption | exact lk_ne_end (by omega))
            first | exact rdR_nm0 hrd hi2 hfr (hdg (by omega)) hsc (by omega) (wIn_t (by assumption) (by assumption)) | exact rdR_nm1 hrd hi2 hfr (by first | (rw [show fr = i from by omega]; exact (by first | assumption | exact lk_ne_end (by omega)))) hb1.1 hb1.2 | exact rdR_nm2 hrd hi2 hfr (hdg (by omega)) hsc (by first | exact Or.inl (by omega) | exact Or.inr (wIn_f1 (by assumption)) | exact Or.inr (wIn_f2 (by assumption))) hb2.1 hb2.2
        · skip
          refine J_aload_n (pc := 33) X 0 dX6_readNumber_33 rfl ?_
          refine J_get (pc := 34) X clX6 0 2 rfl (by decide) g128 rfl dX6_readNumber_34 ?_
          refine J_iload_n (pc := 37) X 3 dX6_readNumber_37 rfl ?_
          refine J_isub (pc := 38) X dX6_readNumber_38 ?_
          refine J_top (y := nI (i - fr)) (n_sub (x := i) (y := fr) rfl rfl (by omega) (by omega)) ?_
          refine J_iconst (pc := 39) X 3 dX6_readNumber_39 (by decide) ?_
          refine J_icmp_ge (pc := 40) X 59 dX6_readNumber_40 (by decide) (fun c_44 => ?_) (fun c_44 => ?_)
          · have c_44 : 3 ≤ i - fr := n_le_of (a := 3) (b := i - fr) (by omega) (by omega) c_44
            refine J_iload (pc := 59) X 4 dX6_readNumber_59 rfl ?_
            refine J_istore (pc := 61) X [(4, .int v), (0, .ref qr), (1, .int lo), (2, .int hi), (3, .int (nI fr))] dX6_readNumber_61 (by decide) rfl ?_
            refine J_aload_n (pc := 63) X 1 dX6_readNumber_63 rfl ?_
            refine J_dup (pc := 64) X dX6_readNumber_64 rfl ?_
            refine J_get (pc := 65) X clX6 0 2 rfl (by decide) g128 rfl dX6_readNumber_65 ?_
            refine J_iconst (pc := 68) X 1 dX6_readNumber_68 (by decide) ?_
            refine J_iadd (pc := 69) X dX6_readNumber_69 ?_
            refine J_top (y := nI (i + 1)) (n_add (x := i) (y := 1) rfl rfl (by omega)) ?_
            refine J_put (pc := 70) X clX6 0 2 [(qr, .inr (6, [.ref qrl, .int (nI ln), .int (nI (i + 1)), .int (nI fk), .int fa])), (qrl, .inl (cC, 200, .inl lt))] rfl (by decide) g128 rfl rfl rfl (Nat.le_of_ble_eq_true rfl) rfl dX6_readNumber_70 ?_
            refine J_goto (pc := 73) X 12 dX6_readNumber_73 (by decide) ?_
            refine J_loc [1, 2, 3, 4, 0] (lv2 := [(0, .ref qr), (1, .int lo), (2, .int hi), (3, .int (nI fr)), (4, .int v)]) rfl ?_
            exact ih_12  (i + 1) v (by first | assumption | omega | simp_all) (by first | assumption | omega | simp_all) (sc_go hT (by assumption) (by first | (rw [if_pos (by omega), Int32.mul_comm]; done) | (rw [if_neg (by omega)]; done))) (fun z => by by_cases q9 : fr < i; exact hdg q9; rw [show fr = i from by omega]; assumption) (by omega)
          · have c_44 : i - fr < 3 := n_nle_of (a := 3) (b := i - fr) (by omega) (by omega) c_44
            refine J_iload (pc := 43) X 4 dX6_readNumber_43 rfl ?_
            refine J_bipush (pc := 45) X 10 dX6_readNumber_45 (by decide) ?_
            refine J_imul (pc := 47) X dX6_readNumber_47 ?_
            refine J_aload_n (pc := 48) X 0 dX6_readNumber_48 rfl ?_
            refine J_callR (pc := 49) (As := []) (rest := [.int (v * 10)]) X mtX6_letter g311 [0, 1] 0 (kX6_letter l G cI cC cZ qr qrl ln i fk fa lt tx (by first | assumption | omega) (by first | assumption | omega) (by first | assumption | omega) (by first | assumption | omega)) ⟨Nat.le_of_ble_eq_true rfl, Nat.le_of_ble_eq_true rfl⟩ rfl rfl rfl (by decide) rfl rfl rfl rfl rfl (Nat.le_of_ble_eq_true rfl) (Nat.zero_le _) (Nat.zero_le _) dX6_readNumber_49 (fun r_45 u_46 w_47 => ?_)
            try dsimp only at w_47
            subst w_47
            refine J_iadd (pc := 52) X dX6_readNumber_52 ?_
            refine J_bipush (pc := 53) X 48 dX6_readNumber_53 (by decide) ?_
            refine J_isub (pc := 55) X dX6_readNumber_55 ?_
            refine J_goto (pc := 56) X 61 dX6_readNumber_56 (by decide) ?_
            refine J_istore (pc := 61) X [(4, .int (((v * 10) + (lk tx ln i)) - 48)), (0, .ref qr), (1, .int lo), (2, .int hi), (3, .int (nI fr))] dX6_readNumber_61 (by decide) rfl ?_
            refine J_aload_n (pc := 63) X 1 dX6_readNumber_63 rfl ?_
            refine J_dup (pc := 64) X dX6_readNumber_64 rfl ?_
            refine J_get (pc := 65) X clX6 0 2 rfl (by decide) g128 rfl dX6_readNumber_65 ?_
            refine J_iconst (pc := 68) X 1 dX6_readNumber_68 (by decide) ?_
            refine J_iadd (pc := 69) X dX6_readNumber_69 ?_
            refine J_top (y := nI (i + 1)) (n_add (x := i) (y := 1) rfl rfl (by omega)) ?_
            refine J_put (pc := 70) X clX6 0 2 [(qr, .inr (6, [.ref qrl, .int (nI ln), .int (nI (i + 1)), .int (nI fk), .int fa])), (qrl, .inl (cC, 200, .inl lt))] rfl (by decide) g128 rfl rfl rfl (Nat.le_of_ble_eq_true rfl) rfl dX6_readNumber_70 ?_
            refine J_goto (pc := 73) X 12 dX6_readNumber_73 (by decide) ?_
            refine J_loc [1, 2, 3, 4, 0] (lv2 := [(0, .ref qr), (1, .int lo), (2, .int hi), (3, .int (nI fr)), (4, .int (((v * 10) + (lk tx ln i)) - 48))]) rfl ?_
            exact ih_12  (i + 1) (((v * 10) + (lk tx ln i)) - 48) (by first | assumption | omega | simp_all) (by first | assumption | omega | simp_all) (sc_go hT (by assumption) (by first | (rw [if_pos (by omega), Int32.mul_comm]; done) | (rw [if_neg (by omega)]; done))) (fun z => by by_cases q9 : fr < i; exact hdg q9; rw [show fr = i from by omega]; assumption) (by omega)
  refine J_loc [2, 3, 4, 1, 0] (lv2 := [(0, .ref qr), (1, .int lo), (2, .int hi), (3, .int (nI fr)), (4, .int 0)]) rfl ?_
  exact L_12 _  fr 0 (by first | assumption | omega | simp_all) (by first | assumption | omega | simp_all) rfl (fun z => absurd z (by omega)) (Nat.lt_succ_self _)
