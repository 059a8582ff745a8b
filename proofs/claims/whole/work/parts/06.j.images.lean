set_option maxRecDepth 100000 in
set_option maxHeartbeats 600000 in
theorem kX2_hasPlace (l : Launch) (G : va_G) (cI cC cZ : ClassId) (qi : Nat) (qir : Nat) (qis : Nat) (qio : Nat) (i : Int32) : CI l G (tys3 cI cC cZ) yX2_hasPlace cX2_hasPlace 2 (some .boolean) ({ frames := 0, cells := 0, slots := 0, locals := 0 }) [.ref qi, .int i] [(qi, .inr (2, [.ref qir, .ref qis, .ref qio]))] (S := Unit) (fun (r : Int32) (u : Unit) => r = bI (inB i 2)) (fun _ => [(qi, .inr (2, [.ref qir, .ref qis, .ref qio]))]) := by
  refine CI.intro (by decide) (Nat.le_of_ble_eq_true rfl) ?_
  intro p0 e0 s0 m0 ar0 be0 me0 c0 A0 X hr
  refine J_iload_n (pc := 0) X 1 dX2_hasPlace_0 rfl ?_
  refine J_if_lt (pc := 1) X 13 dX2_hasPlace_1 (by decide) (fun c_1 => ?_) (fun c_1 => ?_)
  · skip
    refine J_iconst (pc := 13) X 0 dX2_hasPlace_13 (by decide) ?_
    refine J_zret (pc := 14) X hr () rfl dX2_hasPlace_14 ?_ rfl
    first | exact (bI_t (inB_t (n := 2) (by decide) (by assumption) (by assumption))).symm | exact (bI_f (inB_f0 (by assumption))).symm | exact (bI_f (inB_f1 (n := 2) (by decide) (by assumption))).symm
  · skip
    refine J_iload_n (pc := 4) X 1 dX2_hasPlace_4 rfl ?_
    refine J_iconst (pc := 5) X 2 dX2_hasPlace_5 (by decide) ?_
    refine J_icmp_ge (pc := 6) X 13 dX2_hasPlace_6 (by decide) (fun c_2 => ?_) (fun c_2 => ?_)
    · have c_2 := Int32.not_lt.mpr c_2
      refine J_iconst (pc := 13) X 0 dX2_hasPlace_13 (by decide) ?_
      refine J_zret (pc := 14) X hr () rfl dX2_hasPlace_14 ?_ rfl
      first | exact (bI_t (inB_t (n := 2) (by decide) (by assumption) (by assumption))).symm | exact (bI_f (inB_f0 (by assumption))).symm | exact (bI_f (inB_f1 (n := 2) (by decide) (by assumption))).symm
    · have c_2 := Int32.not_le.mp c_2
      refine J_iconst (pc := 9) X 1 dX2_hasPlace_9 (by decide) ?_
      refine J_goto (pc := 10) X 14 dX2_hasPlace_10 (by decide) ?_
      refine J_zret (pc := 14) X hr () rfl dX2_hasPlace_14 ?_ rfl
      first | exact (bI_t (inB_t (n := 2) (by decide) (by assumption) (by assumption))).symm | exact (bI_f (inB_f0 (by assumption))).symm | exact (bI_f (inB_f1 (n := 2) (by decide) (by assumption))).symm
set_option maxRecDepth 100000 in
set_option maxHeartbeats 600000 in
theorem kX2_isStored (l : Launch) (G : va_G) (cI cC cZ : ClassId) (qi : Nat) (qir : Nat) (qis : Nat) (qio : Nat) (so : Nat → Int32) (i : Int32) : CI l G (tys3 cI cC cZ) yX2_isStored cX2_isStored 2 (some .boolean) ({ frames := 1, cells := 0, slots := 0, locals := 21 }) [.ref qi, .int i] [(qi, .inr (2, [.ref qir, .ref qis, .ref qio])), (qio, .inl (cZ, 2, .inl so))] (S := Unit) (fun (r : Int32) (u : Unit) => r = bI (inB i 2 ∧ ¬ so i.toNatClampNeg = 0)) (fun _ => [(qi, .inr (2, [.ref qir, .ref qis, .ref qio])), (qio, .inl (cZ, 2, .inl so))]) := by
  refine CI.intro (by decide) (Nat.le_of_ble_eq_true rfl) ?_
  intro p0 e0 s0 m0 ar0 be0 me0 c0 A0 X hr
  refine J_aload_n (pc := 0) X 0 dX2_isStored_0 rfl ?_
  refine J_iload_n (pc := 1) X 1 dX2_isStored_1 rfl ?_
  refine J_callR (pc := 2) (As := [.int i]) (rest := []) X mtX2_hasPlace g863 [0] 0 (kX2_hasPlace l G cI cC cZ qi qir qis qio i ) ⟨Nat.le_of_ble_eq_true rfl, Nat.le_of_ble_eq_true rfl⟩ rfl rfl rfl (by decide) rfl rfl rfl rfl rfl (Nat.le_of_ble_eq_true rfl) (Nat.zero_le _) (Nat.zero_le _) dX2_isStored_2 (fun r_1 u_2 w_3 => ?_)
  try dsimp only at w_3
  subst w_3
  refine J_bif_eq (pc := 5) X 30 dX2_isStored_5 (by decide) (fun c_4 => ?_) (fun c_4 => ?_)
  · skip
    refine J_iconst (pc := 30) X 0 dX2_isStored_30 (by decide) ?_
    refine J_zret (pc := 31) X hr () rfl dX2_isStored_31 ?_ rfl
    exact (bI_f (fun z => absurd z.1 (by assumption))).symm
  · skip
    obtain ⟨k, hk, rfl⟩ := inB_ex (by omega) c_4
    refine J_iload_n (pc := 8) X 1 dX2_isStored_8 rfl ?_
    refine J_aload_n (pc := 9) X 0 dX2_isStored_9 rfl ?_
    refine J_get (pc := 10) X clX2 0 2 rfl (by decide) g177 rfl dX2_isStored_10 ?_
    refine J_alen (pc := 13) X 1 2 rfl rfl dX2_isStored_13 ?_
    refine J_icmp_ge (pc := 14) X 30 dX2_isStored_14 (by decide) (fun c_5 => ?_) (fun c_5 => ?_)
    · have c_5 : 2 ≤ k := n_le_of (a := 2) (b := k) (by omega) (by omega) c_5
      exfalso; omega
    · have c_5 : k < 2 := n_nle_of (a := 2) (b := k) (by omega) (by omega) c_5
      refine J_aload_n (pc := 17) X 0 dX2_isStored_17 rfl ?_
      refine J_get (pc := 18) X clX2 0 2 rfl (by decide) g177 rfl dX2_isStored_18 ?_
      refine J_iload_n (pc := 21) X 1 dX2_isStored_21 rfl ?_
      refine J_zald (pc := 22) X 1 2 k rfl rfl rfl (by omega) (by decide) dX2_isStored_22 ?_
      refine J_if_eq (pc := 23) X 30 dX2_isStored_23 (by decide) (fun c_6 => ?_) (fun c_6 => ?_)
      · skip
        refine J_iconst (pc := 30) X 0 dX2_isStored_30 (by decide) ?_
        refine J_zret (pc := 31) X hr () rfl dX2_isStored_31 ?_ rfl
        first | exact (bI_t ⟨(inB_nI (by omega)).mpr hk, by rw [nI_clamp (by omega)]; assumption⟩).symm | exact (bI_f (fun z => z.2 (by rw [nI_clamp (by omega)]; assumption))).symm
      · skip
        refine J_iconst (pc := 26) X 1 dX2_isStored_26 (by decide) ?_
        refine J_goto (pc := 27) X 31 dX2_isStored_27 (by decide) ?_
        refine J_zret (pc := 31) X hr () rfl dX2_isStored_31 ?_ rfl
        first | exact (bI_t ⟨(inB_nI (by omega)).mpr hk, by rw [nI_clamp (by omega)]; assumption⟩).symm | exact (bI_f (fun z => z.2 (by rw [nI_clamp (by omega)]; assumption))).symm
set_option maxRecDepth 100000 in
set_option maxHeartbeats 600000 in
theorem kX2_seedOf (l : Launch) (G : va_G) (cI cC cZ : ClassId) (qi : Nat) (qir : Nat) (qis : Nat) (qio : Nat) (se : Nat → Int32) (k : Nat) (hk : k < 2) : CI l G (tys3 cI cC cZ) yX2_seedOf cX2_seedOf 2 (some .int) ({ frames := 1, cells := 0, slots := 0, locals := 21 }) [.ref qi, .int (nI k)] [(qi, .inr (2, [.ref qir, .ref qis, .ref qio])), (qis, .inl (cI, 2, .inl se))] (S := Unit) (fun (r : Int32) (u : Unit) => r = se k) (fun _ => [(qi, .inr (2, [.ref qir, .ref qis, .ref qio])), (qis, .inl (cI, 2, .inl se))]) := by
  refine CI.intro (by decide) (Nat.le_of_ble_eq_true rfl) ?_
  intro p0 e0 s0 m0 ar0 be0 me0 c0 A0 X hr
  refine J_aload_n (pc := 0) X 0 dX2_seedOf_0 rfl ?_
  refine J_iload_n (pc := 1) X 1 dX2_seedOf_1 rfl ?_
  refine J_callR (pc := 2) (As := [.int (nI k)]) (rest := []) X mtX2_hasPlace g863 [0] 0 (kX2_hasPlace l G cI cC cZ qi qir qis qio (nI k) ) ⟨Nat.le_of_ble_eq_true rfl, Nat.le_of_ble_eq_true rfl⟩ rfl rfl rfl (by decide) rfl rfl rfl rfl rfl (Nat.le_of_ble_eq_true rfl) (Nat.zero_le _) (Nat.zero_le _) dX2_seedOf_2 (fun r_1 u_2 w_3 => ?_)
  try dsimp only at w_3
  subst w_3
  refine J_top (y := (1 : Int32)) (bI_t ((inB_nI (by omega)).mpr hk)) ?_
  refine J_if_eq (pc := 5) X 26 dX2_seedOf_5 (by decide) (fun c_4 => ?_) (fun c_4 => ?_)
  · have c_4 : 1 = 0 := n_eq_of (a := 1) (b := 0) (by omega) (by omega) c_4
    exfalso; omega
  · have c_4 : ¬ 1 = 0 := n_ne_of (a := 1) (b := 0) (by omega) (by omega) c_4
    refine J_iload_n (pc := 8) X 1 dX2_seedOf_8 rfl ?_
    refine J_aload_n (pc := 9) X 0 dX2_seedOf_9 rfl ?_
    refine J_get (pc := 10) X clX2 0 1 rfl (by decide) g176 rfl dX2_seedOf_10 ?_
    refine J_alen (pc := 13) X 1 0 rfl rfl dX2_seedOf_13 ?_
    refine J_icmp_ge (pc := 14) X 26 dX2_seedOf_14 (by decide) (fun c_5 => ?_) (fun c_5 => ?_)
    · have c_5 : 2 ≤ k := n_le_of (a := 2) (b := k) (by omega) (by omega) c_5
      exfalso; omega
    · have c_5 : k < 2 := n_nle_of (a := 2) (b := k) (by omega) (by omega) c_5
      refine J_aload_n (pc := 17) X 0 dX2_seedOf_17 rfl ?_
      refine J_get (pc := 18) X clX2 0 1 rfl (by decide) g176 rfl dX2_seedOf_18 ?_
      refine J_iload_n (pc := 21) X 1 dX2_seedOf_21 rfl ?_
      refine J_iald (pc := 22) X 1 0 k rfl rfl rfl (by omega) (by decide) dX2_seedOf_22 ?_
      refine J_goto (pc := 23) X 27 dX2_seedOf_23 (by decide) ?_
      refine J_iret (pc := 27) X hr () dX2_seedOf_27 ?_ rfl
      rfl
set_option maxRecDepth 100000 in
set_option maxHeartbeats 600000 in
theorem kX2_forget (l : Launch) (G : va_G) (cI cC cZ : ClassId) (qi : Nat) (qir : Nat) (qis : Nat) (qio : Nat) (so : Nat → Int32) : CV l G (tys3 cI cC cZ) yX2_forget cX2_forget 2 ({ frames := 0, cells := 0, slots := 0, locals := 0 }) [.ref qi] [(qi, .inr (2, [.ref qir, .ref qis, .ref qio])), (qio, .inl (cZ, 2, .inl so))] (S := (Nat → Int32)) (fun (u : (Nat → Int32)) => ∀ j, j < 2 → u j = 0) (fun (u : (Nat → Int32)) => [(qi, .inr (2, [.ref qir, .ref qis, .ref qio])), (qio, .inl (cZ, 2, .inl u))]) := by
  refine CV.intro (by decide) (Nat.le_of_ble_eq_true rfl) ?_
  intro p0 e0 s0 m0 ar0 be0 me0 c0 A0 X hr
  refine J_iconst (pc := 0) X 0 dX2_forget_0 (by decide) ?_
  refine J_istore_n (pc := 1) X [(1, .int 0), (0, .ref qi)] dX2_forget_1 (by decide) rfl ?_
  have L_2 : ∀ (n_2 : Nat) (i : Nat) (cur : Nat → Int32) (hi : i ≤ 2) (hz : ∀ x9, x9 < i → cur x9 = 0), (2 - i) < n_2 → JJ p0 l e0 ({ frames := 0, cells := 0, slots := 0, locals := 0 }) s0 m0 ar0 be0 me0 c0 A0 G 2 0 0 (QV be0 ar0 s0 A0 G (tys3 cI cC cZ) (S := (Nat → Int32)) (fun (u : (Nat → Int32)) => ∀ j, j < 2 → u j = 0) (fun (u : (Nat → Int32)) => [(qi, .inr (2, [.ref qir, .ref qis, .ref qio])), (qio, .inl (cZ, 2, .inl u))])) [(qi, .inr (2, [.ref qir, .ref qis, .ref qio])), (qio, .inl (cZ, 2, .inl cur))] 2 [(0, .ref qi), (1, .int (nI i))] [] := by
    intro n_2
    induction n_2 with
    | zero => intro i cur hi hz hm_2; exact absurd hm_2 (Nat.not_lt_zero _)
    | succ n_2 ih_2 =>
      intro i cur hi hz hm_2
      refine J_iload_n (pc := 2) X 1 dX2_forget_2 rfl ?_
      refine J_aload_n (pc := 3) X 0 dX2_forget_3 rfl ?_
      refine J_get (pc := 4) X clX2 0 2 rfl (by decide) g177 rfl dX2_forget_4 ?_
      refine J_alen (pc := 7) X 1 2 rfl rfl dX2_forget_7 ?_
      refine J_icmp_ge (pc := 8) X 24 dX2_forget_8 (by decide) (fun c_1 => ?_) (fun c_1 => ?_)
      · have c_1 : 2 ≤ i := n_le_of (a := 2) (b := i) (by omega) (by omega) c_1
        refine J_vret (pc := 24) X hr cur dX2_forget_24 ?_ rfl
        exact fun j hj => hz j (by omega)
      · have c_1 : i < 2 := n_nle_of (a := 2) (b := i) (by omega) (by omega) c_1
        refine J_aload_n (pc := 11) X 0 dX2_forget_11 rfl ?_
        refine J_get (pc := 12) X clX2 0 2 rfl (by decide) g177 rfl dX2_forget_12 ?_
        refine J_iload_n (pc := 15) X 1 dX2_forget_15 rfl ?_
        refine J_iconst (pc := 16) X 0 dX2_forget_16 (by decide) ?_
        refine J_zast (pc := 17) X 1 2 i [(qi, .inr (2, [.ref qir, .ref qis, .ref qio])), (qio, .inl (cZ, 2, .inl (upd cur i (vp_nar .boolean 0))))] rfl rfl rfl (by omega) (by decide) rfl dX2_forget_17 ?_
        refine J_iinc (pc := 18) X (nI (i + 1)) 1 [(1, .int (nI (i + 1))), (0, .ref qi)] dX2_forget_18 rfl (n_add (x := i) (y := 1) rfl rfl (by omega)) (by decide) rfl ?_
        refine J_goto (pc := 21) X 2 dX2_forget_21 (by decide) ?_
        refine J_loc [1, 0] (lv2 := [(0, .ref qi), (1, .int (nI (i + 1)))]) rfl ?_
        exact ih_2  (i + 1) (upd cur i (vp_nar .boolean 0)) (by first | assumption | omega | simp_all) (fill_step hz) (by omega)
  refine J_loc [1, 0] (lv2 := [(0, .ref qi), (1, .int 0)]) rfl ?_
  exact L_2 _  0 so (by first | assumption | omega | simp_all) (fun x9 h9 => absurd h9 (by omega)) (Nat.lt_succ_self _)
set_option maxRecDepth 100000 in
set_option maxHeartbeats 600000 in
theorem kX2_store (l : Launch) (G : va_G) (cI cC cZ : ClassId) (qi : Nat) (qir : Nat) (qis : Nat) (qio : Nat) (ri : Nat → Int32) (se : Nat → Int32) (so : Nat → Int32) (k : Nat) (qs : Nat) (qsc : Nat) (c : Nat → Int32) (sd : Int32) (hk : k < 2) : CV l G (tys3 cI cC cZ) yX2_store cX2_store 4 ({ frames := 2, cells := 0, slots := 0, locals := 40 }) [.ref qi, .int (nI k), .ref qs, .int sd] [(qi, .inr (2, [.ref qir, .ref qis, .ref qio])), (qir, .inl (cI, 36, .inl ri)), (qis, .inl (cI, 2, .inl se)), (qio, .inl (cZ, 2, .inl so)), (qs, .inr (7, [.ref qsc])), (qsc, .inl (cI, 18, .inl c))] (S := Unit) (fun (u : Unit) => True) (fun (u : Unit) => [(qi, .inr (2, [.ref qir, .ref qis, .ref qio])), (qir, .inl (cI, 36, .inl (va_cpy c ri 0 (18 * k) 18))), (qis, .inl (cI, 2, .inl (upd se k sd))), (qio, .inl (cZ, 2, .inl (upd so k (vp_nar .boolean 1)))), (qs, .inr (7, [.ref qsc])), (qsc, .inl (cI, 18, .inl c))]) := by
  refine CV.intro (by decide) (Nat.le_of_ble_eq_true rfl) ?_
  intro p0 e0 s0 m0 ar0 be0 me0 c0 A0 X hr
  refine J_aload_n (pc := 0) X 0 dX2_store_0 rfl ?_
  refine J_iload_n (pc := 1) X 1 dX2_store_1 rfl ?_
  refine J_callR (pc := 2) (As := [.int (nI k)]) (rest := []) X mtX2_hasPlace g863 [0] 0 (kX2_hasPlace l G cI cC cZ qi qir qis qio (nI k) ) ⟨Nat.le_of_ble_eq_true rfl, Nat.le_of_ble_eq_true rfl⟩ rfl rfl rfl (by decide) rfl rfl rfl rfl rfl (Nat.le_of_ble_eq_true rfl) (Nat.zero_le _) (Nat.zero_le _) dX2_store_2 (fun r_1 u_2 w_3 => ?_)
  try dsimp only at w_3
  subst w_3
  refine J_top (y := (1 : Int32)) (bI_t ((inB_nI (by omega)).mpr hk)) ?_
  refine J_if_eq (pc := 5) X 52 dX2_store_5 (by decide) (fun c_4 => ?_) (fun c_4 => ?_)
  · have c_4 : 1 = 0 := n_eq_of (a := 1) (b := 0) (by omega) (by omega) c_4
    exfalso; omega
  · have c_4 : ¬ 1 = 0 := n_ne_of (a := 1) (b := 0) (by omega) (by omega) c_4
    refine J_iload_n (pc := 8) X 1 dX2_store_8 rfl ?_
    refine J_aload_n (pc := 9) X 0 dX2_store_9 rfl ?_
    refine J_get (pc := 10) X clX2 0 1 rfl (by decide) g176 rfl dX2_store_10 ?_
    refine J_alen (pc := 13) X 2 0 rfl rfl dX2_store_13 ?_
    refine J_icmp_ge (pc := 14) X 52 dX2_store_14 (by decide) (fun c_5 => ?_) (fun c_5 => ?_)
    · have c_5 : 2 ≤ k := n_le_of (a := 2) (b := k) (by omega) (by omega) c_5
      exfalso; omega
    · have c_5 : k < 2 := n_nle_of (a := 2) (b := k) (by omega) (by omega) c_5
      refine J_iload_n (pc := 17) X 1 dX2_store_17 rfl ?_
      refine J_aload_n (pc := 18) X 0 dX2_store_18 rfl ?_
      refine J_get (pc := 19) X clX2 0 2 rfl (by decide) g177 rfl dX2_store_19 ?_
      refine J_alen (pc := 22) X 3 2 rfl rfl dX2_store_22 ?_
      refine J_icmp_ge (pc := 23) X 52 dX2_store_23 (by decide) (fun c_6 => ?_) (fun c_6 => ?_)
      · have c_6 : 2 ≤ k := n_le_of (a := 2) (b := k) (by omega) (by omega) c_6
        exfalso; omega
      · have c_6 : k < 2 := n_nle_of (a := 2) (b := k) (by omega) (by omega) c_6
        refine J_aload_n (pc := 26) X 2 dX2_store_26 rfl ?_
        refine J_aload_n (pc := 27) X 0 dX2_store_27 rfl ?_
        refine J_get (pc := 28) X clX2 0 0 rfl (by decide) g175 rfl dX2_store_28 ?_
        refine J_iload_n (pc := 31) X 1 dX2_store_31 rfl ?_
        refine J_bipush (pc := 32) X 18 dX2_store_32 (by decide) ?_
        refine J_imul (pc := 34) X dX2_store_34 ?_
        refine J_top (y := nI (18 * k)) (n_mul (x := k) (y := 18) rfl rfl (by omega)) ?_
        refine J_callV (pc := 35) (As := [.ref qir, .int (nI (18 * k))]) (rest := []) X mtX7_writeTo g864 [4, 5, 1] [0, 2, 3] [0, 5, 1, 2, 3, 4] 0 (fun u => [(qi, .inr (2, [.ref qir, .ref qis, .ref qio])), (qir, .inl (cI, 36, .inl (va_cpy c ri 0 (18 * k) 18))), (qis, .inl (cI, 2, .inl se)), (qio, .inl (cZ, 2, .inl so)), (qs, .inr (7, [.ref qsc])), (qsc, .inl (cI, 18, .inl c))]) (kX7_writeTo l G cI cC cZ qs qsc c qir 36 ri (18 * k) (by first | assumption | omega) (by first | assumption | omega)) ⟨Nat.le_of_ble_eq_true rfl, Nat.le_of_ble_eq_true rfl⟩ rfl rfl rfl (by decide) (wr := [(qi, .inr (2, [.ref qir, .ref qis, .ref qio])), (qis, .inl (cI, 2, .inl se)), (qio, .inl (cZ, 2, .inl so))]) rfl (by decide) (by decide) (fun _ => rfl) (by decide) rfl rfl rfl rfl rfl (Nat.le_of_ble_eq_true rfl) (Nat.zero_le _) (Nat.zero_le _) dX2_store_35 (fun u_8 w_9 => ?_)
        try dsimp only at w_9
        refine J_aload_n (pc := 38) X 0 dX2_store_38 rfl ?_
        refine J_get (pc := 39) X clX2 0 1 rfl (by decide) g176 rfl dX2_store_39 ?_
        refine J_iload_n (pc := 42) X 1 dX2_store_42 rfl ?_
        refine J_iload_n (pc := 43) X 3 dX2_store_43 rfl ?_
        refine J_iast (pc := 44) X 2 0 k [(qi, .inr (2, [.ref qir, .ref qis, .ref qio])), (qir, .inl (cI, 36, .inl (va_cpy c ri 0 (18 * k) 18))), (qis, .inl (cI, 2, .inl (upd se k sd))), (qio, .inl (cZ, 2, .inl so)), (qs, .inr (7, [.ref qsc])), (qsc, .inl (cI, 18, .inl c))] rfl rfl rfl (by omega) (by decide) rfl dX2_store_44 ?_
        refine J_aload_n (pc := 45) X 0 dX2_store_45 rfl ?_
        refine J_get (pc := 46) X clX2 0 2 rfl (by decide) g177 rfl dX2_store_46 ?_
        refine J_iload_n (pc := 49) X 1 dX2_store_49 rfl ?_
        refine J_iconst (pc := 50) X 1 dX2_store_50 (by decide) ?_
        refine J_zast (pc := 51) X 3 2 k [(qi, .inr (2, [.ref qir, .ref qis, .ref qio])), (qir, .inl (cI, 36, .inl (va_cpy c ri 0 (18 * k) 18))), (qis, .inl (cI, 2, .inl (upd se k sd))), (qio, .inl (cZ, 2, .inl (upd so k (vp_nar .boolean 1)))), (qs, .inr (7, [.ref qsc])), (qsc, .inl (cI, 18, .inl c))] rfl rfl rfl (by omega) (by decide) rfl dX2_store_51 ?_
        refine J_vret (pc := 52) X hr () dX2_store_52 ?_ rfl
        trivial
set_option maxRecDepth 100000 in
set_option maxHeartbeats 600000 in
theorem kX2_restore (l : Launch) (G : va_G) (cI cC cZ : ClassId) (qi : Nat) (qir : Nat) (qis : Nat) (qio : Nat) (ri : Nat → Int32) (so : Nat → Int32) (k : Nat) (qs : Nat) (qsc : Nat) (c : Nat → Int32) (hk : k < 2) (hso : ¬ so k = 0) : CV l G (tys3 cI cC cZ) yX2_restore cX2_restore 3 ({ frames := 2, cells := 0, slots := 0, locals := 42 }) [.ref qi, .int (nI k), .ref qs] [(qi, .inr (2, [.ref qir, .ref qis, .ref qio])), (qir, .inl (cI, 36, .inl ri)), (qio, .inl (cZ, 2, .inl so)), (qs, .inr (7, [.ref qsc])), (qsc, .inl (cI, 18, .inl c))] (S := Unit) (fun (u : Unit) => True) (fun (u : Unit) => [(qi, .inr (2, [.ref qir, .ref qis, .ref qio])), (qir, .inl (cI, 36, .inl ri)), (qio, .inl (cZ, 2, .inl so)), (qs, .inr (7, [.ref qsc])), (qsc, .inl (cI, 18, .inl (va_cpy ri c (18 * k) 0 18)))]) := by
  refine CV.intro (by decide) (Nat.le_of_ble_eq_true rfl) ?_
  intro p0 e0 s0 m0 ar0 be0 me0 c0 A0 X hr
  refine J_aload_n (pc := 0) X 0 dX2_restore_0 rfl ?_
  refine J_iload_n (pc := 1) X 1 dX2_restore_1 rfl ?_
  refine J_callR (pc := 2) (As := [.int (nI k)]) (rest := []) X mtX2_isStored g877 [0, 2] 0 (kX2_isStored l G cI cC cZ qi qir qis qio so (nI k) ) ⟨Nat.le_of_ble_eq_true rfl, Nat.le_of_ble_eq_true rfl⟩ rfl rfl rfl (by decide) rfl rfl rfl rfl rfl (Nat.le_of_ble_eq_true rfl) (Nat.zero_le _) (Nat.zero_le _) dX2_restore_2 (fun r_1 u_2 w_3 => ?_)
  try dsimp only at w_3
  subst w_3
  refine J_top (y := (1 : Int32)) (bI_t ⟨(inB_nI (by omega)).mpr hk, by rw [nI_clamp (by omega)]; exact hso⟩) ?_
  refine J_if_eq (pc := 5) X 20 dX2_restore_5 (by decide) (fun c_4 => ?_) (fun c_4 => ?_)
  · have c_4 : 1 = 0 := n_eq_of (a := 1) (b := 0) (by omega) (by omega) c_4
    exfalso; omega
  · have c_4 : ¬ 1 = 0 := n_ne_of (a := 1) (b := 0) (by omega) (by omega) c_4
    refine J_aload_n (pc := 8) X 2 dX2_restore_8 rfl ?_
    refine J_aload_n (pc := 9) X 0 dX2_restore_9 rfl ?_
    refine J_get (pc := 10) X clX2 0 0 rfl (by decide) g175 rfl dX2_restore_10 ?_
    refine J_iload_n (pc := 13) X 1 dX2_restore_13 rfl ?_
    refine J_bipush (pc := 14) X 18 dX2_restore_14 (by decide) ?_
    refine J_imul (pc := 16) X dX2_restore_16 ?_
    refine J_top (y := nI (18 * k)) (n_mul (x := k) (y := 18) rfl rfl (by omega)) ?_
    refine J_callV (pc := 17) (As := [.ref qir, .int (nI (18 * k))]) (rest := []) X mtX7_readFrom g878 [3, 4, 1] [0, 2] [0, 4, 1, 2, 3] 0 (fun u => [(qi, .inr (2, [.ref qir, .ref qis, .ref qio])), (qir, .inl (cI, 36, .inl ri)), (qio, .inl (cZ, 2, .inl so)), (qs, .inr (7, [.ref qsc])), (qsc, .inl (cI, 18, .inl (va_cpy ri c (18 * k) 0 18)))]) (kX7_readFrom l G cI cC cZ qs qsc c qir 36 ri (18 * k) (by first | assumption | omega) (by first | assumption | omega)) ⟨Nat.le_of_ble_eq_true rfl, Nat.le_of_ble_eq_true rfl⟩ rfl rfl rfl (by decide) (wr := [(qi, .inr (2, [.ref qir, .ref qis, .ref qio])), (qio, .inl (cZ, 2, .inl so))]) rfl (by decide) (by decide) (fun _ => rfl) (by decide) rfl rfl rfl rfl rfl (Nat.le_of_ble_eq_true rfl) (Nat.zero_le _) (Nat.zero_le _) dX2_restore_17 (fun u_6 w_7 => ?_)
    try dsimp only at w_7
    refine J_vret (pc := 20) X hr () dX2_restore_20 ?_ rfl
    trivial
