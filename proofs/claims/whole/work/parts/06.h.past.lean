set_option maxRecDepth 100000 in
set_option maxHeartbeats 600000 in
theorem kX4_size (l : Launch) (G : va_G) (cI cC cZ : ClassId) (qpa : Nat) (qpr : Nat) (o : Nat) (n : Nat) : CI l G (tys3 cI cC cZ) yX4_size cX4_size 1 (some .int) ({ frames := 0, cells := 0, slots := 0, locals := 0 }) [.ref qpa] [(qpa, .inr (4, [.ref qpr, .int (nI o), .int (nI n)]))] (S := Unit) (fun (r : Int32) (u : Unit) => r = nI n) (fun _ => [(qpa, .inr (4, [.ref qpr, .int (nI o), .int (nI n)]))]) := by
  refine CI.intro (by decide) (Nat.le_of_ble_eq_true rfl) ?_
  intro p0 e0 s0 m0 ar0 be0 me0 c0 A0 X hr
  refine J_aload_n (pc := 0) X 0 dX4_size_0 rfl ?_
  refine J_get (pc := 1) X clX4 0 2 rfl (by decide) g161 rfl dX4_size_1 ?_
  refine J_iret (pc := 4) X hr () dX4_size_4 ?_ rfl
  rfl
set_option maxRecDepth 100000 in
set_option maxHeartbeats 600000 in
theorem kX4_forget (l : Launch) (G : va_G) (cI cC cZ : ClassId) (qpa : Nat) (qpr : Nat) (o : Nat) (n : Nat) : CV l G (tys3 cI cC cZ) yX4_forget cX4_forget 1 ({ frames := 0, cells := 0, slots := 0, locals := 0 }) [.ref qpa] [(qpa, .inr (4, [.ref qpr, .int (nI o), .int (nI n)]))] (S := Unit) (fun (u : Unit) => True) (fun (u : Unit) => [(qpa, .inr (4, [.ref qpr, .int 0, .int 0]))]) := by
  refine CV.intro (by decide) (Nat.le_of_ble_eq_true rfl) ?_
  intro p0 e0 s0 m0 ar0 be0 me0 c0 A0 X hr
  refine J_aload_n (pc := 0) X 0 dX4_forget_0 rfl ?_
  refine J_iconst (pc := 1) X 0 dX4_forget_1 (by decide) ?_
  refine J_put (pc := 2) X clX4 0 1 [(qpa, .inr (4, [.ref qpr, .int 0, .int (nI n)]))] rfl (by decide) g160 rfl rfl rfl (Nat.le_of_ble_eq_true rfl) rfl dX4_forget_2 ?_
  refine J_aload_n (pc := 5) X 0 dX4_forget_5 rfl ?_
  refine J_iconst (pc := 6) X 0 dX4_forget_6 (by decide) ?_
  refine J_put (pc := 7) X clX4 0 2 [(qpa, .inr (4, [.ref qpr, .int 0, .int 0]))] rfl (by decide) g161 rfl rfl rfl (Nat.le_of_ble_eq_true rfl) rfl dX4_forget_7 ?_
  refine J_vret (pc := 10) X hr () dX4_forget_10 ?_ rfl
  trivial
set_option maxRecDepth 100000 in
set_option maxHeartbeats 600000 in
theorem kX4_startOf (l : Launch) (G : va_G) (cI cC cZ : ClassId) (qpa : Nat) (qpr : Nat) (o : Nat) (n : Nat) (ag : Nat) (sl : Nat) (ho : o < 30) (hn : n ≤ 30) (hag : ag ≤ 30) (hsl : sl = (o + ag) % 30) : CI l G (tys3 cI cC cZ) yX4_startOf cX4_startOf 2 (some .int) ({ frames := 0, cells := 0, slots := 0, locals := 0 }) [.ref qpa, .int (nI ag)] [(qpa, .inr (4, [.ref qpr, .int (nI o), .int (nI n)]))] (S := Unit) (fun (r : Int32) (u : Unit) => r = nI (18 * sl)) (fun _ => [(qpa, .inr (4, [.ref qpr, .int (nI o), .int (nI n)]))]) := by
  refine CI.intro (by decide) (Nat.le_of_ble_eq_true rfl) ?_
  intro p0 e0 s0 m0 ar0 be0 me0 c0 A0 X hr
  refine J_aload_n (pc := 0) X 0 dX4_startOf_0 rfl ?_
  refine J_get (pc := 1) X clX4 0 1 rfl (by decide) g160 rfl dX4_startOf_1 ?_
  refine J_iload_n (pc := 4) X 1 dX4_startOf_4 rfl ?_
  refine J_iadd (pc := 5) X dX4_startOf_5 ?_
  refine J_top (y := nI (o + ag)) (n_add (x := o) (y := ag) rfl rfl (by omega)) ?_
  refine J_bipush (pc := 6) X 30 dX4_startOf_6 (by decide) ?_
  refine J_irem (pc := 8) X dX4_startOf_8 (by decide) ?_
  refine J_top (y := nI sl) (rem30 (by omega) hsl) ?_
  refine J_bipush (pc := 9) X 18 dX4_startOf_9 (by decide) ?_
  refine J_imul (pc := 11) X dX4_startOf_11 ?_
  refine J_top (y := nI (18 * sl)) (n_mul (x := sl) (y := 18) rfl rfl (by omega)) ?_
  refine J_iret (pc := 12) X hr () dX4_startOf_12 ?_ rfl
  rfl
set_option maxRecDepth 100000 in
set_option maxHeartbeats 600000 in
theorem kX4_remember (l : Launch) (G : va_G) (cI cC cZ : ClassId) (qpa : Nat) (qpr : Nat) (o : Nat) (n : Nat) (rw_ : Nat → Int32) (qs : Nat) (qsc : Nat) (c : Nat → Int32) (nw : Nat → Int32) (ps : Nat → Int32) (wk : Nat) (ho : o < 30) (hn : n ≤ 30) (hwk : wk ≤ 4) (hpa : paR rw_ o n ps wk) (hsc : scR c nw wk) : CV l G (tys3 cI cC cZ) yX4_remember cX4_remember 2 ({ frames := 2, cells := 0, slots := 0, locals := 40 }) [.ref qpa, .ref qs] [(qpa, .inr (4, [.ref qpr, .int (nI o), .int (nI n)])), (qpr, .inl (cI, 540, .inl rw_)), (qs, .inr (7, [.ref qsc])), (qsc, .inl (cI, 18, .inl c))] (S := Nat × Nat × (Nat → Int32)) (fun (u : Nat × Nat × (Nat → Int32)) => paR u.2.2 u.1 u.2.1 (pushF n nw ps) wk ∧ u.1 < 30 ∧ u.2.1 ≤ 30 ∧ ((n < 30 ∧ u.2.1 = n + 1) ∨ (n = 30 ∧ u.2.1 = 30))) (fun (u : Nat × Nat × (Nat → Int32)) => [(qpa, .inr (4, [.ref qpr, .int (nI u.1), .int (nI u.2.1)])), (qpr, .inl (cI, 540, .inl u.2.2)), (qs, .inr (7, [.ref qsc])), (qsc, .inl (cI, 18, .inl c))]) := by
  refine CV.intro (by decide) (Nat.le_of_ble_eq_true rfl) ?_
  intro p0 e0 s0 m0 ar0 be0 me0 c0 A0 X hr
  obtain ⟨sl, hsl⟩ : ∃ sl, sl = (o + n) % 30 := ⟨_, rfl⟩
  refine J_aload_n (pc := 0) X 1 dX4_remember_0 rfl ?_
  refine J_aload_n (pc := 1) X 0 dX4_remember_1 rfl ?_
  refine J_get (pc := 2) X clX4 0 0 rfl (by decide) g159 rfl dX4_remember_2 ?_
  refine J_aload_n (pc := 5) X 0 dX4_remember_5 rfl ?_
  refine J_aload_n (pc := 6) X 0 dX4_remember_6 rfl ?_
  refine J_get (pc := 7) X clX4 0 2 rfl (by decide) g161 rfl dX4_remember_7 ?_
  refine J_callR (pc := 10) (As := [.int (nI n)]) (rest := [.ref qpr, .ref qs]) X mtX4_startOf g569 [0] 0 (kX4_startOf l G cI cC cZ qpa qpr o n n sl (by first | assumption | omega) (by first | assumption | omega) (by first | assumption | omega) (by first | assumption | omega)) ⟨Nat.le_of_ble_eq_true rfl, Nat.le_of_ble_eq_true rfl⟩ rfl rfl rfl (by decide) rfl rfl rfl rfl rfl (Nat.le_of_ble_eq_true rfl) (Nat.zero_le _) (Nat.zero_le _) dX4_remember_10 (fun r_1 u_2 w_3 => ?_)
  try dsimp only at w_3
  subst w_3
  refine J_callV (pc := 13) (As := [.ref qpr, .int (nI (18 * sl))]) (rest := []) X mtX7_writeTo g573 [2, 3, 1] [0] [0, 3, 1, 2] 0 (fun u => [(qpa, .inr (4, [.ref qpr, .int (nI o), .int (nI n)])), (qpr, .inl (cI, 540, .inl (va_cpy c rw_ 0 (18 * sl) 18))), (qs, .inr (7, [.ref qsc])), (qsc, .inl (cI, 18, .inl c))]) (kX7_writeTo l G cI cC cZ qs qsc c qpr 540 rw_ (18 * sl) (by first | assumption | omega) (by first | assumption | omega)) ⟨Nat.le_of_ble_eq_true rfl, Nat.le_of_ble_eq_true rfl⟩ rfl rfl rfl (by decide) (wr := [(qpa, .inr (4, [.ref qpr, .int (nI o), .int (nI n)]))]) rfl (by decide) (by decide) (fun _ => rfl) (by decide) rfl rfl rfl rfl rfl (Nat.le_of_ble_eq_true rfl) (Nat.zero_le _) (Nat.zero_le _) dX4_remember_13 (fun u_5 w_6 => ?_)
  try dsimp only at w_6
  refine J_aload_n (pc := 16) X 0 dX4_remember_16 rfl ?_
  refine J_get (pc := 17) X clX4 0 2 rfl (by decide) g161 rfl dX4_remember_17 ?_
  refine J_bipush (pc := 20) X 30 dX4_remember_20 (by decide) ?_
  refine J_icmp_ge (pc := 22) X 38 dX4_remember_22 (by decide) (fun c_7 => ?_) (fun c_7 => ?_)
  · have c_7 : 30 ≤ n := n_le_of (a := 30) (b := n) (by omega) (by omega) c_7
    refine J_aload_n (pc := 38) X 0 dX4_remember_38 rfl ?_
    refine J_aload_n (pc := 39) X 0 dX4_remember_39 rfl ?_
    refine J_get (pc := 40) X clX4 0 1 rfl (by decide) g160 rfl dX4_remember_40 ?_
    refine J_iconst (pc := 43) X 1 dX4_remember_43 (by decide) ?_
    refine J_iadd (pc := 44) X dX4_remember_44 ?_
    refine J_top (y := nI (o + 1)) (n_add (x := o) (y := 1) rfl rfl (by omega)) ?_
    refine J_bipush (pc := 45) X 30 dX4_remember_45 (by decide) ?_
    refine J_irem (pc := 47) X dX4_remember_47 (by decide) ?_
    obtain ⟨o9, ho9⟩ : ∃ o9, o9 = (o + 1) % 30 := ⟨_, rfl⟩
    refine J_top (y := nI o9) (rem30 (by omega) ho9) ?_
    refine J_put (pc := 48) X clX4 0 1 [(qpa, .inr (4, [.ref qpr, .int (nI o9), .int (nI n)])), (qpr, .inl (cI, 540, .inl (va_cpy c rw_ 0 (18 * sl) 18))), (qs, .inr (7, [.ref qsc])), (qsc, .inl (cI, 18, .inl c))] rfl (by decide) g160 rfl rfl rfl (Nat.le_of_ble_eq_true rfl) rfl dX4_remember_48 ?_
    refine J_vret (pc := 51) X hr (o9, n, (va_cpy c rw_ 0 (18 * sl) 18)) dX4_remember_51 ?_ rfl
    have hn30 : n = 30 := by omega
    exact ⟨paR_full2 hwk ho hn30 hsl ho9 hpa hsc, (show o9 < 30 from by omega), (show n ≤ 30 from by omega), Or.inr ⟨hn30, hn30⟩⟩
  · have c_7 : n < 30 := n_nle_of (a := 30) (b := n) (by omega) (by omega) c_7
    refine J_aload_n (pc := 25) X 0 dX4_remember_25 rfl ?_
    refine J_dup (pc := 26) X dX4_remember_26 rfl ?_
    refine J_get (pc := 27) X clX4 0 2 rfl (by decide) g161 rfl dX4_remember_27 ?_
    refine J_iconst (pc := 30) X 1 dX4_remember_30 (by decide) ?_
    refine J_iadd (pc := 31) X dX4_remember_31 ?_
    refine J_top (y := nI (n + 1)) (n_add (x := n) (y := 1) rfl rfl (by omega)) ?_
    refine J_put (pc := 32) X clX4 0 2 [(qpa, .inr (4, [.ref qpr, .int (nI o), .int (nI (n + 1))])), (qpr, .inl (cI, 540, .inl (va_cpy c rw_ 0 (18 * sl) 18))), (qs, .inr (7, [.ref qsc])), (qsc, .inl (cI, 18, .inl c))] rfl (by decide) g161 rfl rfl rfl (Nat.le_of_ble_eq_true rfl) rfl dX4_remember_32 ?_
    refine J_goto (pc := 35) X 51 dX4_remember_35 (by decide) ?_
    refine J_vret (pc := 51) X hr (o, (n + 1), (va_cpy c rw_ 0 (18 * sl) 18)) dX4_remember_51 ?_ rfl
    exact ⟨paR_some hwk ho (by omega) hsl hpa hsc, ho, (show n + 1 ≤ 30 from by omega), Or.inl ⟨by omega, rfl⟩⟩
set_option maxRecDepth 100000 in
set_option maxHeartbeats 600000 in
theorem kX4_recall (l : Launch) (G : va_G) (cI cC cZ : ClassId) (qpa : Nat) (qpr : Nat) (o : Nat) (n : Nat) (rw_ : Nat → Int32) (qs : Nat) (qsc : Nat) (c : Nat → Int32) (nw : Nat → Int32) (ps : Nat → Int32) (wk : Nat) (m : Nat) (ho : o < 30) (hn : n ≤ 30) (hwk : wk ≤ 4) (hpa : paR rw_ o n ps wk) (hm1 : 1 ≤ m) (hm2 : m ≤ n) : CV l G (tys3 cI cC cZ) yX4_recall cX4_recall 3 ({ frames := 2, cells := 0, slots := 0, locals := 40 }) [.ref qpa, .int (nI m), .ref qs] [(qpa, .inr (4, [.ref qpr, .int (nI o), .int (nI n)])), (qpr, .inl (cI, 540, .inl rw_)), (qs, .inr (7, [.ref qsc])), (qsc, .inl (cI, 18, .inl c))] (S := (Nat → Int32)) (fun (u : (Nat → Int32)) => scR u (va_cpy ps nw (14 * (n - m)) 0 14) wk ∧ paR rw_ o (n - m) ps wk) (fun (u : (Nat → Int32)) => [(qpa, .inr (4, [.ref qpr, .int (nI o), .int (nI (n - m))])), (qpr, .inl (cI, 540, .inl rw_)), (qs, .inr (7, [.ref qsc])), (qsc, .inl (cI, 18, .inl u))]) := by
  refine CV.intro (by decide) (Nat.le_of_ble_eq_true rfl) ?_
  intro p0 e0 s0 m0 ar0 be0 me0 c0 A0 X hr
  obtain ⟨sl, hsl⟩ : ∃ sl, sl = (o + (n - m)) % 30 := ⟨_, rfl⟩
  refine J_iload_n (pc := 0) X 1 dX4_recall_0 rfl ?_
  refine J_iconst (pc := 1) X 1 dX4_recall_1 (by decide) ?_
  refine J_icmp_lt (pc := 2) X 39 dX4_recall_2 (by decide) (fun c_1 => ?_) (fun c_1 => ?_)
  · have c_1 : m < 1 := n_lt_of (a := m) (b := 1) (by omega) (by omega) c_1
    exfalso; omega
  · have c_1 : 1 ≤ m := n_nlt_of (a := m) (b := 1) (by omega) (by omega) c_1
    refine J_iload_n (pc := 5) X 1 dX4_recall_5 rfl ?_
    refine J_aload_n (pc := 6) X 0 dX4_recall_6 rfl ?_
    refine J_get (pc := 7) X clX4 0 2 rfl (by decide) g161 rfl dX4_recall_7 ?_
    refine J_icmp_gt (pc := 10) X 39 dX4_recall_10 (by decide) (fun c_2 => ?_) (fun c_2 => ?_)
    · have c_2 : n < m := n_lt_of (a := n) (b := m) (by omega) (by omega) c_2
      exfalso; omega
    · have c_2 : m ≤ n := n_nlt_of (a := n) (b := m) (by omega) (by omega) c_2
      refine J_aload_n (pc := 13) X 0 dX4_recall_13 rfl ?_
      refine J_dup (pc := 14) X dX4_recall_14 rfl ?_
      refine J_get (pc := 15) X clX4 0 2 rfl (by decide) g161 rfl dX4_recall_15 ?_
      refine J_iload_n (pc := 18) X 1 dX4_recall_18 rfl ?_
      refine J_isub (pc := 19) X dX4_recall_19 ?_
      refine J_top (y := nI (n - m)) (n_sub (x := n) (y := m) rfl rfl (by omega) (by omega)) ?_
      refine J_put (pc := 20) X clX4 0 2 [(qpa, .inr (4, [.ref qpr, .int (nI o), .int (nI (n - m))])), (qpr, .inl (cI, 540, .inl rw_)), (qs, .inr (7, [.ref qsc])), (qsc, .inl (cI, 18, .inl c))] rfl (by decide) g161 rfl rfl rfl (Nat.le_of_ble_eq_true rfl) rfl dX4_recall_20 ?_
      refine J_aload_n (pc := 23) X 2 dX4_recall_23 rfl ?_
      refine J_aload_n (pc := 24) X 0 dX4_recall_24 rfl ?_
      refine J_get (pc := 25) X clX4 0 0 rfl (by decide) g159 rfl dX4_recall_25 ?_
      refine J_aload_n (pc := 28) X 0 dX4_recall_28 rfl ?_
      refine J_aload_n (pc := 29) X 0 dX4_recall_29 rfl ?_
      refine J_get (pc := 30) X clX4 0 2 rfl (by decide) g161 rfl dX4_recall_30 ?_
      refine J_callR (pc := 33) (As := [.int (nI (n - m))]) (rest := [.ref qpr, .ref qs]) X mtX4_startOf g569 [0] 0 (kX4_startOf l G cI cC cZ qpa qpr o (n - m) (n - m) sl (by first | assumption | omega) (by first | assumption | omega) (by first | assumption | omega) (by first | assumption | omega)) ⟨Nat.le_of_ble_eq_true rfl, Nat.le_of_ble_eq_true rfl⟩ rfl rfl rfl (by decide) rfl rfl rfl rfl rfl (Nat.le_of_ble_eq_true rfl) (Nat.zero_le _) (Nat.zero_le _) dX4_recall_33 (fun r_3 u_4 w_5 => ?_)
      try dsimp only at w_5
      subst w_5
      refine J_callV (pc := 36) (As := [.ref qpr, .int (nI (18 * sl))]) (rest := []) X mtX7_readFrom g643 [2, 3, 1] [0] [0, 3, 1, 2] 0 (fun u => [(qpa, .inr (4, [.ref qpr, .int (nI o), .int (nI (n - m))])), (qpr, .inl (cI, 540, .inl rw_)), (qs, .inr (7, [.ref qsc])), (qsc, .inl (cI, 18, .inl (va_cpy rw_ c (18 * sl) 0 18)))]) (kX7_readFrom l G cI cC cZ qs qsc c qpr 540 rw_ (18 * sl) (by first | assumption | omega) (by first | assumption | omega)) ⟨Nat.le_of_ble_eq_true rfl, Nat.le_of_ble_eq_true rfl⟩ rfl rfl rfl (by decide) (wr := [(qpa, .inr (4, [.ref qpr, .int (nI o), .int (nI (n - m))]))]) rfl (by decide) (by decide) (fun _ => rfl) (by decide) rfl rfl rfl rfl rfl (Nat.le_of_ble_eq_true rfl) (Nat.zero_le _) (Nat.zero_le _) dX4_recall_36 (fun u_7 w_8 => ?_)
      try dsimp only at w_8
      refine J_vret (pc := 39) X hr (va_cpy rw_ c (18 * sl) 0 18) dX4_recall_39 ?_ rfl
      exact ⟨paR_back hwk (by omega) hsl hpa, paR_less hpa (by omega)⟩
