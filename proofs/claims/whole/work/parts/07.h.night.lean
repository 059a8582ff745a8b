set_option maxRecDepth 100000 in
set_option maxHeartbeats 600000 in
theorem kX9_judge (l : Launch) (G : va_G) (cI cC cZ : ClassId) (qx : Nat) (q : Nat) (qq : Nat) (qr : Nat) (qs : Nat) (qt : Nat) (qpa : Nat) (qi : Nat) (ql : Nat) (qb : Nat) (qg : Nat) (qw : Nat) (qn : Nat) (qsc : Nat) (c : Nat → Int32) (qbf : Nat) (qbs : Nat) (en : Nat) (bf_ : Nat → Int32) (bs_ : Nat → Int32) (nw : Nat → Int32) (bk : Nat → Int32) (g : Nat) (wk : Nat) (hg : g ≤ 8) (hwk : wk ≤ 4) (he : en ≤ 20) (hbk : okBk wk en bk) (hbr : ∀ i9, i9 < en → bf_ i9 = bk (2 * i9) ∧ bs_ i9 = bk (2 * i9 + 1)) (hsc : scR c nw wk) (hok : okS g wk nw) : CI l G (tys3 cI cC cZ) yX9_judge cX9_judge 2 (some .int) ({ frames := 2, cells := 0, slots := 0, locals := 44 }) [.ref qx] [(qx, .inr (9, [.ref q, .ref qq, .ref qr, .ref qs, .ref qt, .ref qpa, .ref qi, .ref ql, .ref qb, .ref qg, .ref qw, .ref qn])), (qs, .inr (7, [.ref qsc])), (qsc, .inl (cI, 18, .inl c)), (qb, .inr (3, [.ref qbf, .ref qbs, .int (nI en)])), (qbf, .inl (cI, 20, .inl bf_)), (qbs, .inl (cI, 20, .inl bs_))] (S := Unit) (fun (r : Int32) (u : Unit) => r = fstN (bkQ nw bk) en 0) (fun _ => [(qx, .inr (9, [.ref q, .ref qq, .ref qr, .ref qs, .ref qt, .ref qpa, .ref qi, .ref ql, .ref qb, .ref qg, .ref qw, .ref qn])), (qs, .inr (7, [.ref qsc])), (qsc, .inl (cI, 18, .inl c)), (qb, .inr (3, [.ref qbf, .ref qbs, .int (nI en)])), (qbf, .inl (cI, 20, .inl bf_)), (qbs, .inl (cI, 20, .inl bs_))]) := by
  refine CI.intro (by decide) (Nat.le_of_ble_eq_true rfl) ?_
  intro p0 e0 s0 m0 ar0 be0 me0 c0 A0 X hr
  refine J_iconst (pc := 0) X 0 dX9_judge_0 (by decide) ?_
  refine J_istore_n (pc := 1) X [(1, .int 0), (0, .ref qx)] dX9_judge_1 (by decide) rfl ?_
  have L_2 : ∀ (n_2 : Nat) (i : Nat) (hi : i ≤ en) (hf : fstN (bkQ nw bk) (en - i) i = fstN (bkQ nw bk) en 0), (en - i) < n_2 → JJ p0 l e0 ({ frames := 2, cells := 0, slots := 0, locals := 44 }) s0 m0 ar0 be0 me0 c0 A0 G 2 0 0 (QI be0 ar0 s0 A0 G (tys3 cI cC cZ) (S := Unit) (fun (r : Int32) (u : Unit) => r = fstN (bkQ nw bk) en 0) (fun _ => [(qx, .inr (9, [.ref q, .ref qq, .ref qr, .ref qs, .ref qt, .ref qpa, .ref qi, .ref ql, .ref qb, .ref qg, .ref qw, .ref qn])), (qs, .inr (7, [.ref qsc])), (qsc, .inl (cI, 18, .inl c)), (qb, .inr (3, [.ref qbf, .ref qbs, .int (nI en)])), (qbf, .inl (cI, 20, .inl bf_)), (qbs, .inl (cI, 20, .inl bs_))])) [(qx, .inr (9, [.ref q, .ref qq, .ref qr, .ref qs, .ref qt, .ref qpa, .ref qi, .ref ql, .ref qb, .ref qg, .ref qw, .ref qn])), (qs, .inr (7, [.ref qsc])), (qsc, .inl (cI, 18, .inl c)), (qb, .inr (3, [.ref qbf, .ref qbs, .int (nI en)])), (qbf, .inl (cI, 20, .inl bf_)), (qbs, .inl (cI, 20, .inl bs_))] 2 [(0, .ref qx), (1, .int (nI i))] [] := by
    intro n_2
    induction n_2 with
    | zero => intro i hi hf hm_2; exact absurd hm_2 (Nat.not_lt_zero _)
    | succ n_2 ih_2 =>
      intro i hi hf hm_2
      refine J_iload_n (pc := 2) X 1 dX9_judge_2 rfl ?_
      refine J_aload_n (pc := 3) X 0 dX9_judge_3 rfl ?_
      refine J_get (pc := 4) X clX9 0 8 rfl (by decide) g249 rfl dX9_judge_4 ?_
      refine J_callR (pc := 7) (As := []) (rest := [.int (nI i)]) X mtX3_size g457 [3] 0 (kX3_size l G cI cC cZ qb qbf qbs en ) ⟨Nat.le_of_ble_eq_true rfl, Nat.le_of_ble_eq_true rfl⟩ rfl rfl rfl (by decide) rfl rfl rfl rfl rfl (Nat.le_of_ble_eq_true rfl) (Nat.zero_le _) (Nat.zero_le _) dX9_judge_7 (fun r_1 u_2 w_3 => ?_)
      try dsimp only at w_3
      subst w_3
      refine J_icmp_ge (pc := 10) X 47 dX9_judge_10 (by decide) (fun c_4 => ?_) (fun c_4 => ?_)
      · have c_4 : en ≤ i := n_le_of (a := en) (b := i) (by omega) (by omega) c_4
        refine J_iconst (pc := 47) X (-1) dX9_judge_47 (by decide) ?_
        refine J_iret (pc := 48) X hr () dX9_judge_48 ?_ rfl
        exact fst_out hf (by omega)
      · have c_4 : i < en := n_nle_of (a := en) (b := i) (by omega) (by omega) c_4
        obtain ⟨bw, bh, hbw1, hbw, hbh1, hbh⟩ := hbk i (by omega)
        obtain ⟨hb1, hb2⟩ := hbr i (by omega)
        refine J_aload_n (pc := 13) X 0 dX9_judge_13 rfl ?_
        refine J_get (pc := 14) X clX9 0 3 rfl (by decide) g244 rfl dX9_judge_14 ?_
        refine J_aload_n (pc := 17) X 0 dX9_judge_17 rfl ?_
        refine J_get (pc := 18) X clX9 0 8 rfl (by decide) g249 rfl dX9_judge_18 ?_
        refine J_iload_n (pc := 21) X 1 dX9_judge_21 rfl ?_
        refine J_callR (pc := 22) (As := [.int (nI i)]) (rest := [.ref qs]) X mtX3_firstOf g833 [3, 4] 0 (kX3_firstOf l G cI cC cZ qb qbf qbs en 20 bf_ i (by first | assumption | omega) (by first | assumption | omega) (by first | assumption | omega)) ⟨Nat.le_of_ble_eq_true rfl, Nat.le_of_ble_eq_true rfl⟩ rfl rfl rfl (by decide) rfl rfl rfl rfl rfl (Nat.le_of_ble_eq_true rfl) (Nat.zero_le _) (Nat.zero_le _) dX9_judge_22 (fun r_5 u_6 w_7 => ?_)
        try dsimp only at w_7
        subst w_7
        refine J_top (y := nI bw) (hb1.trans hbw) ?_
        refine J_callR (pc := 25) (As := [.int (nI bw)]) (rest := []) X mtX7_houseOf g515 [1, 2] 0 (kX7_houseOf l G cI cC cZ qs qsc c bw (by first | assumption | omega)) ⟨Nat.le_of_ble_eq_true rfl, Nat.le_of_ble_eq_true rfl⟩ rfl rfl rfl (by decide) rfl rfl rfl rfl rfl (Nat.le_of_ble_eq_true rfl) (Nat.zero_le _) (Nat.zero_le _) dX9_judge_25 (fun r_8 u_9 w_10 => ?_)
        try dsimp only at w_10
        subst w_10
        refine J_aload_n (pc := 28) X 0 dX9_judge_28 rfl ?_
        refine J_get (pc := 29) X clX9 0 8 rfl (by decide) g249 rfl dX9_judge_29 ?_
        refine J_iload_n (pc := 32) X 1 dX9_judge_32 rfl ?_
        refine J_callR (pc := 33) (As := [.int (nI i)]) (rest := [.int (c (4 * bw + 2))]) X mtX3_secondOf g834 [3, 5] 0 (kX3_secondOf l G cI cC cZ qb qbf qbs en 20 bs_ i (by first | assumption | omega) (by first | assumption | omega) (by first | assumption | omega)) ⟨Nat.le_of_ble_eq_true rfl, Nat.le_of_ble_eq_true rfl⟩ rfl rfl rfl (by decide) rfl rfl rfl rfl rfl (Nat.le_of_ble_eq_true rfl) (Nat.zero_le _) (Nat.zero_le _) dX9_judge_33 (fun r_11 u_12 w_13 => ?_)
        try dsimp only at w_13
        subst w_13
        refine J_top (y := nI bh) (hb2.trans hbh) ?_
        refine J_icmp_eq (pc := 36) X 41 dX9_judge_36 (by decide) (fun c_14 => ?_) (fun c_14 => ?_)
        · skip
          refine J_iinc (pc := 41) X (nI (i + 1)) 1 [(1, .int (nI (i + 1))), (0, .ref qx)] dX9_judge_41 rfl (n_add (x := i) (y := 1) rfl rfl (by omega)) (by decide) rfl ?_
          refine J_goto (pc := 44) X 2 dX9_judge_44 (by decide) ?_
          refine J_loc [1, 0] (lv2 := [(0, .ref qx), (1, .int (nI (i + 1)))]) rfl ?_
          exact ih_2  (i + 1) (by first | assumption | omega | simp_all) (fst_on hf (by omega) (fun z9 => ((jq_t hg hsc hok hbw1 hwk hbh1 hbw hbh).mp z9) (by assumption))) (by omega)
        · skip
          refine J_iload_n (pc := 39) X 1 dX9_judge_39 rfl ?_
          refine J_iret (pc := 40) X hr () dX9_judge_40 ?_ rfl
          exact fst_in hf (by omega) ((jq_t hg hsc hok hbw1 hwk hbh1 hbw hbh).mpr (by assumption))
  refine J_loc [1, 0] (lv2 := [(0, .ref qx), (1, .int 0)]) rfl ?_
  exact L_2 _  0 (by first | assumption | omega | simp_all) rfl (Nat.lt_succ_self _)
set_option maxRecDepth 100000 in
set_option maxHeartbeats 600000 in
theorem kX9_tear (l : Launch) (G : va_G) (cI cC cZ : ClassId) (qx : Nat) (q : Nat) (qq : Nat) (qr : Nat) (qs : Nat) (qt : Nat) (qpa : Nat) (qi : Nat) (ql : Nat) (qb : Nat) (qg : Nat) (qw : Nat) (qn : Nat) (qlf : Nat) (qls : Nat) (fn : Nat) (qbf : Nat) (qbs : Nat) (en : Nat) (hf : fn ≤ 6) (he : en ≤ 20) : CI l G (tys3 cI cC cZ) yX9_tear cX9_tear 2 (some .int) ({ frames := 1, cells := 0, slots := 0, locals := 20 }) [.ref qx] [(qx, .inr (9, [.ref q, .ref qq, .ref qr, .ref qs, .ref qt, .ref qpa, .ref qi, .ref ql, .ref qb, .ref qg, .ref qw, .ref qn])), (ql, .inr (3, [.ref qlf, .ref qls, .int (nI fn)])), (qb, .inr (3, [.ref qbf, .ref qbs, .int (nI en)]))] (S := Unit) (fun (r : Int32) (u : Unit) => r = nI (fn + en)) (fun (u : Unit) => [(qx, .inr (9, [.ref q, .ref qq, .ref qr, .ref qs, .ref qt, .ref qpa, .ref qi, .ref ql, .ref qb, .ref qg, .ref qw, .ref qn])), (ql, .inr (3, [.ref qlf, .ref qls, .int 0])), (qb, .inr (3, [.ref qbf, .ref qbs, .int 0]))]) := by
  refine CI.intro (by decide) (Nat.le_of_ble_eq_true rfl) ?_
  intro p0 e0 s0 m0 ar0 be0 me0 c0 A0 X hr
  refine J_aload_n (pc := 0) X 0 dX9_tear_0 rfl ?_
  refine J_get (pc := 1) X clX9 0 7 rfl (by decide) g248 rfl dX9_tear_1 ?_
  refine J_callR (pc := 4) (As := []) (rest := []) X mtX3_size g457 [1] 0 (kX3_size l G cI cC cZ ql qlf qls fn ) ⟨Nat.le_of_ble_eq_true rfl, Nat.le_of_ble_eq_true rfl⟩ rfl rfl rfl (by decide) rfl rfl rfl rfl rfl (Nat.le_of_ble_eq_true rfl) (Nat.zero_le _) (Nat.zero_le _) dX9_tear_4 (fun r_1 u_2 w_3 => ?_)
  try dsimp only at w_3
  subst w_3
  refine J_aload_n (pc := 7) X 0 dX9_tear_7 rfl ?_
  refine J_get (pc := 8) X clX9 0 8 rfl (by decide) g249 rfl dX9_tear_8 ?_
  refine J_callR (pc := 11) (As := []) (rest := [.int (nI fn)]) X mtX3_size g457 [2] 0 (kX3_size l G cI cC cZ qb qbf qbs en ) ⟨Nat.le_of_ble_eq_true rfl, Nat.le_of_ble_eq_true rfl⟩ rfl rfl rfl (by decide) rfl rfl rfl rfl rfl (Nat.le_of_ble_eq_true rfl) (Nat.zero_le _) (Nat.zero_le _) dX9_tear_11 (fun r_4 u_5 w_6 => ?_)
  try dsimp only at w_6
  subst w_6
  refine J_iadd (pc := 14) X dX9_tear_14 ?_
  refine J_top (y := nI (fn + en)) (n_add (x := fn) (y := en) rfl rfl (by omega)) ?_
  refine J_istore_n (pc := 15) X [(1, .int (nI (fn + en))), (0, .ref qx)] dX9_tear_15 (by decide) rfl ?_
  refine J_aload_n (pc := 16) X 1 dX9_tear_16 rfl ?_
  refine J_get (pc := 17) X clX9 0 7 rfl (by decide) g248 rfl dX9_tear_17 ?_
  refine J_callV (pc := 20) (As := []) (rest := []) X mtX3_clear g419 [1] [0, 2] [0, 2, 1] 0 (fun u => [(qx, .inr (9, [.ref q, .ref qq, .ref qr, .ref qs, .ref qt, .ref qpa, .ref qi, .ref ql, .ref qb, .ref qg, .ref qw, .ref qn])), (ql, .inr (3, [.ref qlf, .ref qls, .int 0])), (qb, .inr (3, [.ref qbf, .ref qbs, .int (nI en)]))]) (kX3_clear l G cI cC cZ ql qlf qls fn ) ⟨Nat.le_of_ble_eq_true rfl, Nat.le_of_ble_eq_true rfl⟩ rfl rfl rfl (by decide) (wr := [(qx, .inr (9, [.ref q, .ref qq, .ref qr, .ref qs, .ref qt, .ref qpa, .ref qi, .ref ql, .ref qb, .ref qg, .ref qw, .ref qn])), (qb, .inr (3, [.ref qbf, .ref qbs, .int (nI en)]))]) rfl (by decide) (by decide) (fun _ => rfl) (by decide) rfl rfl rfl rfl rfl (Nat.le_of_ble_eq_true rfl) (Nat.zero_le _) (Nat.zero_le _) dX9_tear_20 (fun u_8 w_9 => ?_)
  try dsimp only at w_9
  refine J_aload_n (pc := 23) X 1 dX9_tear_23 rfl ?_
  refine J_get (pc := 24) X clX9 0 8 rfl (by decide) g249 rfl dX9_tear_24 ?_
  refine J_callV (pc := 27) (As := []) (rest := []) X mtX3_clear g419 [2] [0, 1] [0, 1, 2] 0 (fun u => [(qx, .inr (9, [.ref q, .ref qq, .ref qr, .ref qs, .ref qt, .ref qpa, .ref qi, .ref ql, .ref qb, .ref qg, .ref qw, .ref qn])), (ql, .inr (3, [.ref qlf, .ref qls, .int 0])), (qb, .inr (3, [.ref qbf, .ref qbs, .int 0]))]) (kX3_clear l G cI cC cZ qb qbf qbs en ) ⟨Nat.le_of_ble_eq_true rfl, Nat.le_of_ble_eq_true rfl⟩ rfl rfl rfl (by decide) (wr := [(qx, .inr (9, [.ref q, .ref qq, .ref qr, .ref qs, .ref qt, .ref qpa, .ref qi, .ref ql, .ref qb, .ref qg, .ref qw, .ref qn])), (ql, .inr (3, [.ref qlf, .ref qls, .int 0]))]) rfl (by decide) (by decide) (fun _ => rfl) (by decide) rfl rfl rfl rfl rfl (Nat.le_of_ble_eq_true rfl) (Nat.zero_le _) (Nat.zero_le _) dX9_tear_27 (fun u_11 w_12 => ?_)
  try dsimp only at w_12
  refine J_iload_n (pc := 30) X 0 dX9_tear_30 rfl ?_
  refine J_iret (pc := 31) X hr () dX9_tear_31 ?_ rfl
  rfl
set_option maxRecDepth 100000 in
set_option maxHeartbeats 600000 in
theorem kX9_seed (l : Launch) (G : va_G) (cI cC cZ : ClassId) (qx : Nat) (q : Nat) (qq : Nat) (qr : Nat) (qs : Nat) (qt : Nat) (qpa : Nat) (qi : Nat) (ql : Nat) (qb : Nat) (qg : Nat) (qw : Nat) (qn : Nat) (sd : Int32) (v : Int32) : CI l G (tys3 cI cC cZ) yX9_seed cX9_seed 3 (some .int) ({ frames := 1, cells := 0, slots := 0, locals := 21 }) [.ref qx, .int v] [(qx, .inr (9, [.ref q, .ref qq, .ref qr, .ref qs, .ref qt, .ref qpa, .ref qi, .ref ql, .ref qb, .ref qg, .ref qw, .ref qn])), (qw, .inr (0, [.int sd]))] (S := Int32) (fun (r : Int32) (u : Int32) => r = (if v < 0 then -1000000002 else sd) ∧ u = (if v < 0 then sd else v)) (fun (u : Int32) => [(qx, .inr (9, [.ref q, .ref qq, .ref qr, .ref qs, .ref qt, .ref qpa, .ref qi, .ref ql, .ref qb, .ref qg, .ref qw, .ref qn])), (qw, .inr (0, [.int u]))]) := by
  refine CI.intro (by decide) (Nat.le_of_ble_eq_true rfl) ?_
  intro p0 e0 s0 m0 ar0 be0 me0 c0 A0 X hr
  refine J_iload_n (pc := 0) X 1 dX9_seed_0 rfl ?_
  refine J_if_ge (pc := 1) X 7 dX9_seed_1 (by decide) (fun c_1 => ?_) (fun c_1 => ?_)
  · have c_1 := Int32.not_lt.mpr c_1
    refine J_aload_n (pc := 7) X 0 dX9_seed_7 rfl ?_
    refine J_get (pc := 8) X clX9 0 10 rfl (by decide) g251 rfl dX9_seed_8 ?_
    refine J_callR (pc := 11) (As := []) (rest := []) X mtX0_current g843 [1] 0 (kX0_current l G cI cC cZ qw sd ) ⟨Nat.le_of_ble_eq_true rfl, Nat.le_of_ble_eq_true rfl⟩ rfl rfl rfl (by decide) rfl rfl rfl rfl rfl (Nat.le_of_ble_eq_true rfl) (Nat.zero_le _) (Nat.zero_le _) dX9_seed_11 (fun r_2 u_3 w_4 => ?_)
    try dsimp only at w_4
    have w_4 := w_4.symm; subst w_4
    refine J_istore_n (pc := 14) X [(2, .int sd), (0, .ref qx), (1, .int v)] dX9_seed_14 (by decide) rfl ?_
    refine J_aload_n (pc := 15) X 1 dX9_seed_15 rfl ?_
    refine J_get (pc := 16) X clX9 0 10 rfl (by decide) g251 rfl dX9_seed_16 ?_
    refine J_iload_n (pc := 19) X 2 dX9_seed_19 rfl ?_
    refine J_callV (pc := 20) (As := [.int v]) (rest := []) X mtX0_startFrom g847 [1] [0] [0, 1] 0 (fun u => [(qx, .inr (9, [.ref q, .ref qq, .ref qr, .ref qs, .ref qt, .ref qpa, .ref qi, .ref ql, .ref qb, .ref qg, .ref qw, .ref qn])), (qw, .inr (0, [.int v]))]) (kX0_startFrom l G cI cC cZ qw sd v ) ⟨Nat.le_of_ble_eq_true rfl, Nat.le_of_ble_eq_true rfl⟩ rfl rfl rfl (by decide) (wr := [(qx, .inr (9, [.ref q, .ref qq, .ref qr, .ref qs, .ref qt, .ref qpa, .ref qi, .ref ql, .ref qb, .ref qg, .ref qw, .ref qn]))]) rfl (by decide) (by decide) (fun _ => rfl) (by decide) rfl rfl rfl rfl rfl (Nat.le_of_ble_eq_true rfl) (Nat.zero_le _) (Nat.zero_le _) dX9_seed_20 (fun u_6 w_7 => ?_)
    try dsimp only at w_7
    refine J_iload_n (pc := 23) X 0 dX9_seed_23 rfl ?_
    refine J_iret (pc := 24) X hr v dX9_seed_24 ?_ rfl
    first | exact (if_pos (by assumption)).symm | exact (if_neg (by assumption)).symm | (refine ⟨?_, ?_⟩ <;> simp [c_1])
  · have c_1 := Int32.not_le.mp c_1
    refine J_ldc (pc := 4) X g285 dX9_seed_4 ?_
    refine J_iret (pc := 6) X hr sd dX9_seed_6 ?_ rfl
    first | exact (if_pos (by assumption)).symm | exact (if_neg (by assumption)).symm | (refine ⟨?_, ?_⟩ <;> simp [c_1])
set_option maxRecDepth 100000 in
set_option maxHeartbeats 600000 in
theorem kX9_keep (l : Launch) (G : va_G) (cI cC cZ : ClassId) (qx : Nat) (q : Nat) (qq : Nat) (qr : Nat) (qs : Nat) (qt : Nat) (qpa : Nat) (qi : Nat) (ql : Nat) (qb : Nat) (qg : Nat) (qw : Nat) (qn : Nat) (qir : Nat) (qis : Nat) (qio : Nat) (ri : Nat → Int32) (se : Nat → Int32) (so : Nat → Int32) (qsc : Nat) (c : Nat → Int32) (qpr : Nat) (o : Nat) (dn : Nat) (sd : Int32) (i : Int32) : CI l G (tys3 cI cC cZ) yX9_keep cX9_keep 2 (some .int) ({ frames := 3, cells := 0, slots := 0, locals := 63 }) [.ref qx, .int i] [(qx, .inr (9, [.ref q, .ref qq, .ref qr, .ref qs, .ref qt, .ref qpa, .ref qi, .ref ql, .ref qb, .ref qg, .ref qw, .ref qn])), (qi, .inr (2, [.ref qir, .ref qis, .ref qio])), (qir, .inl (cI, 36, .inl ri)), (qis, .inl (cI, 2, .inl se)), (qio, .inl (cZ, 2, .inl so)), (qs, .inr (7, [.ref qsc])), (qsc, .inl (cI, 18, .inl c)), (qpa, .inr (4, [.ref qpr, .int (nI o), .int (nI dn)])), (qw, .inr (0, [.int sd]))] (S := (Nat → Int32) × (Nat → Int32) × (Nat → Int32) × Nat × Nat) (fun (r : Int32) (u : (Nat → Int32) × (Nat → Int32) × (Nat → Int32) × Nat × Nat) => r = kpR i ∧ (wIn i 0 1 → u.1 = va_cpy c ri 0 (18 * i.toNatClampNeg) 18 ∧ u.2.1 = upd se i.toNatClampNeg sd ∧ u.2.2.1 = upd so i.toNatClampNeg 1 ∧ u.2.2.2.1 = 0 ∧ u.2.2.2.2 = 0) ∧ (¬ wIn i 0 1 → u.1 = ri ∧ u.2.1 = se ∧ u.2.2.1 = so ∧ u.2.2.2.1 = o ∧ u.2.2.2.2 = dn)) (fun (u : (Nat → Int32) × (Nat → Int32) × (Nat → Int32) × Nat × Nat) => [(qx, .inr (9, [.ref q, .ref qq, .ref qr, .ref qs, .ref qt, .ref qpa, .ref qi, .ref ql, .ref qb, .ref qg, .ref qw, .ref qn])), (qi, .inr (2, [.ref qir, .ref qis, .ref qio])), (qir, .inl (cI, 36, .inl u.1)), (qis, .inl (cI, 2, .inl u.2.1)), (qio, .inl (cZ, 2, .inl u.2.2.1)), (qs, .inr (7, [.ref qsc])), (qsc, .inl (cI, 18, .inl c)), (qpa, .inr (4, [.ref qpr, .int (nI u.2.2.2.1), .int (nI u.2.2.2.2)])), (qw, .inr (0, [.int sd]))]) := by
  refine CI.intro (by decide) (Nat.le_of_ble_eq_true rfl) ?_
  intro p0 e0 s0 m0 ar0 be0 me0 c0 A0 X hr
  refine J_aload_n (pc := 0) X 0 dX9_keep_0 rfl ?_
  refine J_get (pc := 1) X clX9 0 6 rfl (by decide) g247 rfl dX9_keep_1 ?_
  refine J_iload_n (pc := 4) X 1 dX9_keep_4 rfl ?_
  refine J_callR (pc := 5) (As := [.int i]) (rest := []) X mtX2_hasPlace g855 [1] 0 (kX2_hasPlace l G cI cC cZ qi qir qis qio i ) ⟨Nat.le_of_ble_eq_true rfl, Nat.le_of_ble_eq_true rfl⟩ rfl rfl rfl (by decide) rfl rfl rfl rfl rfl (Nat.le_of_ble_eq_true rfl) (Nat.zero_le _) (Nat.zero_le _) dX9_keep_5 (fun r_1 u_2 w_3 => ?_)
  try dsimp only at w_3
  subst w_3
  refine J_bif_ne (pc := 8) X 14 dX9_keep_8 (by decide) (fun c_4 => ?_) (fun c_4 => ?_)
  · skip
    obtain ⟨nn, hnn, rfl⟩ := inB_ex (by omega) c_4
    refine J_aload_n (pc := 14) X 0 dX9_keep_14 rfl ?_
    refine J_get (pc := 15) X clX9 0 6 rfl (by decide) g247 rfl dX9_keep_15 ?_
    refine J_iload_n (pc := 18) X 1 dX9_keep_18 rfl ?_
    refine J_aload_n (pc := 19) X 0 dX9_keep_19 rfl ?_
    refine J_get (pc := 20) X clX9 0 3 rfl (by decide) g244 rfl dX9_keep_20 ?_
    refine J_aload_n (pc := 23) X 0 dX9_keep_23 rfl ?_
    refine J_get (pc := 24) X clX9 0 10 rfl (by decide) g251 rfl dX9_keep_24 ?_
    refine J_callR (pc := 27) (As := []) (rest := [.ref qs, .int (nI nn), .ref qi]) X mtX0_current g843 [8] 0 (kX0_current l G cI cC cZ qw sd ) ⟨Nat.le_of_ble_eq_true rfl, Nat.le_of_ble_eq_true rfl⟩ rfl rfl rfl (by decide) rfl rfl rfl rfl rfl (Nat.le_of_ble_eq_true rfl) (Nat.zero_le _) (Nat.zero_le _) dX9_keep_27 (fun r_5 u_6 w_7 => ?_)
    try dsimp only at w_7
    have w_7 := w_7.symm; subst w_7
    refine J_callV (pc := 30) (As := [.int (nI nn), .ref qs, .int sd]) (rest := []) X mtX2_store g859 [1, 2, 3, 4, 5, 6] [0, 7, 8] [0, 3, 4, 5, 6, 7, 8, 1, 2] 0 (fun u => [(qx, .inr (9, [.ref q, .ref qq, .ref qr, .ref qs, .ref qt, .ref qpa, .ref qi, .ref ql, .ref qb, .ref qg, .ref qw, .ref qn])), (qi, .inr (2, [.ref qir, .ref qis, .ref qio])), (qir, .inl (cI, 36, .inl (va_cpy c ri 0 (18 * nn) 18))), (qis, .inl (cI, 2, .inl (upd se nn sd))), (qio, .inl (cZ, 2, .inl (upd so nn (vp_nar .boolean 1)))), (qs, .inr (7, [.ref qsc])), (qsc, .inl (cI, 18, .inl c)), (qpa, .inr (4, [.ref qpr, .int (nI o), .int (nI dn)])), (qw, .inr (0, [.int sd]))]) (kX2_store l G cI cC cZ qi qir qis qio ri se so nn qs qsc c sd (by first | assumption | omega)) ⟨Nat.le_of_ble_eq_true rfl, Nat.le_of_ble_eq_true rfl⟩ rfl rfl rfl (by decide) (wr := [(qx, .inr (9, [.ref q, .ref qq, .ref qr, .ref qs, .ref qt, .ref qpa, .ref qi, .ref ql, .ref qb, .ref qg, .ref qw, .ref qn])), (qpa, .inr (4, [.ref qpr, .int (nI o), .int (nI dn)])), (qw, .inr (0, [.int sd]))]) rfl (by decide) (by decide) (fun _ => rfl) (by decide) rfl rfl rfl rfl rfl (Nat.le_of_ble_eq_true rfl) (Nat.zero_le _) (Nat.zero_le _) dX9_keep_30 (fun u_9 w_10 => ?_)
    try dsimp only at w_10
    refine J_aload_n (pc := 33) X 0 dX9_keep_33 rfl ?_
    refine J_get (pc := 34) X clX9 0 5 rfl (by decide) g246 rfl dX9_keep_34 ?_
    refine J_callV (pc := 37) (As := []) (rest := []) X mtX4_forget g411 [7] [0, 1, 2, 3, 4, 5, 6, 8] [0, 1, 2, 3, 4, 5, 6, 8, 7] 0 (fun u => [(qx, .inr (9, [.ref q, .ref qq, .ref qr, .ref qs, .ref qt, .ref qpa, .ref qi, .ref ql, .ref qb, .ref qg, .ref qw, .ref qn])), (qi, .inr (2, [.ref qir, .ref qis, .ref qio])), (qir, .inl (cI, 36, .inl (va_cpy c ri 0 (18 * nn) 18))), (qis, .inl (cI, 2, .inl (upd se nn sd))), (qio, .inl (cZ, 2, .inl (upd so nn (vp_nar .boolean 1)))), (qs, .inr (7, [.ref qsc])), (qsc, .inl (cI, 18, .inl c)), (qpa, .inr (4, [.ref qpr, .int 0, .int 0])), (qw, .inr (0, [.int sd]))]) (kX4_forget l G cI cC cZ qpa qpr o dn ) ⟨Nat.le_of_ble_eq_true rfl, Nat.le_of_ble_eq_true rfl⟩ rfl rfl rfl (by decide) (wr := [(qx, .inr (9, [.ref q, .ref qq, .ref qr, .ref qs, .ref qt, .ref qpa, .ref qi, .ref ql, .ref qb, .ref qg, .ref qw, .ref qn])), (qi, .inr (2, [.ref qir, .ref qis, .ref qio])), (qir, .inl (cI, 36, .inl (va_cpy c ri 0 (18 * nn) 18))), (qis, .inl (cI, 2, .inl (upd se nn sd))), (qio, .inl (cZ, 2, .inl (upd so nn (vp_nar .boolean 1)))), (qs, .inr (7, [.ref qsc])), (qsc, .inl (cI, 18, .inl c)), (qw, .inr (0, [.int sd]))]) rfl (by decide) (by decide) (fun _ => rfl) (by decide) rfl rfl rfl rfl rfl (Nat.le_of_ble_eq_true rfl) (Nat.zero_le _) (Nat.zero_le _) dX9_keep_37 (fun u_12 w_13 => ?_)
    try dsimp only at w_13
    refine J_iconst (pc := 40) X 1 dX9_keep_40 (by decide) ?_
    refine J_iret (pc := 41) X hr ((va_cpy c ri 0 (18 * nn) 18), (upd se nn sd), (upd so nn (vp_nar .boolean 1)), 0, 0) dX9_keep_41 ?_ rfl
    have hz := inB2_n hnn
    refine ⟨(if_pos hz).symm, fun _ => ⟨by rw [nI_clamp (by omega)], by rw [nI_clamp (by omega)], by rw [nI_clamp (by omega)]; rfl, rfl, rfl⟩, fun h => absurd hz h⟩
  · skip
    refine J_ldc (pc := 11) X g473 dX9_keep_11 ?_
    refine J_iret (pc := 13) X hr (ri, se, so, o, dn) dX9_keep_13 ?_ rfl
    have hz : ¬ wIn i 0 1 := fun z => absurd (inB2.mp z) (by assumption)
    refine ⟨(if_neg hz).symm, fun h => absurd h hz, fun _ => ⟨rfl, rfl, rfl, rfl, rfl⟩⟩
set_option maxRecDepth 100000 in
set_option maxHeartbeats 600000 in
theorem kX9_goBack (l : Launch) (G : va_G) (cI cC cZ : ClassId) (qx : Nat) (q : Nat) (qq : Nat) (qr : Nat) (qs : Nat) (qt : Nat) (qpa : Nat) (qi : Nat) (ql : Nat) (qb : Nat) (qg : Nat) (qw : Nat) (qn : Nat) (qir : Nat) (qis : Nat) (qio : Nat) (ri : Nat → Int32) (se : Nat → Int32) (so : Nat → Int32) (qsc : Nat) (c : Nat → Int32) (qpr : Nat) (o : Nat) (dn : Nat) (sd : Int32) (i : Int32) : CI l G (tys3 cI cC cZ) yX9_goBack cX9_goBack 2 (some .int) ({ frames := 3, cells := 0, slots := 0, locals := 64 }) [.ref qx, .int i] [(qx, .inr (9, [.ref q, .ref qq, .ref qr, .ref qs, .ref qt, .ref qpa, .ref qi, .ref ql, .ref qb, .ref qg, .ref qw, .ref qn])), (qi, .inr (2, [.ref qir, .ref qis, .ref qio])), (qir, .inl (cI, 36, .inl ri)), (qis, .inl (cI, 2, .inl se)), (qio, .inl (cZ, 2, .inl so)), (qs, .inr (7, [.ref qsc])), (qsc, .inl (cI, 18, .inl c)), (qpa, .inr (4, [.ref qpr, .int (nI o), .int (nI dn)])), (qw, .inr (0, [.int sd]))] (S := (Nat → Int32) × Nat × Nat × Int32) (fun (r : Int32) (u : (Nat → Int32) × Nat × Nat × Int32) => r = bkR so i ∧ (bkR so i = 1 → u.1 = va_cpy ri c (18 * i.toNatClampNeg) 0 18 ∧ u.2.1 = 0 ∧ u.2.2.1 = 0 ∧ u.2.2.2 = se i.toNatClampNeg) ∧ (¬ bkR so i = 1 → u.1 = c ∧ u.2.1 = o ∧ u.2.2.1 = dn ∧ u.2.2.2 = sd)) (fun (u : (Nat → Int32) × Nat × Nat × Int32) => [(qx, .inr (9, [.ref q, .ref qq, .ref qr, .ref qs, .ref qt, .ref qpa, .ref qi, .ref ql, .ref qb, .ref qg, .ref qw, .ref qn])), (qi, .inr (2, [.ref qir, .ref qis, .ref qio])), (qir, .inl (cI, 36, .inl ri)), (qis, .inl (cI, 2, .inl se)), (qio, .inl (cZ, 2, .inl so)), (qs, .inr (7, [.ref qsc])), (qsc, .inl (cI, 18, .inl u.1)), (qpa, .inr (4, [.ref qpr, .int (nI u.2.1), .int (nI u.2.2.1)])), (qw, .inr (0, [.int u.2.2.2]))]) := by
  refine CI.intro (by decide) (Nat.le_of_ble_eq_true rfl) ?_
  intro p0 e0 s0 m0 ar0 be0 me0 c0 A0 X hr
  refine J_aload_n (pc := 0) X 0 dX9_goBack_0 rfl ?_
  refine J_get (pc := 1) X clX9 0 6 rfl (by decide) g247 rfl dX9_goBack_1 ?_
  refine J_iload_n (pc := 4) X 1 dX9_goBack_4 rfl ?_
  refine J_callR (pc := 5) (As := [.int i]) (rest := []) X mtX2_hasPlace g855 [1] 0 (kX2_hasPlace l G cI cC cZ qi qir qis qio i ) ⟨Nat.le_of_ble_eq_true rfl, Nat.le_of_ble_eq_true rfl⟩ rfl rfl rfl (by decide) rfl rfl rfl rfl rfl (Nat.le_of_ble_eq_true rfl) (Nat.zero_le _) (Nat.zero_le _) dX9_goBack_5 (fun r_1 u_2 w_3 => ?_)
  try dsimp only at w_3
  subst w_3
  refine J_bif_ne (pc := 8) X 14 dX9_goBack_8 (by decide) (fun c_4 => ?_) (fun c_4 => ?_)
  · skip
    obtain ⟨nn, hnn, rfl⟩ := inB_ex (by omega) c_4
    refine J_aload_n (pc := 14) X 0 dX9_goBack_14 rfl ?_
    refine J_get (pc := 15) X clX9 0 6 rfl (by decide) g247 rfl dX9_goBack_15 ?_
    refine J_iload_n (pc := 18) X 1 dX9_goBack_18 rfl ?_
    refine J_callR (pc := 19) (As := [.int (nI nn)]) (rest := []) X mtX2_isStored g869 [1, 4] 0 (kX2_isStored l G cI cC cZ qi qir qis qio so (nI nn) ) ⟨Nat.le_of_ble_eq_true rfl, Nat.le_of_ble_eq_true rfl⟩ rfl rfl rfl (by decide) rfl rfl rfl rfl rfl (Nat.le_of_ble_eq_true rfl) (Nat.zero_le _) (Nat.zero_le _) dX9_goBack_19 (fun r_5 u_6 w_7 => ?_)
    try dsimp only at w_7
    subst w_7
    refine J_top (y := bI (¬ so nn = 0)) (bI_congr ⟨fun z => by have := z.2; rw [nI_clamp (by omega)] at this; exact this, fun z => ⟨(inB_nI (by omega)).mpr hnn, by rw [nI_clamp (by omega)]; exact z⟩⟩) ?_
    refine J_bif_ne (pc := 22) X 28 dX9_goBack_22 (by decide) (fun c_8 => ?_) (fun c_8 => ?_)
    · skip
      have hso : ¬ so nn = 0 := c_8
      refine J_aload_n (pc := 28) X 0 dX9_goBack_28 rfl ?_
      refine J_get (pc := 29) X clX9 0 6 rfl (by decide) g247 rfl dX9_goBack_29 ?_
      refine J_iload_n (pc := 32) X 1 dX9_goBack_32 rfl ?_
      refine J_aload_n (pc := 33) X 0 dX9_goBack_33 rfl ?_
      refine J_get (pc := 34) X clX9 0 3 rfl (by decide) g244 rfl dX9_goBack_34 ?_
      refine J_callV (pc := 37) (As := [.int (nI nn), .ref qs]) (rest := []) X mtX2_restore g873 [1, 2, 4, 5, 6] [0, 3, 7, 8] [0, 4, 5, 1, 6, 7, 8, 2, 3] 0 (fun u => [(qx, .inr (9, [.ref q, .ref qq, .ref qr, .ref qs, .ref qt, .ref qpa, .ref qi, .ref ql, .ref qb, .ref qg, .ref qw, .ref qn])), (qi, .inr (2, [.ref qir, .ref qis, .ref qio])), (qir, .inl (cI, 36, .inl ri)), (qis, .inl (cI, 2, .inl se)), (qio, .inl (cZ, 2, .inl so)), (qs, .inr (7, [.ref qsc])), (qsc, .inl (cI, 18, .inl (va_cpy ri c (18 * nn) 0 18))), (qpa, .inr (4, [.ref qpr, .int (nI o), .int (nI dn)])), (qw, .inr (0, [.int sd]))]) (kX2_restore l G cI cC cZ qi qir qis qio ri so nn qs qsc c hnn hso) ⟨Nat.le_of_ble_eq_true rfl, Nat.le_of_ble_eq_true rfl⟩ rfl rfl rfl (by decide) (wr := [(qx, .inr (9, [.ref q, .ref qq, .ref qr, .ref qs, .ref qt, .ref qpa, .ref qi, .ref ql, .ref qb, .ref qg, .ref qw, .ref qn])), (qis, .inl (cI, 2, .inl se)), (qpa, .inr (4, [.ref qpr, .int (nI o), .int (nI dn)])), (qw, .inr (0, [.int sd]))]) rfl (by decide) (by decide) (fun _ => rfl) (by decide) rfl rfl rfl rfl rfl (Nat.le_of_ble_eq_true rfl) (Nat.zero_le _) (Nat.zero_le _) dX9_goBack_37 (fun u_10 w_11 => ?_)
      try dsimp only at w_11
      refine J_aload_n (pc := 40) X 0 dX9_goBack_40 rfl ?_
      refine J_get (pc := 41) X clX9 0 10 rfl (by decide) g251 rfl dX9_goBack_41 ?_
      refine J_aload_n (pc := 44) X 0 dX9_goBack_44 rfl ?_
      refine J_get (pc := 45) X clX9 0 6 rfl (by decide) g247 rfl dX9_goBack_45 ?_
      refine J_iload_n (pc := 48) X 1 dX9_goBack_48 rfl ?_
      refine J_callR (pc := 49) (As := [.int (nI nn)]) (rest := [.ref qw]) X mtX2_seedOf g879 [1, 3] 0 (kX2_seedOf l G cI cC cZ qi qir qis qio se nn hnn) ⟨Nat.le_of_ble_eq_true rfl, Nat.le_of_ble_eq_true rfl⟩ rfl rfl rfl (by decide) rfl rfl rfl rfl rfl (Nat.le_of_ble_eq_true rfl) (Nat.zero_le _) (Nat.zero_le _) dX9_goBack_49 (fun r_12 u_13 w_14 => ?_)
      try dsimp only at w_14
      subst w_14
      refine J_callV (pc := 52) (As := [.int (se nn)]) (rest := []) X mtX0_startFrom g847 [8] [0, 1, 2, 3, 4, 5, 6, 7] [0, 1, 2, 3, 4, 5, 6, 7, 8] 0 (fun u => [(qx, .inr (9, [.ref q, .ref qq, .ref qr, .ref qs, .ref qt, .ref qpa, .ref qi, .ref ql, .ref qb, .ref qg, .ref qw, .ref qn])), (qi, .inr (2, [.ref qir, .ref qis, .ref qio])), (qir, .inl (cI, 36, .inl ri)), (qis, .inl (cI, 2, .inl se)), (qio, .inl (cZ, 2, .inl so)), (qs, .inr (7, [.ref qsc])), (qsc, .inl (cI, 18, .inl (va_cpy ri c (18 * nn) 0 18))), (qpa, .inr (4, [.ref qpr, .int (nI o), .int (nI dn)])), (qw, .inr (0, [.int (se nn)]))]) (kX0_startFrom l G cI cC cZ qw sd (se nn) ) ⟨Nat.le_of_ble_eq_true rfl, Nat.le_of_ble_eq_true rfl⟩ rfl rfl rfl (by decide) (wr := [(qx, .inr (9, [.ref q, .ref qq, .ref qr, .ref qs, .ref qt, .ref qpa, .ref qi, .ref ql, .ref qb, .ref qg, .ref qw, .ref qn])), (qi, .inr (2, [.ref qir, .ref qis, .ref qio])), (qir, .inl (cI, 36, .inl ri)), (qis, .inl (cI, 2, .inl se)), (qio, .inl (cZ, 2, .inl so)), (qs, .inr (7, [.ref qsc])), (qsc, .inl (cI, 18, .inl (va_cpy ri c (18 * nn) 0 18))), (qpa, .inr (4, [.ref qpr, .int (nI o), .int (nI dn)]))]) rfl (by decide) (by decide) (fun _ => rfl) (by decide) rfl rfl rfl rfl rfl (Nat.le_of_ble_eq_true rfl) (Nat.zero_le _) (Nat.zero_le _) dX9_goBack_52 (fun u_16 w_17 => ?_)
      try dsimp only at w_17
      refine J_aload_n (pc := 55) X 0 dX9_goBack_55 rfl ?_
      refine J_get (pc := 56) X clX9 0 5 rfl (by decide) g246 rfl dX9_goBack_56 ?_
      refine J_callV (pc := 59) (As := []) (rest := []) X mtX4_forget g411 [7] [0, 1, 2, 3, 4, 5, 6, 8] [0, 1, 2, 3, 4, 5, 6, 8, 7] 0 (fun u => [(qx, .inr (9, [.ref q, .ref qq, .ref qr, .ref qs, .ref qt, .ref qpa, .ref qi, .ref ql, .ref qb, .ref qg, .ref qw, .ref qn])), (qi, .inr (2, [.ref qir, .ref qis, .ref qio])), (qir, .inl (cI, 36, .inl ri)), (qis, .inl (cI, 2, .inl se)), (qio, .inl (cZ, 2, .inl so)), (qs, .inr (7, [.ref qsc])), (qsc, .inl (cI, 18, .inl (va_cpy ri c (18 * nn) 0 18))), (qpa, .inr (4, [.ref qpr, .int 0, .int 0])), (qw, .inr (0, [.int (se nn)]))]) (kX4_forget l G cI cC cZ qpa qpr o dn ) ⟨Nat.le_of_ble_eq_true rfl, Nat.le_of_ble_eq_true rfl⟩ rfl rfl rfl (by decide) (wr := [(qx, .inr (9, [.ref q, .ref qq, .ref qr, .ref qs, .ref qt, .ref qpa, .ref qi, .ref ql, .ref qb, .ref qg, .ref qw, .ref qn])), (qi, .inr (2, [.ref qir, .ref qis, .ref qio])), (qir, .inl (cI, 36, .inl ri)), (qis, .inl (cI, 2, .inl se)), (qio, .inl (cZ, 2, .inl so)), (qs, .inr (7, [.ref qsc])), (qsc, .inl (cI, 18, .inl (va_cpy ri c (18 * nn) 0 18))), (qw, .inr (0, [.int (se nn)]))]) rfl (by decide) (by decide) (fun _ => rfl) (by decide) rfl rfl rfl rfl rfl (Nat.le_of_ble_eq_true rfl) (Nat.zero_le _) (Nat.zero_le _) dX9_goBack_59 (fun u_19 w_20 => ?_)
      try dsimp only at w_20
      refine J_iconst (pc := 62) X 1 dX9_goBack_62 (by decide) ?_
      refine J_iret (pc := 63) X hr ((va_cpy ri c (18 * nn) 0 18), 0, 0, (se nn)) dX9_goBack_63 ?_ rfl
      have hz : bkR so (nI nn) = 1 := by rw [bkR, if_pos (inB2_n hnn), nI_clamp (by omega), if_neg hso]
      rw [hz, nI_clamp (by omega)]
      exact ⟨rfl, fun _ => ⟨rfl, rfl, rfl, rfl⟩, fun h => absurd rfl h⟩
    · skip
      have hso0 : so nn = 0 := Decidable.not_not.mp c_8
      refine J_ldc (pc := 25) X g564 dX9_goBack_25 ?_
      refine J_iret (pc := 27) X hr (c, o, dn, sd) dX9_goBack_27 ?_ rfl
      have hz : bkR so (nI nn) = -1000000003 := by rw [bkR, if_pos (inB2_n hnn), nI_clamp (by omega), if_pos (by assumption)]
      rw [hz]
      exact ⟨rfl, fun h => absurd h (by decide), fun _ => ⟨rfl, rfl, rfl, rfl⟩⟩
  · skip
    refine J_ldc (pc := 11) X g473 dX9_goBack_11 ?_
    refine J_iret (pc := 13) X hr (c, o, dn, sd) dX9_goBack_13 ?_ rfl
    have hz : bkR so i = -1000000001 := if_neg (fun z => absurd (inB2.mp z) (by assumption))
    rw [hz]
    exact ⟨rfl, fun h => absurd h (by decide), fun _ => ⟨rfl, rfl, rfl, rfl⟩⟩
