set_option maxRecDepth 100000 in
set_option maxHeartbeats 600000 in
theorem kX7_passMinute (l : Launch) (G : va_G) (cI cC cZ : ClassId) (qs : Nat) (qsc : Nat) (c : Nat → Int32) (q : Nat) (qd : Nat) (qh : Nat) (qp : Nat) (P : Nat) (gr : Int32) (wd : Nat) (g : Nat) (wk : Nat) (fr : Int32) (dyr : Nat → Int32) (par_ : Nat → Int32) (nw : Nat → Int32) (dy : Nat → Int32) (pa : Nat → Int32) (hPl : P ≤ 60) (hg : g ≤ 8) (hwk : wk ≤ 4) (hwd : wd ≤ 50) (hP0 : 0 < g → 0 < P) (hdy : ∀ k, k < g → dyr k = dy k) (hpa : ∀ k, k < wk → par_ k = pa k) (hsc : scR c nw wk) (hok : okS g wk nw) : CV l G (tys3 cI cC cZ) yX7_passMinute cX7_passMinute 3 ({ frames := 4, cells := 0, slots := 0, locals := 93 }) [.ref qs, .ref q] [(qs, .inr (7, [.ref qsc])), (qsc, .inl (cI, 18, .inl c)), (q, .inr (5, [.int (nI P), .int gr, .int (nI wd), .int (nI g), .int (nI wk), .int fr, .ref qd, .ref qh, .ref qp])), (qd, .inl (cI, 8, .inl dyr)), (qp, .inl (cI, 4, .inl par_))] (S := (Nat → Int32)) (fun (u : (Nat → Int32)) => scR u (pm g (fun k9 t9 => yG P (dy k9) gr t9) pa wk nw) wk ∧ okS g wk (pm g (fun k9 t9 => yG P (dy k9) gr t9) pa wk nw)) (fun (u : (Nat → Int32)) => [(qs, .inr (7, [.ref qsc])), (qsc, .inl (cI, 18, .inl u)), (q, .inr (5, [.int (nI P), .int gr, .int (nI wd), .int (nI g), .int (nI wk), .int fr, .ref qd, .ref qh, .ref qp])), (qd, .inl (cI, 8, .inl dyr)), (qp, .inl (cI, 4, .inl par_))]) := by
  refine CV.intro (by decide) (Nat.le_of_ble_eq_true rfl) ?_
  intro p0 e0 s0 m0 ar0 be0 me0 c0 A0 X hr
  refine J_iconst (pc := 0) X 0 dX7_passMinute_0 (by decide) ?_
  refine J_istore_n (pc := 1) X [(2, .int 0), (0, .ref qs), (1, .ref q)] dX7_passMinute_1 (by decide) rfl ?_
  have L_2 : ∀ (n_2 : Nat) (i : Nat) (cc_ : Nat → Int32) (hi : i ≤ wk) (hsc9 : scR cc_ (pmTo g (fun k9 t9 => yG P (dy k9) gr t9) pa nw i) wk) (hoc9 : okS g wk (pmTo g (fun k9 t9 => yG P (dy k9) gr t9) pa nw i)), (wk - i) < n_2 → JJ p0 l e0 ({ frames := 4, cells := 0, slots := 0, locals := 93 }) s0 m0 ar0 be0 me0 c0 A0 G 3 0 0 (QV be0 ar0 s0 A0 G (tys3 cI cC cZ) (S := (Nat → Int32)) (fun (u : (Nat → Int32)) => scR u (pm g (fun k9 t9 => yG P (dy k9) gr t9) pa wk nw) wk ∧ okS g wk (pm g (fun k9 t9 => yG P (dy k9) gr t9) pa wk nw)) (fun (u : (Nat → Int32)) => [(qs, .inr (7, [.ref qsc])), (qsc, .inl (cI, 18, .inl u)), (q, .inr (5, [.int (nI P), .int gr, .int (nI wd), .int (nI g), .int (nI wk), .int fr, .ref qd, .ref qh, .ref qp])), (qd, .inl (cI, 8, .inl dyr)), (qp, .inl (cI, 4, .inl par_))])) [(qs, .inr (7, [.ref qsc])), (qsc, .inl (cI, 18, .inl cc_)), (q, .inr (5, [.int (nI P), .int gr, .int (nI wd), .int (nI g), .int (nI wk), .int fr, .ref qd, .ref qh, .ref qp])), (qd, .inl (cI, 8, .inl dyr)), (qp, .inl (cI, 4, .inl par_))] 2 [(0, .ref qs), (1, .ref q), (2, .int (nI i))] [] := by
    intro n_2
    induction n_2 with
    | zero => intro i cc_ hi hsc9 hoc9 hm_2; exact absurd hm_2 (Nat.not_lt_zero _)
    | succ n_2 ih_2 =>
      intro i cc_ hi hsc9 hoc9 hm_2
      refine J_iload_n (pc := 2) X 2 dX7_passMinute_2 rfl ?_
      refine J_aload_n (pc := 3) X 1 dX7_passMinute_3 rfl ?_
      refine J_callR (pc := 4) (As := []) (rest := [.int (nI i)]) X mtX5_walkerCount g607 [2] 0 (kX5_walkerCount l G cI cC cZ q qd qh qp P gr wd g wk fr ) ⟨Nat.le_of_ble_eq_true rfl, Nat.le_of_ble_eq_true rfl⟩ rfl rfl rfl (by decide) rfl rfl rfl rfl rfl (Nat.le_of_ble_eq_true rfl) (Nat.zero_le _) (Nat.zero_le _) dX7_passMinute_4 (fun r_1 u_2 w_3 => ?_)
      try dsimp only at w_3
      subst w_3
      refine J_icmp_ge (pc := 7) X 28 dX7_passMinute_7 (by decide) (fun c_4 => ?_) (fun c_4 => ?_)
      · have c_4 : wk ≤ i := n_le_of (a := wk) (b := i) (by omega) (by omega) c_4
        refine J_aload_n (pc := 28) X 0 dX7_passMinute_28 rfl ?_
        refine J_get (pc := 29) X clX7 0 0 rfl (by decide) g149 rfl dX7_passMinute_29 ?_
        refine J_iconst (pc := 32) X 0 dX7_passMinute_32 (by decide) ?_
        refine J_dup2 (pc := 33) X dX7_passMinute_33 rfl rfl ?_
        refine J_iald (pc := 34) X 1 0 0 rfl rfl rfl (by decide) (by decide) dX7_passMinute_34 ?_
        refine J_iconst (pc := 35) X 1 dX7_passMinute_35 (by decide) ?_
        refine J_iadd (pc := 36) X dX7_passMinute_36 ?_
        refine J_iast (pc := 37) X 1 0 0 [(qs, .inr (7, [.ref qsc])), (qsc, .inl (cI, 18, .inl (upd cc_ 0 ((cc_ 0) + 1)))), (q, .inr (5, [.int (nI P), .int gr, .int (nI wd), .int (nI g), .int (nI wk), .int fr, .ref qd, .ref qh, .ref qp])), (qd, .inl (cI, 8, .inl dyr)), (qp, .inl (cI, 4, .inl par_))] rfl rfl rfl (by decide) (by decide) rfl dX7_passMinute_37 ?_
        refine J_vret (pc := 38) X hr (upd cc_ 0 ((cc_ 0) + 1)) dX7_passMinute_38 ?_ rfl
        have q9 : i = wk := by omega
        subst q9
        exact ⟨pm_rel hsc9, okS_0 hoc9⟩
      · have c_4 : i < wk := n_nle_of (a := wk) (b := i) (by omega) (by omega) c_4
        obtain ⟨pos, hpos, hpk⟩ := hoc9 i (by omega)
        have hpl := posOk_lt hg hpk
        have hlv1 := lvP_ok (y := pmTo g (fun k9 t9 => yG P (dy k9) gr t9) pa nw i (3 * i + 3)) (w := pmTo g (fun k9 t9 => yG P (dy k9) gr t9) pa nw i (3 * i + 4)) hpk
        refine J_aload_n (pc := 10) X 0 dX7_passMinute_10 rfl ?_
        refine J_aload_n (pc := 11) X 1 dX7_passMinute_11 rfl ?_
        refine J_iload_n (pc := 12) X 2 dX7_passMinute_12 rfl ?_
        refine J_callV (pc := 13) (As := [.ref q, .int (nI i)]) (rest := []) X mtX7_leaveHouse g608 [0, 1, 2] [3, 4] [2, 3, 4, 0, 1] 0 (fun u => [(qs, .inr (7, [.ref qsc])), (qsc, .inl (cI, 18, .inl u)), (q, .inr (5, [.int (nI P), .int gr, .int (nI wd), .int (nI g), .int (nI wk), .int fr, .ref qd, .ref qh, .ref qp])), (qd, .inl (cI, 8, .inl dyr)), (qp, .inl (cI, 4, .inl par_))]) (kX7_leaveHouse l G cI cC cZ qs qsc cc_ q qd qh qp P gr wd g wk fr i pos (pmTo g (fun k9 t9 => yG P (dy k9) gr t9) pa nw i) (by first | assumption | omega) (by first | assumption | omega) (by first | assumption | omega) (by first | assumption | omega) (by first | assumption | omega) hsc9 hpos hpk) ⟨Nat.le_of_ble_eq_true rfl, Nat.le_of_ble_eq_true rfl⟩ rfl rfl rfl (by decide) (wr := [(qd, .inl (cI, 8, .inl dyr)), (qp, .inl (cI, 4, .inl par_))]) rfl (by decide) (by decide) (fun _ => rfl) (by decide) rfl rfl rfl rfl rfl (Nat.le_of_ble_eq_true rfl) (Nat.zero_le _) (Nat.zero_le _) dX7_passMinute_13 (fun u_6 w_7 => ?_)
        obtain ⟨c2_u_6, rfl⟩ : ∃ z, z = u_6 := ⟨_, rfl⟩
        try dsimp only at w_7
        have hs1 := w_7
        refine J_aload_n (pc := 16) X 0 dX7_passMinute_16 rfl ?_
        refine J_aload_n (pc := 17) X 1 dX7_passMinute_17 rfl ?_
        refine J_iload_n (pc := 18) X 2 dX7_passMinute_18 rfl ?_
        refine J_callV (pc := 19) (As := [.ref q, .int (nI i)]) (rest := []) X mtX7_stride g613 [0, 1, 2, 3, 4] [] [0, 1, 2, 3, 4] 0 (fun u => [(qs, .inr (7, [.ref qsc])), (qsc, .inl (cI, 18, .inl u)), (q, .inr (5, [.int (nI P), .int gr, .int (nI wd), .int (nI g), .int (nI wk), .int fr, .ref qd, .ref qh, .ref qp])), (qd, .inl (cI, 8, .inl dyr)), (qp, .inl (cI, 4, .inl par_))]) (kX7_stride l G cI cC cZ qs qsc c2_u_6 q qd qh qp P gr wd g wk fr dyr par_ i ((lvP g pos (pmTo g (fun k9 t9 => yG P (dy k9) gr t9) pa nw i (3 * i + 3)) (pmTo g (fun k9 t9 => yG P (dy k9) gr t9) pa nw i (3 * i + 4))).1) (upd3 (pmTo g (fun k9 t9 => yG P (dy k9) gr t9) pa nw i) i (lvP g pos (pmTo g (fun k9 t9 => yG P (dy k9) gr t9) pa nw i (3 * i + 3)) (pmTo g (fun k9 t9 => yG P (dy k9) gr t9) pa nw i (3 * i + 4)))) dy pa (by first | assumption | omega) (by first | assumption | omega) (by first | assumption | omega) (by first | assumption | omega) (by first | assumption | omega) (by first | assumption | omega) (by first | assumption | omega) hs1 upd3_0 hlv1 (by first | assumption | omega)) ⟨Nat.le_of_ble_eq_true rfl, Nat.le_of_ble_eq_true rfl⟩ rfl rfl rfl (by decide) (wr := []) rfl (by decide) (by decide) (fun _ => rfl) (by decide) rfl rfl rfl rfl rfl (Nat.le_of_ble_eq_true rfl) (Nat.zero_le _) (Nat.zero_le _) dX7_passMinute_19 (fun u_9 w_10 => ?_)
        obtain ⟨c2_u_9, rfl⟩ : ∃ z, z = u_9 := ⟨_, rfl⟩
        try dsimp only at w_10
        have hs2 := w_10
        refine J_iinc (pc := 22) X (nI (i + 1)) 2 [(2, .int (nI (i + 1))), (0, .ref qs), (1, .ref q)] dX7_passMinute_22 rfl (n_add (x := i) (y := 1) rfl rfl (by omega)) (by decide) rfl ?_
        refine J_goto (pc := 25) X 2 dX7_passMinute_25 (by decide) ?_
        refine J_loc [1, 2, 0] (lv2 := [(0, .ref qs), (1, .ref q), (2, .int (nI (i + 1)))]) rfl ?_
        exact ih_2  (i + 1) c2_u_9 (by first | assumption | omega | simp_all) (pm_two hpos hpl hs2) (pm_ok hg hpos hpk hoc9) (by omega)
  refine J_loc [1, 2, 0] (lv2 := [(0, .ref qs), (1, .ref q), (2, .int 0)]) rfl ?_
  exact L_2 _  0 c (by first | assumption | omega | simp_all) hsc hok (Nat.lt_succ_self _)
set_option maxRecDepth 100000 in
set_option maxHeartbeats 600000 in
theorem kX7_direct (l : Launch) (G : va_G) (cI cC cZ : ClassId) (qs : Nat) (qsc : Nat) (c : Nat → Int32) (q : Nat) (qd : Nat) (qh : Nat) (qp : Nat) (P : Nat) (gr : Int32) (wd : Nat) (g : Nat) (wk : Nat) (fr : Int32) (dyr : Nat → Int32) (w : Nat) (pos : Nat) (nw : Nat → Int32) (dy : Nat → Int32) (v : Int32) (hPl : P ≤ 60) (hg : g ≤ 8) (hwk : wk ≤ 4) (hwd : wd ≤ 50) (hw : w < wk) (hP0 : 0 < g → 0 < P) (hdy : ∀ k, k < g → dyr k = dy k) (hsc : scR c nw wk) (hpos : nw (3 * w + 2) = nI pos) (hpk : posOk g pos) : CV l G (tys3 cI cC cZ) yX7_direct cX7_direct 4 ({ frames := 3, cells := 0, slots := 0, locals := 68 }) [.ref qs, .ref q, .int (nI w), .int v] [(qs, .inr (7, [.ref qsc])), (qsc, .inl (cI, 18, .inl c)), (q, .inr (5, [.int (nI P), .int gr, .int (nI wd), .int (nI g), .int (nI wk), .int fr, .ref qd, .ref qh, .ref qp])), (qd, .inl (cI, 8, .inl dyr))] (S := (Nat → Int32)) (fun (u : (Nat → Int32)) => scR u (goN (fun k9 t9 => yG P (dy k9) gr t9) nw w v) wk) (fun (u : (Nat → Int32)) => [(qs, .inr (7, [.ref qsc])), (qsc, .inl (cI, 18, .inl u)), (q, .inr (5, [.int (nI P), .int gr, .int (nI wd), .int (nI g), .int (nI wk), .int fr, .ref qd, .ref qh, .ref qp])), (qd, .inl (cI, 8, .inl dyr))]) := by
  refine CV.intro (by decide) (Nat.le_of_ble_eq_true rfl) ?_
  intro p0 e0 s0 m0 ar0 be0 me0 c0 A0 X hr
  have hpl := posOk_lt hg hpk
  obtain ⟨q2, q3, q4, q5⟩ := scR_q hsc hw hpos hpl
  have hpf := posF_of hpos hpl
  by_cases hp : pos < 100
  · skip
    have k2 := q2.trans (hsN_t hp)
    have k3 := q3.trans (gpN_t hp)
    have hpg : pos ≤ g := by rcases hpk with z9 | z9 <;> omega
    refine J_aload_n (pc := 0) X 0 dX7_direct_0 rfl ?_
    refine J_iload_n (pc := 1) X 2 dX7_direct_1 rfl ?_
    refine J_callR (pc := 2) (As := [.int (nI w)]) (rest := []) X mtX7_isInGap g543 [0, 1] 0 (kX7_isInGap l G cI cC cZ qs qsc c w (by first | assumption | omega)) ⟨Nat.le_of_ble_eq_true rfl, Nat.le_of_ble_eq_true rfl⟩ rfl rfl rfl (by decide) rfl rfl rfl rfl rfl (Nat.le_of_ble_eq_true rfl) (Nat.zero_le _) (Nat.zero_le _) dX7_direct_2 (fun r_1 u_2 w_3 => ?_)
    try dsimp only at w_3
    subst w_3
    refine J_top (y := (0 : Int32)) (bI_f (fun z9 => z9 k3)) ?_
    refine J_if_eq (pc := 5) X 46 dX7_direct_5 (by decide) (fun c_4 => ?_) (fun c_4 => ?_)
    · have c_4 : 0 = 0 := n_eq_of (a := 0) (b := 0) (by omega) (by omega) c_4
      refine J_aload_n (pc := 46) X 0 dX7_direct_46 rfl ?_
      refine J_iload_n (pc := 47) X 2 dX7_direct_47 rfl ?_
      refine J_iconst (pc := 48) X 3 dX7_direct_48 (by decide) ?_
      refine J_iload_n (pc := 49) X 3 dX7_direct_49 rfl ?_
      refine J_callV (pc := 50) (As := [.int (nI w), .int 3, .int v]) (rest := []) X mtX7_set g407 [0, 1] [2, 3] [2, 3, 0, 1] 0 (fun u => [(qs, .inr (7, [.ref qsc])), (qsc, .inl (cI, 18, .inl (upd c (4 * w + 3 + 2) v))), (q, .inr (5, [.int (nI P), .int gr, .int (nI wd), .int (nI g), .int (nI wk), .int fr, .ref qd, .ref qh, .ref qp])), (qd, .inl (cI, 8, .inl dyr))]) (kX7_set l G cI cC cZ qs qsc c w 3 v (by first | assumption | omega) (by first | assumption | omega)) ⟨Nat.le_of_ble_eq_true rfl, Nat.le_of_ble_eq_true rfl⟩ rfl rfl rfl (by decide) (wr := [(q, .inr (5, [.int (nI P), .int gr, .int (nI wd), .int (nI g), .int (nI wk), .int fr, .ref qd, .ref qh, .ref qp])), (qd, .inl (cI, 8, .inl dyr))]) rfl (by decide) (by decide) (fun _ => rfl) (by decide) rfl rfl rfl rfl rfl (Nat.le_of_ble_eq_true rfl) (Nat.zero_le _) (Nat.zero_le _) dX7_direct_50 (fun u_6 w_7 => ?_)
      try dsimp only at w_7
      refine J_vret (pc := 53) X hr (upd c (4 * w + 3 + 2) v) dX7_direct_53 ?_ rfl
      rw [← goN_a (F := (fun k9 t9 => yG P (dy k9) gr t9)) hpf (fun ⟨z1, z2⟩ => by first | omega | exact z2 (Eq.symm (by assumption)))]
      exact di_way hsc hw
    · have c_4 : ¬ 0 = 0 := n_ne_of (a := 0) (b := 0) (by omega) (by omega) c_4
      exfalso; omega
  · skip
    have k2 := q2.trans (hsN_f hp)
    have k3 := q3.trans (gpN_f hp)
    have hpg : 100 ≤ pos ∧ pos < 100 + g := by rcases hpk with z9 | z9 <;> omega
    refine J_aload_n (pc := 0) X 0 dX7_direct_0 rfl ?_
    refine J_iload_n (pc := 1) X 2 dX7_direct_1 rfl ?_
    refine J_callR (pc := 2) (As := [.int (nI w)]) (rest := []) X mtX7_isInGap g543 [0, 1] 0 (kX7_isInGap l G cI cC cZ qs qsc c w (by first | assumption | omega)) ⟨Nat.le_of_ble_eq_true rfl, Nat.le_of_ble_eq_true rfl⟩ rfl rfl rfl (by decide) rfl rfl rfl rfl rfl (Nat.le_of_ble_eq_true rfl) (Nat.zero_le _) (Nat.zero_le _) dX7_direct_2 (fun r_8 u_9 w_10 => ?_)
    try dsimp only at w_10
    subst w_10
    refine J_top (y := (1 : Int32)) (bI_t (by rw [k3]; exact nI_ne_m1 (by omega))) ?_
    refine J_if_eq (pc := 5) X 46 dX7_direct_5 (by decide) (fun c_11 => ?_) (fun c_11 => ?_)
    · have c_11 : 1 = 0 := n_eq_of (a := 1) (b := 0) (by omega) (by omega) c_11
      exfalso; omega
    · have c_11 : ¬ 1 = 0 := n_ne_of (a := 1) (b := 0) (by omega) (by omega) c_11
      refine J_iload_n (pc := 8) X 3 dX7_direct_8 rfl ?_
      refine J_aload_n (pc := 9) X 0 dX7_direct_9 rfl ?_
      refine J_iload_n (pc := 10) X 2 dX7_direct_10 rfl ?_
      refine J_callR (pc := 11) (As := [.int (nI w)]) (rest := [.int v]) X mtX7_wayOf g558 [0, 1] 0 (kX7_wayOf l G cI cC cZ qs qsc c w (by first | assumption | omega)) ⟨Nat.le_of_ble_eq_true rfl, Nat.le_of_ble_eq_true rfl⟩ rfl rfl rfl (by decide) rfl rfl rfl rfl rfl (Nat.le_of_ble_eq_true rfl) (Nat.zero_le _) (Nat.zero_le _) dX7_direct_11 (fun r_12 u_13 w_14 => ?_)
      try dsimp only at w_14
      subst w_14
      refine J_top (y := nw (3 * w + 4)) q5 ?_
      refine J_icmp_eq (pc := 14) X 46 dX7_direct_14 (by decide) (fun c_15 => ?_) (fun c_15 => ?_)
      · skip
        refine J_aload_n (pc := 46) X 0 dX7_direct_46 rfl ?_
        refine J_iload_n (pc := 47) X 2 dX7_direct_47 rfl ?_
        refine J_iconst (pc := 48) X 3 dX7_direct_48 (by decide) ?_
        refine J_iload_n (pc := 49) X 3 dX7_direct_49 rfl ?_
        refine J_callV (pc := 50) (As := [.int (nI w), .int 3, .int v]) (rest := []) X mtX7_set g407 [0, 1] [2, 3] [2, 3, 0, 1] 0 (fun u => [(qs, .inr (7, [.ref qsc])), (qsc, .inl (cI, 18, .inl (upd c (4 * w + 3 + 2) v))), (q, .inr (5, [.int (nI P), .int gr, .int (nI wd), .int (nI g), .int (nI wk), .int fr, .ref qd, .ref qh, .ref qp])), (qd, .inl (cI, 8, .inl dyr))]) (kX7_set l G cI cC cZ qs qsc c w 3 v (by first | assumption | omega) (by first | assumption | omega)) ⟨Nat.le_of_ble_eq_true rfl, Nat.le_of_ble_eq_true rfl⟩ rfl rfl rfl (by decide) (wr := [(q, .inr (5, [.int (nI P), .int gr, .int (nI wd), .int (nI g), .int (nI wk), .int fr, .ref qd, .ref qh, .ref qp])), (qd, .inl (cI, 8, .inl dyr))]) rfl (by decide) (by decide) (fun _ => rfl) (by decide) rfl rfl rfl rfl rfl (Nat.le_of_ble_eq_true rfl) (Nat.zero_le _) (Nat.zero_le _) dX7_direct_50 (fun u_17 w_18 => ?_)
        try dsimp only at w_18
        refine J_vret (pc := 53) X hr (upd c (4 * w + 3 + 2) v) dX7_direct_53 ?_ rfl
        rw [← goN_a (F := (fun k9 t9 => yG P (dy k9) gr t9)) hpf (fun ⟨z1, z2⟩ => by first | omega | exact z2 (Eq.symm (by assumption)))]
        exact di_way hsc hw
      · skip
        refine J_aload_n (pc := 17) X 0 dX7_direct_17 rfl ?_
        refine J_iload_n (pc := 18) X 2 dX7_direct_18 rfl ?_
        refine J_iconst (pc := 19) X 2 dX7_direct_19 (by decide) ?_
        refine J_iconst (pc := 20) X 0 dX7_direct_20 (by decide) ?_
        refine J_aload_n (pc := 21) X 1 dX7_direct_21 rfl ?_
        refine J_aload_n (pc := 22) X 0 dX7_direct_22 rfl ?_
        refine J_iload_n (pc := 23) X 2 dX7_direct_23 rfl ?_
        refine J_callR (pc := 24) (As := [.int (nI w)]) (rest := [.ref q, .int 0, .int 2, .int (nI w), .ref qs]) X mtX7_gapOf g554 [0, 1] 0 (kX7_gapOf l G cI cC cZ qs qsc c w (by first | assumption | omega)) ⟨Nat.le_of_ble_eq_true rfl, Nat.le_of_ble_eq_true rfl⟩ rfl rfl rfl (by decide) rfl rfl rfl rfl rfl (Nat.le_of_ble_eq_true rfl) (Nat.zero_le _) (Nat.zero_le _) dX7_direct_24 (fun r_19 u_20 w_21 => ?_)
        try dsimp only at w_21
        subst w_21
        refine J_top (y := nI (pos - 100)) k3 ?_
        refine J_aload_n (pc := 27) X 0 dX7_direct_27 rfl ?_
        refine J_callR (pc := 28) (As := []) (rest := [.int (nI (pos - 100)), .ref q, .int 0, .int 2, .int (nI w), .ref qs]) X mtX7_clock g548 [0, 1] 0 (kX7_clock l G cI cC cZ qs qsc c ) ⟨Nat.le_of_ble_eq_true rfl, Nat.le_of_ble_eq_true rfl⟩ rfl rfl rfl (by decide) rfl rfl rfl rfl rfl (Nat.le_of_ble_eq_true rfl) (Nat.zero_le _) (Nat.zero_le _) dX7_direct_28 (fun r_22 u_23 w_24 => ?_)
        try dsimp only at w_24
        subst w_24
        refine J_top (y := nw 0) hsc.1 ?_
        refine J_callR (pc := 31) (As := [.int (nI (pos - 100)), .int (nw 0)]) (rest := [.int 0, .int 2, .int (nI w), .ref qs]) X mtX5_yardsAt g555 [2, 3] 0 (kX5_yardsAt l G cI cC cZ q qd qh qp P gr wd g wk fr dyr (pos - 100) (nw 0) dy (by first | assumption | omega) (by first | assumption | omega) (by first | assumption | omega) (by first | assumption | omega) (by first | assumption | omega) (by first | assumption | omega) (by first | assumption | omega)) ⟨Nat.le_of_ble_eq_true rfl, Nat.le_of_ble_eq_true rfl⟩ rfl rfl rfl (by decide) rfl rfl rfl rfl rfl (Nat.le_of_ble_eq_true rfl) (Nat.zero_le _) (Nat.zero_le _) dX7_direct_31 (fun r_25 u_26 w_27 => ?_)
        try dsimp only at w_27
        subst w_27
        refine J_aload_n (pc := 34) X 0 dX7_direct_34 rfl ?_
        refine J_iload_n (pc := 35) X 2 dX7_direct_35 rfl ?_
        refine J_callR (pc := 36) (As := [.int (nI w)]) (rest := [.int (yG P (dy (pos - 100)) gr (nw 0)), .int 0, .int 2, .int (nI w), .ref qs]) X mtX7_yardsOf g556 [0, 1] 0 (kX7_yardsOf l G cI cC cZ qs qsc c w (by first | assumption | omega)) ⟨Nat.le_of_ble_eq_true rfl, Nat.le_of_ble_eq_true rfl⟩ rfl rfl rfl (by decide) rfl rfl rfl rfl rfl (Nat.le_of_ble_eq_true rfl) (Nat.zero_le _) (Nat.zero_le _) dX7_direct_36 (fun r_28 u_29 w_30 => ?_)
        try dsimp only at w_30
        subst w_30
        refine J_top (y := nw (3 * w + 3)) q4 ?_
        refine J_isub (pc := 39) X dX7_direct_39 ?_
        refine J_mmax (pc := 40) X g584 g193 g70 g194 (Nat.le_of_ble_eq_true rfl) (Nat.le_of_ble_eq_true rfl) (Nat.zero_le _) (Nat.zero_le _) dX7_direct_40 ?_
        refine J_callV (pc := 43) (As := [.int (nI w), .int 2, .int (if 0 < ((yG P (dy (pos - 100)) gr (nw 0)) - (nw (3 * w + 3))) then ((yG P (dy (pos - 100)) gr (nw 0)) - (nw (3 * w + 3))) else 0)]) (rest := []) X mtX7_set g407 [0, 1] [2, 3] [2, 3, 0, 1] 0 (fun u => [(qs, .inr (7, [.ref qsc])), (qsc, .inl (cI, 18, .inl (upd c (4 * w + 2 + 2) (if 0 < ((yG P (dy (pos - 100)) gr (nw 0)) - (nw (3 * w + 3))) then ((yG P (dy (pos - 100)) gr (nw 0)) - (nw (3 * w + 3))) else 0)))), (q, .inr (5, [.int (nI P), .int gr, .int (nI wd), .int (nI g), .int (nI wk), .int fr, .ref qd, .ref qh, .ref qp])), (qd, .inl (cI, 8, .inl dyr))]) (kX7_set l G cI cC cZ qs qsc c w 2 (if 0 < ((yG P (dy (pos - 100)) gr (nw 0)) - (nw (3 * w + 3))) then ((yG P (dy (pos - 100)) gr (nw 0)) - (nw (3 * w + 3))) else 0) (by first | assumption | omega) (by first | assumption | omega)) ⟨Nat.le_of_ble_eq_true rfl, Nat.le_of_ble_eq_true rfl⟩ rfl rfl rfl (by decide) (wr := [(q, .inr (5, [.int (nI P), .int gr, .int (nI wd), .int (nI g), .int (nI wk), .int fr, .ref qd, .ref qh, .ref qp])), (qd, .inl (cI, 8, .inl dyr))]) rfl (by decide) (by decide) (fun _ => rfl) (by decide) rfl rfl rfl rfl rfl (Nat.le_of_ble_eq_true rfl) (Nat.zero_le _) (Nat.zero_le _) dX7_direct_43 (fun u_32 w_33 => ?_)
        try dsimp only at w_33
        refine J_aload_n (pc := 46) X 0 dX7_direct_46 rfl ?_
        refine J_iload_n (pc := 47) X 2 dX7_direct_47 rfl ?_
        refine J_iconst (pc := 48) X 3 dX7_direct_48 (by decide) ?_
        refine J_iload_n (pc := 49) X 3 dX7_direct_49 rfl ?_
        refine J_callV (pc := 50) (As := [.int (nI w), .int 3, .int v]) (rest := []) X mtX7_set g407 [0, 1] [2, 3] [2, 3, 0, 1] 0 (fun u => [(qs, .inr (7, [.ref qsc])), (qsc, .inl (cI, 18, .inl (upd (upd c (4 * w + 2 + 2) (if 0 < ((yG P (dy (pos - 100)) gr (nw 0)) - (nw (3 * w + 3))) then ((yG P (dy (pos - 100)) gr (nw 0)) - (nw (3 * w + 3))) else 0)) (4 * w + 3 + 2) v))), (q, .inr (5, [.int (nI P), .int gr, .int (nI wd), .int (nI g), .int (nI wk), .int fr, .ref qd, .ref qh, .ref qp])), (qd, .inl (cI, 8, .inl dyr))]) (kX7_set l G cI cC cZ qs qsc (upd c (4 * w + 2 + 2) (if 0 < ((yG P (dy (pos - 100)) gr (nw 0)) - (nw (3 * w + 3))) then ((yG P (dy (pos - 100)) gr (nw 0)) - (nw (3 * w + 3))) else 0)) w 3 v (by first | assumption | omega) (by first | assumption | omega)) ⟨Nat.le_of_ble_eq_true rfl, Nat.le_of_ble_eq_true rfl⟩ rfl rfl rfl (by decide) (wr := [(q, .inr (5, [.int (nI P), .int gr, .int (nI wd), .int (nI g), .int (nI wk), .int fr, .ref qd, .ref qh, .ref qp])), (qd, .inl (cI, 8, .inl dyr))]) rfl (by decide) (by decide) (fun _ => rfl) (by decide) rfl rfl rfl rfl rfl (Nat.le_of_ble_eq_true rfl) (Nat.zero_le _) (Nat.zero_le _) dX7_direct_50 (fun u_35 w_36 => ?_)
        try dsimp only at w_36
        refine J_vret (pc := 53) X hr (upd (upd c (4 * w + 2 + 2) (if 0 < ((yG P (dy (pos - 100)) gr (nw 0)) - (nw (3 * w + 3))) then ((yG P (dy (pos - 100)) gr (nw 0)) - (nw (3 * w + 3))) else 0)) (4 * w + 3 + 2) v) dX7_direct_53 ?_ rfl
        have e9 := goN_b (F := (fun k9 t9 => yG P (dy k9) gr t9)) (way := v) hpf ⟨by omega, fun z9 => absurd z9.symm (by assumption)⟩ (max_alt _)
        rw [← e9]
        exact di_turn hsc hw
set_option maxRecDepth 100000 in
set_option maxHeartbeats 600000 in
theorem kX7_begin (l : Launch) (G : va_G) (cI cC cZ : ClassId) (qs : Nat) (qsc : Nat) (c : Nat → Int32) (q : Nat) (qd : Nat) (qh : Nat) (qp : Nat) (P : Nat) (gr : Int32) (wd : Nat) (g : Nat) (wk : Nat) (fr : Int32) (hor : Nat → Int32) (hPl : P ≤ 60) (hg : g ≤ 8) (hwk : wk ≤ 4) (hwd : wd ≤ 50) : CV l G (tys3 cI cC cZ) yX7_begin cX7_begin 3 ({ frames := 2, cells := 0, slots := 0, locals := 46 }) [.ref qs, .ref q] [(qs, .inr (7, [.ref qsc])), (qsc, .inl (cI, 18, .inl c)), (q, .inr (5, [.int (nI P), .int gr, .int (nI wd), .int (nI g), .int (nI wk), .int fr, .ref qd, .ref qh, .ref qp])), (qh, .inl (cI, 4, .inl hor))] (S := (Nat → Int32)) (fun (u : (Nat → Int32)) => bgI u hor wk fr 4) (fun (u : (Nat → Int32)) => [(qs, .inr (7, [.ref qsc])), (qsc, .inl (cI, 18, .inl u)), (q, .inr (5, [.int (nI P), .int gr, .int (nI wd), .int (nI g), .int (nI wk), .int fr, .ref qd, .ref qh, .ref qp])), (qh, .inl (cI, 4, .inl hor))]) := by
  refine CV.intro (by decide) (Nat.le_of_ble_eq_true rfl) ?_
  intro p0 e0 s0 m0 ar0 be0 me0 c0 A0 X hr
  refine J_aload_n (pc := 0) X 0 dX7_begin_0 rfl ?_
  refine J_get (pc := 1) X clX7 0 0 rfl (by decide) g149 rfl dX7_begin_1 ?_
  refine J_iconst (pc := 4) X 0 dX7_begin_4 (by decide) ?_
  refine J_iconst (pc := 5) X 0 dX7_begin_5 (by decide) ?_
  refine J_iast (pc := 6) X 1 0 0 [(qs, .inr (7, [.ref qsc])), (qsc, .inl (cI, 18, .inl (upd c 0 0))), (q, .inr (5, [.int (nI P), .int gr, .int (nI wd), .int (nI g), .int (nI wk), .int fr, .ref qd, .ref qh, .ref qp])), (qh, .inl (cI, 4, .inl hor))] rfl rfl rfl (by decide) (by decide) rfl dX7_begin_6 ?_
  refine J_aload_n (pc := 7) X 0 dX7_begin_7 rfl ?_
  refine J_get (pc := 8) X clX7 0 0 rfl (by decide) g149 rfl dX7_begin_8 ?_
  refine J_iconst (pc := 11) X 1 dX7_begin_11 (by decide) ?_
  refine J_aload_n (pc := 12) X 1 dX7_begin_12 rfl ?_
  refine J_callR (pc := 13) (As := []) (rest := [.int 1, .ref qsc]) X mtX5_ropesAtFirst g398 [2] 0 (kX5_ropesAtFirst l G cI cC cZ q qd qh qp P gr wd g wk fr ) ⟨Nat.le_of_ble_eq_true rfl, Nat.le_of_ble_eq_true rfl⟩ rfl rfl rfl (by decide) rfl rfl rfl rfl rfl (Nat.le_of_ble_eq_true rfl) (Nat.zero_le _) (Nat.zero_le _) dX7_begin_13 (fun r_1 u_2 w_3 => ?_)
  try dsimp only at w_3
  have w_3 := w_3.symm; subst w_3
  refine J_iast (pc := 16) X 1 0 1 [(qs, .inr (7, [.ref qsc])), (qsc, .inl (cI, 18, .inl (upd (upd c 0 0) 1 fr))), (q, .inr (5, [.int (nI P), .int gr, .int (nI wd), .int (nI g), .int (nI wk), .int fr, .ref qd, .ref qh, .ref qp])), (qh, .inl (cI, 4, .inl hor))] rfl rfl rfl (by decide) (by decide) rfl dX7_begin_16 ?_
  refine J_iconst (pc := 17) X 0 dX7_begin_17 (by decide) ?_
  refine J_istore_n (pc := 18) X [(2, .int 0), (0, .ref qs), (1, .ref q)] dX7_begin_18 (by decide) rfl ?_
  have L_19 : ∀ (n_19 : Nat) (i : Nat) (cc_ : Nat → Int32) (hi : i ≤ 4) (hbg : bgI cc_ hor wk fr i), (4 - i) < n_19 → JJ p0 l e0 ({ frames := 2, cells := 0, slots := 0, locals := 46 }) s0 m0 ar0 be0 me0 c0 A0 G 3 0 0 (QV be0 ar0 s0 A0 G (tys3 cI cC cZ) (S := (Nat → Int32)) (fun (u : (Nat → Int32)) => bgI u hor wk fr 4) (fun (u : (Nat → Int32)) => [(qs, .inr (7, [.ref qsc])), (qsc, .inl (cI, 18, .inl u)), (q, .inr (5, [.int (nI P), .int gr, .int (nI wd), .int (nI g), .int (nI wk), .int fr, .ref qd, .ref qh, .ref qp])), (qh, .inl (cI, 4, .inl hor))])) [(qs, .inr (7, [.ref qsc])), (qsc, .inl (cI, 18, .inl cc_)), (q, .inr (5, [.int (nI P), .int gr, .int (nI wd), .int (nI g), .int (nI wk), .int fr, .ref qd, .ref qh, .ref qp])), (qh, .inl (cI, 4, .inl hor))] 19 [(0, .ref qs), (1, .ref q), (2, .int (nI i))] [] := by
    intro n_19
    induction n_19 with
    | zero => intro i cc_ hi hbg hm_19; exact absurd hm_19 (Nat.not_lt_zero _)
    | succ n_19 ih_19 =>
      intro i cc_ hi hbg hm_19
      refine J_iload_n (pc := 19) X 2 dX7_begin_19 rfl ?_
      refine J_iconst (pc := 20) X 4 dX7_begin_20 (by decide) ?_
      refine J_icmp_ge (pc := 21) X 47 dX7_begin_21 (by decide) (fun c_4 => ?_) (fun c_4 => ?_)
      · have c_4 : 4 ≤ i := n_le_of (a := 4) (b := i) (by omega) (by omega) c_4
        refine J_vret (pc := 47) X hr cc_ dX7_begin_47 ?_ rfl
        exact bg_end (by rw [← show i = 4 from by omega]; exact hbg)
      · have c_4 : i < 4 := n_nle_of (a := 4) (b := i) (by omega) (by omega) c_4
        refine J_aload_n (pc := 24) X 0 dX7_begin_24 rfl ?_
        refine J_iload_n (pc := 25) X 2 dX7_begin_25 rfl ?_
        refine J_aload_n (pc := 26) X 1 dX7_begin_26 rfl ?_
        refine J_iload_n (pc := 27) X 2 dX7_begin_27 rfl ?_
        refine J_callR (pc := 28) (As := [.int (nI i)]) (rest := [.int (nI i), .ref qs]) X mtX5_homeOf g399 [2, 3] 0 (kX5_homeOf l G cI cC cZ q qd qh qp P gr wd g wk fr hor i (by first | assumption | omega) (by first | assumption | omega) (by first | assumption | omega) (by first | assumption | omega) (by first | assumption | omega)) ⟨Nat.le_of_ble_eq_true rfl, Nat.le_of_ble_eq_true rfl⟩ rfl rfl rfl (by decide) rfl rfl rfl rfl rfl (Nat.le_of_ble_eq_true rfl) (Nat.zero_le _) (Nat.zero_le _) dX7_begin_28 (fun r_5 u_6 w_7 => ?_)
        try dsimp only at w_7
        subst w_7
        refine J_callV (pc := 31) (As := [.int (nI i), .int (if i < wk then hor i else 0)]) (rest := []) X mtX7_stand g403 [0, 1] [2, 3] [2, 3, 0, 1] 0 (fun u => [(qs, .inr (7, [.ref qsc])), (qsc, .inl (cI, 18, .inl (upd (upd (upd cc_ (4 * i + 0 + 2) (if i < wk then hor i else 0)) (4 * i + 1 + 2) (-1)) (4 * i + 2 + 2) 0))), (q, .inr (5, [.int (nI P), .int gr, .int (nI wd), .int (nI g), .int (nI wk), .int fr, .ref qd, .ref qh, .ref qp])), (qh, .inl (cI, 4, .inl hor))]) (kX7_stand l G cI cC cZ qs qsc cc_ i (if i < wk then hor i else 0) (by first | assumption | omega)) ⟨Nat.le_of_ble_eq_true rfl, Nat.le_of_ble_eq_true rfl⟩ rfl rfl rfl (by decide) (wr := [(q, .inr (5, [.int (nI P), .int gr, .int (nI wd), .int (nI g), .int (nI wk), .int fr, .ref qd, .ref qh, .ref qp])), (qh, .inl (cI, 4, .inl hor))]) rfl (by decide) (by decide) (fun _ => rfl) (by decide) rfl rfl rfl rfl rfl (Nat.le_of_ble_eq_true rfl) (Nat.zero_le _) (Nat.zero_le _) dX7_begin_31 (fun u_9 w_10 => ?_)
        try dsimp only at w_10
        refine J_aload_n (pc := 34) X 0 dX7_begin_34 rfl ?_
        refine J_iload_n (pc := 35) X 2 dX7_begin_35 rfl ?_
        refine J_iconst (pc := 36) X 3 dX7_begin_36 (by decide) ?_
        refine J_iconst (pc := 37) X 1 dX7_begin_37 (by decide) ?_
        refine J_callV (pc := 38) (As := [.int (nI i), .int 3, .int 1]) (rest := []) X mtX7_set g407 [0, 1] [2, 3] [2, 3, 0, 1] 0 (fun u => [(qs, .inr (7, [.ref qsc])), (qsc, .inl (cI, 18, .inl (upd (upd (upd (upd cc_ (4 * i + 0 + 2) (if i < wk then hor i else 0)) (4 * i + 1 + 2) (-1)) (4 * i + 2 + 2) 0) (4 * i + 3 + 2) 1))), (q, .inr (5, [.int (nI P), .int gr, .int (nI wd), .int (nI g), .int (nI wk), .int fr, .ref qd, .ref qh, .ref qp])), (qh, .inl (cI, 4, .inl hor))]) (kX7_set l G cI cC cZ qs qsc (upd (upd (upd cc_ (4 * i + 0 + 2) (if i < wk then hor i else 0)) (4 * i + 1 + 2) (-1)) (4 * i + 2 + 2) 0) i 3 1 (by first | assumption | omega) (by first | assumption | omega)) ⟨Nat.le_of_ble_eq_true rfl, Nat.le_of_ble_eq_true rfl⟩ rfl rfl rfl (by decide) (wr := [(q, .inr (5, [.int (nI P), .int gr, .int (nI wd), .int (nI g), .int (nI wk), .int fr, .ref qd, .ref qh, .ref qp])), (qh, .inl (cI, 4, .inl hor))]) rfl (by decide) (by decide) (fun _ => rfl) (by decide) rfl rfl rfl rfl rfl (Nat.le_of_ble_eq_true rfl) (Nat.zero_le _) (Nat.zero_le _) dX7_begin_38 (fun u_12 w_13 => ?_)
        try dsimp only at w_13
        refine J_iinc (pc := 41) X (nI (i + 1)) 2 [(2, .int (nI (i + 1))), (0, .ref qs), (1, .ref q)] dX7_begin_41 rfl (n_add (x := i) (y := 1) rfl rfl (by omega)) (by decide) rfl ?_
        refine J_goto (pc := 44) X 19 dX7_begin_44 (by decide) ?_
        refine J_loc [1, 2, 0] (lv2 := [(0, .ref qs), (1, .ref q), (2, .int (nI (i + 1)))]) rfl ?_
        exact ih_19  (i + 1) (upd (upd (upd (upd cc_ (4 * i + 0 + 2) (if i < wk then hor i else 0)) (4 * i + 1 + 2) (-1)) (4 * i + 2 + 2) 0) (4 * i + 3 + 2) 1) (by first | assumption | omega | simp_all) (bg_step hbg (by omega)) (by omega)
  refine J_loc [1, 2, 0] (lv2 := [(0, .ref qs), (1, .ref q), (2, .int 0)]) rfl ?_
  exact L_19 _  0 (upd (upd c 0 0) 1 fr) (by first | assumption | omega | simp_all) bg_0 (Nat.lt_succ_self _)
