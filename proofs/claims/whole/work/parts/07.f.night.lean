set_option maxRecDepth 100000 in
set_option maxHeartbeats 600000 in
theorem kX9_minute (l : Launch) (G : va_G) (cI cC cZ : ClassId) (qx : Nat) (q : Nat) (qq : Nat) (qr : Nat) (qs : Nat) (qt : Nat) (qpa : Nat) (qi : Nat) (ql : Nat) (qb : Nat) (qg : Nat) (qw : Nat) (qn : Nat) (qd : Nat) (qh : Nat) (qp : Nat) (P : Nat) (gr : Int32) (wd : Nat) (g : Nat) (wk : Nat) (fr : Int32) (dyr : Nat → Int32) (par_ : Nat → Int32) (qsc : Nat) (c : Nat → Int32) (qpr : Nat) (o : Nat) (dn : Nat) (rw_ : Nat → Int32) (nw : Nat → Int32) (ps : Nat → Int32) (dy : Nat → Int32) (pa : Nat → Int32) (n : Int32) (hPl : P ≤ 60) (hg : g ≤ 8) (hwk : wk ≤ 4) (hwd : wd ≤ 50) (hP0 : 0 < g → 0 < P) (hdy : ∀ k, k < g → dyr k = dy k) (hpa : ∀ k, k < wk → par_ k = pa k) (hsc : scR c nw wk) (hok : okS g wk nw) (ho : o < 30) (hdn : dn ≤ 30) (hpr : paR rw_ o dn ps wk) : CI l G (tys3 cI cC cZ) yX9_minute cX9_minute 4 (some .int) ({ frames := 5, cells := 0, slots := 0, locals := 115 }) [.ref qx, .int n] [(qx, .inr (9, [.ref q, .ref qq, .ref qr, .ref qs, .ref qt, .ref qpa, .ref qi, .ref ql, .ref qb, .ref qg, .ref qw, .ref qn])), (q, .inr (5, [.int (nI P), .int gr, .int (nI wd), .int (nI g), .int (nI wk), .int fr, .ref qd, .ref qh, .ref qp])), (qd, .inl (cI, 8, .inl dyr)), (qp, .inl (cI, 4, .inl par_)), (qs, .inr (7, [.ref qsc])), (qsc, .inl (cI, 18, .inl c)), (qpa, .inr (4, [.ref qpr, .int (nI o), .int (nI dn)])), (qpr, .inl (cI, 540, .inl rw_))] (S := (Nat → Int32) × Nat × Nat × (Nat → Int32)) (fun (r : Int32) (u : (Nat → Int32) × Nat × Nat × (Nat → Int32)) => r = (if barP n P (nw 0) = 0 then (minS g (fun k9 t9 => yG P (dy k9) gr t9) pa wk P n (nw, dn, ps)).1 0 else barP n P (nw 0)) ∧ scR u.1 (minS g (fun k9 t9 => yG P (dy k9) gr t9) pa wk P n (nw, dn, ps)).1 wk ∧ u.2.2.1 = (minS g (fun k9 t9 => yG P (dy k9) gr t9) pa wk P n (nw, dn, ps)).2.1 ∧ paR u.2.2.2 u.2.1 u.2.2.1 (minS g (fun k9 t9 => yG P (dy k9) gr t9) pa wk P n (nw, dn, ps)).2.2 wk ∧ u.2.1 < 30 ∧ u.2.2.1 ≤ 30 ∧ okS g wk (minS g (fun k9 t9 => yG P (dy k9) gr t9) pa wk P n (nw, dn, ps)).1) (fun (u : (Nat → Int32) × Nat × Nat × (Nat → Int32)) => [(qx, .inr (9, [.ref q, .ref qq, .ref qr, .ref qs, .ref qt, .ref qpa, .ref qi, .ref ql, .ref qb, .ref qg, .ref qw, .ref qn])), (q, .inr (5, [.int (nI P), .int gr, .int (nI wd), .int (nI g), .int (nI wk), .int fr, .ref qd, .ref qh, .ref qp])), (qd, .inl (cI, 8, .inl dyr)), (qp, .inl (cI, 4, .inl par_)), (qs, .inr (7, [.ref qsc])), (qsc, .inl (cI, 18, .inl u.1)), (qpa, .inr (4, [.ref qpr, .int (nI u.2.1), .int (nI u.2.2.1)])), (qpr, .inl (cI, 540, .inl u.2.2.2))]) := by
  refine CI.intro (by decide) (Nat.le_of_ble_eq_true rfl) ?_
  intro p0 e0 s0 m0 ar0 be0 me0 c0 A0 X hr
  refine J_aload_n (pc := 0) X 0 dX9_minute_0 rfl ?_
  refine J_iload_n (pc := 1) X 1 dX9_minute_1 rfl ?_
  refine J_callR (pc := 2) (As := [.int n]) (rest := []) X mtX9_refusalOfMinutes g597 [0, 1, 4, 5] 0 (kX9_refusalOfMinutes l G cI cC cZ qx q qq qr qs qt qpa qi ql qb qg qw qn qd qh qp P gr wd g wk fr qsc c nw n (by first | assumption | omega) (by first | assumption | omega) (by first | assumption | omega) (by first | assumption | omega) (by first | assumption | omega)) ⟨Nat.le_of_ble_eq_true rfl, Nat.le_of_ble_eq_true rfl⟩ rfl rfl rfl (by decide) rfl rfl rfl rfl rfl (Nat.le_of_ble_eq_true rfl) (Nat.zero_le _) (Nat.zero_le _) dX9_minute_2 (fun r_1 u_2 w_3 => ?_)
  try dsimp only at w_3
  subst w_3
  refine J_istore_n (pc := 5) X [(2, .int (barP n P (nw 0))), (0, .ref qx), (1, .int n)] dX9_minute_5 (by decide) rfl ?_
  by_cases hb : barP n P (nw 0) = 0
  · skip
    obtain ⟨⟨nn, hn1, hn2, rfl⟩, hP1⟩ := barP_ok hb
    refine J_eq (lv2 := [(2, .int 0), (0, .ref qx), (1, .int (nI nn))]) rfl (by rw [hb]) rfl ?_
    refine J_iload_n (pc := 6) X 0 dX9_minute_6 rfl ?_
    refine J_if_eq (pc := 7) X 12 dX9_minute_7 (by decide) (fun c_4 => ?_) (fun c_4 => ?_)
    · have c_4 : 0 = 0 := n_eq_of (a := 0) (b := 0) (by omega) (by omega) c_4
      refine J_iconst (pc := 12) X 0 dX9_minute_12 (by decide) ?_
      refine J_istore_n (pc := 13) X [(3, .int 0), (2, .int 0), (0, .ref qx), (1, .int (nI nn))] dX9_minute_13 (by decide) rfl ?_
      have L_14 : ∀ (n_14 : Nat) (i : Nat) (cc_ : Nat → Int32) (oc : Nat) (nc : Nat) (rwc : Nat → Int32) (nwc : Nat → Int32) (psc : Nat → Int32) (hi : i ≤ nn) (hnc9 : nc ≤ 30) (ho9 : oc < 30) (hsc9 : scR cc_ nwc wk) (hpa9 : paR rwc oc nc psc wk) (hoc9 : okS g wk nwc) (hst : (nwc, nc, psc) = itr (miS g (fun k9 t9 => yG P (dy k9) gr t9) pa wk) i (nw, dn, ps)), (nn - i) < n_14 → JJ p0 l e0 ({ frames := 5, cells := 0, slots := 0, locals := 115 }) s0 m0 ar0 be0 me0 c0 A0 G 4 0 0 (QI be0 ar0 s0 A0 G (tys3 cI cC cZ) (S := (Nat → Int32) × Nat × Nat × (Nat → Int32)) (fun (r : Int32) (u : (Nat → Int32) × Nat × Nat × (Nat → Int32)) => r = (if barP (nI nn) P (nw 0) = 0 then (minS g (fun k9 t9 => yG P (dy k9) gr t9) pa wk P (nI nn) (nw, dn, ps)).1 0 else barP (nI nn) P (nw 0)) ∧ scR u.1 (minS g (fun k9 t9 => yG P (dy k9) gr t9) pa wk P (nI nn) (nw, dn, ps)).1 wk ∧ u.2.2.1 = (minS g (fun k9 t9 => yG P (dy k9) gr t9) pa wk P (nI nn) (nw, dn, ps)).2.1 ∧ paR u.2.2.2 u.2.1 u.2.2.1 (minS g (fun k9 t9 => yG P (dy k9) gr t9) pa wk P (nI nn) (nw, dn, ps)).2.2 wk ∧ u.2.1 < 30 ∧ u.2.2.1 ≤ 30 ∧ okS g wk (minS g (fun k9 t9 => yG P (dy k9) gr t9) pa wk P (nI nn) (nw, dn, ps)).1) (fun (u : (Nat → Int32) × Nat × Nat × (Nat → Int32)) => [(qx, .inr (9, [.ref q, .ref qq, .ref qr, .ref qs, .ref qt, .ref qpa, .ref qi, .ref ql, .ref qb, .ref qg, .ref qw, .ref qn])), (q, .inr (5, [.int (nI P), .int gr, .int (nI wd), .int (nI g), .int (nI wk), .int fr, .ref qd, .ref qh, .ref qp])), (qd, .inl (cI, 8, .inl dyr)), (qp, .inl (cI, 4, .inl par_)), (qs, .inr (7, [.ref qsc])), (qsc, .inl (cI, 18, .inl u.1)), (qpa, .inr (4, [.ref qpr, .int (nI u.2.1), .int (nI u.2.2.1)])), (qpr, .inl (cI, 540, .inl u.2.2.2))])) [(qx, .inr (9, [.ref q, .ref qq, .ref qr, .ref qs, .ref qt, .ref qpa, .ref qi, .ref ql, .ref qb, .ref qg, .ref qw, .ref qn])), (q, .inr (5, [.int (nI P), .int gr, .int (nI wd), .int (nI g), .int (nI wk), .int fr, .ref qd, .ref qh, .ref qp])), (qd, .inl (cI, 8, .inl dyr)), (qp, .inl (cI, 4, .inl par_)), (qs, .inr (7, [.ref qsc])), (qsc, .inl (cI, 18, .inl cc_)), (qpa, .inr (4, [.ref qpr, .int (nI oc), .int (nI nc)])), (qpr, .inl (cI, 540, .inl rwc))] 14 [(0, .ref qx), (1, .int (nI nn)), (2, .int 0), (3, .int (nI i))] [] := by
        intro n_14
        induction n_14 with
        | zero => intro i cc_ oc nc rwc nwc psc hi hnc9 ho9 hsc9 hpa9 hoc9 hst hm_14; exact absurd hm_14 (Nat.not_lt_zero _)
        | succ n_14 ih_14 =>
          intro i cc_ oc nc rwc nwc psc hi hnc9 ho9 hsc9 hpa9 hoc9 hst hm_14
          refine J_iload_n (pc := 14) X 3 dX9_minute_14 rfl ?_
          refine J_iload_n (pc := 15) X 1 dX9_minute_15 rfl ?_
          refine J_icmp_ge (pc := 16) X 47 dX9_minute_16 (by decide) (fun c_5 => ?_) (fun c_5 => ?_)
          · have c_5 : nn ≤ i := n_le_of (a := nn) (b := i) (by omega) (by omega) c_5
            refine J_aload_n (pc := 47) X 0 dX9_minute_47 rfl ?_
            refine J_get (pc := 48) X clX9 0 3 rfl (by decide) g244 rfl dX9_minute_48 ?_
            refine J_callR (pc := 51) (As := []) (rest := []) X mtX7_clock g449 [4, 5] 0 (kX7_clock l G cI cC cZ qs qsc cc_ ) ⟨Nat.le_of_ble_eq_true rfl, Nat.le_of_ble_eq_true rfl⟩ rfl rfl rfl (by decide) rfl rfl rfl rfl rfl (Nat.le_of_ble_eq_true rfl) (Nat.zero_le _) (Nat.zero_le _) dX9_minute_51 (fun r_6 u_7 w_8 => ?_)
            try dsimp only at w_8
            subst w_8
            refine J_iret (pc := 54) X hr (cc_, oc, nc, rwc) dX9_minute_54 ?_ rfl
            have q3 : i = nn := by omega
            subst q3
            rw [minS, if_pos hb, if_pos hb, nI_clamp (by omega), ← hst]
            exact ⟨hsc9.1, hsc9, rfl, hpa9, ho9, hnc9, hoc9⟩
          · have c_5 : i < nn := n_nle_of (a := nn) (b := i) (by omega) (by omega) c_5
            refine J_aload_n (pc := 19) X 0 dX9_minute_19 rfl ?_
            refine J_get (pc := 20) X clX9 0 5 rfl (by decide) g246 rfl dX9_minute_20 ?_
            refine J_aload_n (pc := 23) X 0 dX9_minute_23 rfl ?_
            refine J_get (pc := 24) X clX9 0 3 rfl (by decide) g244 rfl dX9_minute_24 ?_
            refine J_callV (pc := 27) (As := [.ref qs]) (rest := []) X mtX4_remember g565 [6, 7, 4, 5] [0, 1, 2, 3] [0, 1, 2, 3, 6, 7, 4, 5] 0 (fun u => [(qx, .inr (9, [.ref q, .ref qq, .ref qr, .ref qs, .ref qt, .ref qpa, .ref qi, .ref ql, .ref qb, .ref qg, .ref qw, .ref qn])), (q, .inr (5, [.int (nI P), .int gr, .int (nI wd), .int (nI g), .int (nI wk), .int fr, .ref qd, .ref qh, .ref qp])), (qd, .inl (cI, 8, .inl dyr)), (qp, .inl (cI, 4, .inl par_)), (qs, .inr (7, [.ref qsc])), (qsc, .inl (cI, 18, .inl cc_)), (qpa, .inr (4, [.ref qpr, .int (nI u.1), .int (nI u.2.1)])), (qpr, .inl (cI, 540, .inl u.2.2))]) (kX4_remember l G cI cC cZ qpa qpr oc nc rwc qs qsc cc_ nwc psc wk ho9 hnc9 (by first | assumption | omega) hpa9 hsc9) ⟨Nat.le_of_ble_eq_true rfl, Nat.le_of_ble_eq_true rfl⟩ rfl rfl rfl (by decide) (wr := [(qx, .inr (9, [.ref q, .ref qq, .ref qr, .ref qs, .ref qt, .ref qpa, .ref qi, .ref ql, .ref qb, .ref qg, .ref qw, .ref qn])), (q, .inr (5, [.int (nI P), .int gr, .int (nI wd), .int (nI g), .int (nI wk), .int fr, .ref qd, .ref qh, .ref qp])), (qd, .inl (cI, 8, .inl dyr)), (qp, .inl (cI, 4, .inl par_))]) rfl (by decide) (by decide) (fun _ => rfl) (by decide) rfl rfl rfl rfl rfl (Nat.le_of_ble_eq_true rfl) (Nat.zero_le _) (Nat.zero_le _) dX9_minute_27 (fun u_10 w_11 => ?_)
            obtain ⟨oA, nA, rA⟩ := u_10
            try dsimp only at w_11
            have hrm := w_11
            refine J_aload_n (pc := 30) X 0 dX9_minute_30 rfl ?_
            refine J_get (pc := 31) X clX9 0 3 rfl (by decide) g244 rfl dX9_minute_31 ?_
            refine J_aload_n (pc := 34) X 0 dX9_minute_34 rfl ?_
            refine J_get (pc := 35) X clX9 0 0 rfl (by decide) g241 rfl dX9_minute_35 ?_
            refine J_callV (pc := 38) (As := [.ref q]) (rest := []) X mtX7_passMinute g603 [4, 5, 1, 2, 3] [0, 6, 7] [0, 5, 6, 7, 3, 4, 1, 2] 0 (fun u => [(qx, .inr (9, [.ref q, .ref qq, .ref qr, .ref qs, .ref qt, .ref qpa, .ref qi, .ref ql, .ref qb, .ref qg, .ref qw, .ref qn])), (q, .inr (5, [.int (nI P), .int gr, .int (nI wd), .int (nI g), .int (nI wk), .int fr, .ref qd, .ref qh, .ref qp])), (qd, .inl (cI, 8, .inl dyr)), (qp, .inl (cI, 4, .inl par_)), (qs, .inr (7, [.ref qsc])), (qsc, .inl (cI, 18, .inl u)), (qpa, .inr (4, [.ref qpr, .int (nI oA), .int (nI nA)])), (qpr, .inl (cI, 540, .inl rA))]) (kX7_passMinute l G cI cC cZ qs qsc cc_ q qd qh qp P gr wd g wk fr dyr par_ nwc dy pa (by first | assumption | omega) (by first | assumption | omega) (by first | assumption | omega) (by first | assumption | omega) (by first | assumption | omega) (by first | assumption | omega) (by first | assumption | omega) hsc9 hoc9) ⟨Nat.le_of_ble_eq_true rfl, Nat.le_of_ble_eq_true rfl⟩ rfl rfl rfl (by decide) (wr := [(qx, .inr (9, [.ref q, .ref qq, .ref qr, .ref qs, .ref qt, .ref qpa, .ref qi, .ref ql, .ref qb, .ref qg, .ref qw, .ref qn])), (qpa, .inr (4, [.ref qpr, .int (nI oA), .int (nI nA)])), (qpr, .inl (cI, 540, .inl rA))]) rfl (by decide) (by decide) (fun _ => rfl) (by decide) rfl rfl rfl rfl rfl (Nat.le_of_ble_eq_true rfl) (Nat.zero_le _) (Nat.zero_le _) dX9_minute_38 (fun u_13 w_14 => ?_)
            obtain ⟨cA, rfl⟩ : ∃ z, z = u_13 := ⟨_, rfl⟩
            try dsimp only at w_14
            have hpm := w_14
            refine J_iinc (pc := 41) X (nI (i + 1)) 3 [(3, .int (nI (i + 1))), (0, .ref qx), (1, .int (nI nn)), (2, .int 0)] dX9_minute_41 rfl (n_add (x := i) (y := 1) rfl rfl (by omega)) (by decide) rfl ?_
            refine J_goto (pc := 44) X 14 dX9_minute_44 (by decide) ?_
            refine J_loc [1, 2, 3, 0] (lv2 := [(0, .ref qx), (1, .int (nI nn)), (2, .int 0), (3, .int (nI (i + 1)))]) rfl ?_
            exact ih_14  (i + 1) cA oA nA rA (pm g (fun k9 t9 => yG P (dy k9) gr t9) pa wk nwc) (pushF nc nwc psc) (by first | assumption | omega | simp_all) hrm.2.2.1 hrm.2.1 hpm.1 hrm.1 hpm.2 (mi_step hst rfl hrm.2.2.2) (by omega)
      refine J_loc [2, 3, 1, 0] (lv2 := [(0, .ref qx), (1, .int (nI nn)), (2, .int 0), (3, .int 0)]) rfl ?_
      exact L_14 _  0 c o dn rw_ nw ps (by first | assumption | omega | simp_all) hdn ho hsc hpr hok rfl (Nat.lt_succ_self _)
    · have c_4 : ¬ 0 = 0 := n_ne_of (a := 0) (b := 0) (by omega) (by omega) c_4
      exfalso; omega
  · skip
    refine J_iload_n (pc := 6) X 0 dX9_minute_6 rfl ?_
    refine J_if_eq (pc := 7) X 12 dX9_minute_7 (by decide) (fun c_15 => ?_) (fun c_15 => ?_)
    · skip
      exact absurd c_15 hb
    · skip
      refine J_iload_n (pc := 10) X 0 dX9_minute_10 rfl ?_
      refine J_iret (pc := 11) X hr (c, o, dn, rw_) dX9_minute_11 ?_ rfl
      rw [if_neg hb, minS, if_neg hb]
      exact ⟨rfl, hsc, rfl, hpr, ho, hdn, hok⟩
set_option maxRecDepth 100000 in
set_option maxHeartbeats 600000 in
theorem kX9_directByDraws (l : Launch) (G : va_G) (cI cC cZ : ClassId) (qx : Nat) (q : Nat) (qq : Nat) (qr : Nat) (qs : Nat) (qt : Nat) (qpa : Nat) (qi : Nat) (ql : Nat) (qb : Nat) (qg : Nat) (qw : Nat) (qn : Nat) (qd : Nat) (qh : Nat) (qp : Nat) (P : Nat) (gr : Int32) (wd : Nat) (g : Nat) (wk : Nat) (fr : Int32) (dyr : Nat → Int32) (qsc : Nat) (c : Nat → Int32) (sd : Int32) (nw : Nat → Int32) (dy : Nat → Int32) (hPl : P ≤ 60) (hg : g ≤ 8) (hwk : wk ≤ 4) (hwd : wd ≤ 50) (hP0 : 0 < g → 0 < P) (hdy : ∀ k, k < g → dyr k = dy k) (hsc : scR c nw wk) (hok : okS g wk nw) : CV l G (tys3 cI cC cZ) yX9_directByDraws cX9_directByDraws 3 ({ frames := 4, cells := 0, slots := 0, locals := 91 }) [.ref qx] [(qx, .inr (9, [.ref q, .ref qq, .ref qr, .ref qs, .ref qt, .ref qpa, .ref qi, .ref ql, .ref qb, .ref qg, .ref qw, .ref qn])), (q, .inr (5, [.int (nI P), .int gr, .int (nI wd), .int (nI g), .int (nI wk), .int fr, .ref qd, .ref qh, .ref qp])), (qd, .inl (cI, 8, .inl dyr)), (qs, .inr (7, [.ref qsc])), (qsc, .inl (cI, 18, .inl c)), (qw, .inr (0, [.int sd]))] (S := (Nat → Int32) × Int32) (fun (u : (Nat → Int32) × Int32) => scR u.1 (dwTo nw sd wk).1 wk ∧ u.2 = (dwTo nw sd wk).2 ∧ okS g wk (dwTo nw sd wk).1) (fun (u : (Nat → Int32) × Int32) => [(qx, .inr (9, [.ref q, .ref qq, .ref qr, .ref qs, .ref qt, .ref qpa, .ref qi, .ref ql, .ref qb, .ref qg, .ref qw, .ref qn])), (q, .inr (5, [.int (nI P), .int gr, .int (nI wd), .int (nI g), .int (nI wk), .int fr, .ref qd, .ref qh, .ref qp])), (qd, .inl (cI, 8, .inl dyr)), (qs, .inr (7, [.ref qsc])), (qsc, .inl (cI, 18, .inl u.1)), (qw, .inr (0, [.int u.2]))]) := by
  refine CV.intro (by decide) (Nat.le_of_ble_eq_true rfl) ?_
  intro p0 e0 s0 m0 ar0 be0 me0 c0 A0 X hr
  refine J_iconst (pc := 0) X 0 dX9_directByDraws_0 (by decide) ?_
  refine J_istore_n (pc := 1) X [(1, .int 0), (0, .ref qx)] dX9_directByDraws_1 (by decide) rfl ?_
  have L_2 : ∀ (n_2 : Nat) (i : Nat) (cc_ : Nat → Int32) (sdd : Int32) (nwd : Nat → Int32) (hi : i ≤ wk) (hdw : (nwd, sdd) = dwTo nw sd i) (hsc9 : scR cc_ nwd wk) (hod : okS g wk nwd), (wk - i) < n_2 → JJ p0 l e0 ({ frames := 4, cells := 0, slots := 0, locals := 91 }) s0 m0 ar0 be0 me0 c0 A0 G 3 0 0 (QV be0 ar0 s0 A0 G (tys3 cI cC cZ) (S := (Nat → Int32) × Int32) (fun (u : (Nat → Int32) × Int32) => scR u.1 (dwTo nw sd wk).1 wk ∧ u.2 = (dwTo nw sd wk).2 ∧ okS g wk (dwTo nw sd wk).1) (fun (u : (Nat → Int32) × Int32) => [(qx, .inr (9, [.ref q, .ref qq, .ref qr, .ref qs, .ref qt, .ref qpa, .ref qi, .ref ql, .ref qb, .ref qg, .ref qw, .ref qn])), (q, .inr (5, [.int (nI P), .int gr, .int (nI wd), .int (nI g), .int (nI wk), .int fr, .ref qd, .ref qh, .ref qp])), (qd, .inl (cI, 8, .inl dyr)), (qs, .inr (7, [.ref qsc])), (qsc, .inl (cI, 18, .inl u.1)), (qw, .inr (0, [.int u.2]))])) [(qx, .inr (9, [.ref q, .ref qq, .ref qr, .ref qs, .ref qt, .ref qpa, .ref qi, .ref ql, .ref qb, .ref qg, .ref qw, .ref qn])), (q, .inr (5, [.int (nI P), .int gr, .int (nI wd), .int (nI g), .int (nI wk), .int fr, .ref qd, .ref qh, .ref qp])), (qd, .inl (cI, 8, .inl dyr)), (qs, .inr (7, [.ref qsc])), (qsc, .inl (cI, 18, .inl cc_)), (qw, .inr (0, [.int sdd]))] 2 [(0, .ref qx), (1, .int (nI i))] [] := by
    intro n_2
    induction n_2 with
    | zero => intro i cc_ sdd nwd hi hdw hsc9 hod hm_2; exact absurd hm_2 (Nat.not_lt_zero _)
    | succ n_2 ih_2 =>
      intro i cc_ sdd nwd hi hdw hsc9 hod hm_2
      refine J_iload_n (pc := 2) X 1 dX9_directByDraws_2 rfl ?_
      refine J_aload_n (pc := 3) X 0 dX9_directByDraws_3 rfl ?_
      refine J_get (pc := 4) X clX9 0 0 rfl (by decide) g241 rfl dX9_directByDraws_4 ?_
      refine J_callR (pc := 7) (As := []) (rest := [.int (nI i)]) X mtX5_walkerCount g423 [1] 0 (kX5_walkerCount l G cI cC cZ q qd qh qp P gr wd g wk fr ) ⟨Nat.le_of_ble_eq_true rfl, Nat.le_of_ble_eq_true rfl⟩ rfl rfl rfl (by decide) rfl rfl rfl rfl rfl (Nat.le_of_ble_eq_true rfl) (Nat.zero_le _) (Nat.zero_le _) dX9_directByDraws_7 (fun r_1 u_2 w_3 => ?_)
      try dsimp only at w_3
      subst w_3
      refine J_icmp_ge (pc := 10) X 98 dX9_directByDraws_10 (by decide) (fun c_4 => ?_) (fun c_4 => ?_)
      · have c_4 : wk ≤ i := n_le_of (a := wk) (b := i) (by omega) (by omega) c_4
        refine J_vret (pc := 98) X hr (cc_, sdd) dX9_directByDraws_98 ?_ rfl
        have q9 : i = wk := by omega
        subst q9
        rw [← hdw]
        exact ⟨hsc9, rfl, hod⟩
      · have c_4 : i < wk := n_nle_of (a := wk) (b := i) (by omega) (by omega) c_4
        obtain ⟨pos, hpos, hpk⟩ := hod i (by omega)
        have hpl := posOk_lt hg hpk
        obtain ⟨q2, q3, q4, q5⟩ := scR_q hsc9 (by omega) hpos hpl
        refine J_aload_n (pc := 13) X 0 dX9_directByDraws_13 rfl ?_
        by_cases hp : pos < 100
        · skip
          have k2 := q2.trans (hsN_t hp)
          have k3 := q3.trans (gpN_t hp)
          have hpg : pos ≤ g := by rcases hpk with z9 | z9 <;> omega
          refine J_get (pc := 14) X clX9 0 3 rfl (by decide) g244 rfl dX9_directByDraws_14 ?_
          refine J_iload_n (pc := 17) X 1 dX9_directByDraws_17 rfl ?_
          refine J_callR (pc := 18) (As := [.int (nI i)]) (rest := []) X mtX7_isInGap g563 [3, 4] 0 (kX7_isInGap l G cI cC cZ qs qsc cc_ i (by first | assumption | omega)) ⟨Nat.le_of_ble_eq_true rfl, Nat.le_of_ble_eq_true rfl⟩ rfl rfl rfl (by decide) rfl rfl rfl rfl rfl (Nat.le_of_ble_eq_true rfl) (Nat.zero_le _) (Nat.zero_le _) dX9_directByDraws_18 (fun r_5 u_6 w_7 => ?_)
          try dsimp only at w_7
          subst w_7
          refine J_top (y := (0 : Int32)) (bI_f (fun z9 => z9 k3)) ?_
          refine J_if_ne (pc := 21) X 92 dX9_directByDraws_21 (by decide) (fun c_8 => ?_) (fun c_8 => ?_)
          · have c_8 : ¬ 0 = 0 := n_ne_of (a := 0) (b := 0) (by omega) (by omega) c_8
            exfalso; omega
          · have c_8 : 0 = 0 := n_eq_of (a := 0) (b := 0) (by omega) (by omega) c_8
            refine J_aload_n (pc := 24) X 0 dX9_directByDraws_24 rfl ?_
            refine J_get (pc := 25) X clX9 0 10 rfl (by decide) g251 rfl dX9_directByDraws_25 ?_
            refine J_iconst (pc := 28) X 4 dX9_directByDraws_28 (by decide) ?_
            refine J_callI (pc := 29) (As := [.int 4]) (rest := []) X mtX0_next g627 [5] [0, 1, 2, 3, 4] [0, 1, 2, 3, 4, 5] 0 (fun u => [(qx, .inr (9, [.ref q, .ref qq, .ref qr, .ref qs, .ref qt, .ref qpa, .ref qi, .ref ql, .ref qb, .ref qg, .ref qw, .ref qn])), (q, .inr (5, [.int (nI P), .int gr, .int (nI wd), .int (nI g), .int (nI wk), .int fr, .ref qd, .ref qh, .ref qp])), (qd, .inl (cI, 8, .inl dyr)), (qs, .inr (7, [.ref qsc])), (qsc, .inl (cI, 18, .inl cc_)), (qw, .inr (0, [.int (rnd sdd)]))]) (kX0_next l G cI cC cZ qw sdd ) ⟨Nat.le_of_ble_eq_true rfl, Nat.le_of_ble_eq_true rfl⟩ rfl rfl rfl (by decide) (wr := [(qx, .inr (9, [.ref q, .ref qq, .ref qr, .ref qs, .ref qt, .ref qpa, .ref qi, .ref ql, .ref qb, .ref qg, .ref qw, .ref qn])), (q, .inr (5, [.int (nI P), .int gr, .int (nI wd), .int (nI g), .int (nI wk), .int fr, .ref qd, .ref qh, .ref qp])), (qd, .inl (cI, 8, .inl dyr)), (qs, .inr (7, [.ref qsc])), (qsc, .inl (cI, 18, .inl cc_))]) rfl (by decide) (by decide) (fun _ => rfl) (by decide) rfl rfl rfl rfl rfl (Nat.le_of_ble_eq_true rfl) (Nat.zero_le _) (Nat.zero_le _) dX9_directByDraws_29 (fun r_9 u_10 w_11 => ?_)
            try dsimp only at w_11
            try dsimp only at w_11
            subst w_11
            refine J_istore_n (pc := 32) X [(2, .int (drw sdd)), (0, .ref qx), (1, .int (nI i))] dX9_directByDraws_32 (by decide) rfl ?_
            refine J_iload_n (pc := 33) X 0 dX9_directByDraws_33 rfl ?_
            refine J_if_ne (pc := 34) X 53 dX9_directByDraws_34 (by decide) (fun c_12 => ?_) (fun c_12 => ?_)
            · skip
              refine J_iload_n (pc := 53) X 0 dX9_directByDraws_53 rfl ?_
              refine J_iconst (pc := 54) X 1 dX9_directByDraws_54 (by decide) ?_
              refine J_icmp_ne (pc := 55) X 74 dX9_directByDraws_55 (by decide) (fun c_13 => ?_) (fun c_13 => ?_)
              · skip
                refine J_iload_n (pc := 74) X 0 dX9_directByDraws_74 rfl ?_
                refine J_iconst (pc := 75) X 2 dX9_directByDraws_75 (by decide) ?_
                refine J_icmp_ne (pc := 76) X 92 dX9_directByDraws_76 (by decide) (fun c_14 => ?_) (fun c_14 => ?_)
                · skip
                  refine J_iinc (pc := 92) X (nI (i + 1)) 2 [(1, .int (nI (i + 1))), (2, .int (drw sdd)), (0, .ref qx)] dX9_directByDraws_92 rfl (n_add (x := i) (y := 1) rfl rfl (by omega)) (by decide) rfl ?_
                  refine J_goto (pc := 95) X 2 dX9_directByDraws_95 (by decide) ?_
                  refine J_loc [2, 0] (lv2 := [(0, .ref qx), (1, .int (nI (i + 1)))]) rfl ?_
                  exact ih_2  (i + 1) cc_ (rnd sdd) nwd (by first | assumption | omega | simp_all) (by have z9 := dw_in hdw hpos hpl hp (x := nwd (3 * i + 4)) (by rw [if_neg c_12, if_neg c_13, if_neg c_14]); rw [upd_id] at z9; exact z9) hsc9 hod (by omega)
                · skip
                  refine J_aload_n (pc := 79) X 1 dX9_directByDraws_79 rfl ?_
                  refine J_get (pc := 80) X clX9 0 3 rfl (by decide) g244 rfl dX9_directByDraws_80 ?_
                  refine J_aload_n (pc := 83) X 1 dX9_directByDraws_83 rfl ?_
                  refine J_get (pc := 84) X clX9 0 0 rfl (by decide) g241 rfl dX9_directByDraws_84 ?_
                  refine J_iload_n (pc := 87) X 2 dX9_directByDraws_87 rfl ?_
                  refine J_iconst (pc := 88) X 1 dX9_directByDraws_88 (by decide) ?_
                  refine J_callV (pc := 89) (As := [.ref q, .int (nI i), .int 1]) (rest := []) X mtX7_direct g580 [3, 4, 1, 2] [0, 5] [0, 4, 5, 2, 3, 1] 0 (fun u => [(qx, .inr (9, [.ref q, .ref qq, .ref qr, .ref qs, .ref qt, .ref qpa, .ref qi, .ref ql, .ref qb, .ref qg, .ref qw, .ref qn])), (q, .inr (5, [.int (nI P), .int gr, .int (nI wd), .int (nI g), .int (nI wk), .int fr, .ref qd, .ref qh, .ref qp])), (qd, .inl (cI, 8, .inl dyr)), (qs, .inr (7, [.ref qsc])), (qsc, .inl (cI, 18, .inl u)), (qw, .inr (0, [.int (rnd sdd)]))]) (kX7_direct l G cI cC cZ qs qsc cc_ q qd qh qp P gr wd g wk fr dyr i pos nwd dy 1 (by first | assumption | omega) (by first | assumption | omega) (by first | assumption | omega) (by first | assumption | omega) (by first | assumption | omega) (by first | assumption | omega) (by first | assumption | omega) hsc9 hpos hpk) ⟨Nat.le_of_ble_eq_true rfl, Nat.le_of_ble_eq_true rfl⟩ rfl rfl rfl (by decide) (wr := [(qx, .inr (9, [.ref q, .ref qq, .ref qr, .ref qs, .ref qt, .ref qpa, .ref qi, .ref ql, .ref qb, .ref qg, .ref qw, .ref qn])), (qw, .inr (0, [.int (rnd sdd)]))]) rfl (by decide) (by decide) (fun _ => rfl) (by decide) rfl rfl rfl rfl rfl (Nat.le_of_ble_eq_true rfl) (Nat.zero_le _) (Nat.zero_le _) dX9_directByDraws_89 (fun u_16 w_17 => ?_)
                  obtain ⟨cD, rfl⟩ : ∃ z, z = u_16 := ⟨_, rfl⟩
                  try dsimp only at w_17
                  have hdi := w_17
                  rw [← goN_a (posF_of hpos hpl) (fun z9 => absurd z9.1 (by omega))] at hdi
                  refine J_iinc (pc := 92) X (nI (i + 1)) 2 [(1, .int (nI (i + 1))), (2, .int (drw sdd)), (0, .ref qx)] dX9_directByDraws_92 rfl (n_add (x := i) (y := 1) rfl rfl (by omega)) (by decide) rfl ?_
                  refine J_goto (pc := 95) X 2 dX9_directByDraws_95 (by decide) ?_
                  refine J_loc [2, 0] (lv2 := [(0, .ref qx), (1, .int (nI (i + 1)))]) rfl ?_
                  exact ih_2  (i + 1) cD (rnd sdd) (upd nwd (3 * i + 4) 1) (by first | assumption | omega | simp_all) (dw_in hdw hpos hpl hp (by rw [if_neg c_12, if_neg c_13, if_pos c_14])) hdi (okS_w hod) (by omega)
              · skip
                refine J_aload_n (pc := 58) X 1 dX9_directByDraws_58 rfl ?_
                refine J_get (pc := 59) X clX9 0 3 rfl (by decide) g244 rfl dX9_directByDraws_59 ?_
                refine J_aload_n (pc := 62) X 1 dX9_directByDraws_62 rfl ?_
                refine J_get (pc := 63) X clX9 0 0 rfl (by decide) g241 rfl dX9_directByDraws_63 ?_
                refine J_iload_n (pc := 66) X 2 dX9_directByDraws_66 rfl ?_
                refine J_iconst (pc := 67) X 0 dX9_directByDraws_67 (by decide) ?_
                refine J_callV (pc := 68) (As := [.ref q, .int (nI i), .int 0]) (rest := []) X mtX7_direct g580 [3, 4, 1, 2] [0, 5] [0, 4, 5, 2, 3, 1] 0 (fun u => [(qx, .inr (9, [.ref q, .ref qq, .ref qr, .ref qs, .ref qt, .ref qpa, .ref qi, .ref ql, .ref qb, .ref qg, .ref qw, .ref qn])), (q, .inr (5, [.int (nI P), .int gr, .int (nI wd), .int (nI g), .int (nI wk), .int fr, .ref qd, .ref qh, .ref qp])), (qd, .inl (cI, 8, .inl dyr)), (qs, .inr (7, [.ref qsc])), (qsc, .inl (cI, 18, .inl u)), (qw, .inr (0, [.int (rnd sdd)]))]) (kX7_direct l G cI cC cZ qs qsc cc_ q qd qh qp P gr wd g wk fr dyr i pos nwd dy 0 (by first | assumption | omega) (by first | assumption | omega) (by first | assumption | omega) (by first | assumption | omega) (by first | assumption | omega) (by first | assumption | omega) (by first | assumption | omega) hsc9 hpos hpk) ⟨Nat.le_of_ble_eq_true rfl, Nat.le_of_ble_eq_true rfl⟩ rfl rfl rfl (by decide) (wr := [(qx, .inr (9, [.ref q, .ref qq, .ref qr, .ref qs, .ref qt, .ref qpa, .ref qi, .ref ql, .ref qb, .ref qg, .ref qw, .ref qn])), (qw, .inr (0, [.int (rnd sdd)]))]) rfl (by decide) (by decide) (fun _ => rfl) (by decide) rfl rfl rfl rfl rfl (Nat.le_of_ble_eq_true rfl) (Nat.zero_le _) (Nat.zero_le _) dX9_directByDraws_68 (fun u_19 w_20 => ?_)
                obtain ⟨cC, rfl⟩ : ∃ z, z = u_19 := ⟨_, rfl⟩
                try dsimp only at w_20
                have hdi := w_20
                rw [← goN_a (posF_of hpos hpl) (fun z9 => absurd z9.1 (by omega))] at hdi
                refine J_goto (pc := 71) X 92 dX9_directByDraws_71 (by decide) ?_
                refine J_iinc (pc := 92) X (nI (i + 1)) 2 [(1, .int (nI (i + 1))), (2, .int (drw sdd)), (0, .ref qx)] dX9_directByDraws_92 rfl (n_add (x := i) (y := 1) rfl rfl (by omega)) (by decide) rfl ?_
                refine J_goto (pc := 95) X 2 dX9_directByDraws_95 (by decide) ?_
                refine J_loc [2, 0] (lv2 := [(0, .ref qx), (1, .int (nI (i + 1)))]) rfl ?_
                exact ih_2  (i + 1) cC (rnd sdd) (upd nwd (3 * i + 4) 0) (by first | assumption | omega | simp_all) (dw_in hdw hpos hpl hp (by rw [if_neg c_12, if_pos c_13])) hdi (okS_w hod) (by omega)
            · skip
              refine J_aload_n (pc := 37) X 1 dX9_directByDraws_37 rfl ?_
              refine J_get (pc := 38) X clX9 0 3 rfl (by decide) g244 rfl dX9_directByDraws_38 ?_
              refine J_aload_n (pc := 41) X 1 dX9_directByDraws_41 rfl ?_
              refine J_get (pc := 42) X clX9 0 0 rfl (by decide) g241 rfl dX9_directByDraws_42 ?_
              refine J_iload_n (pc := 45) X 2 dX9_directByDraws_45 rfl ?_
              refine J_iconst (pc := 46) X 2 dX9_directByDraws_46 (by decide) ?_
              refine J_callV (pc := 47) (As := [.ref q, .int (nI i), .int 2]) (rest := []) X mtX7_direct g580 [3, 4, 1, 2] [0, 5] [0, 4, 5, 2, 3, 1] 0 (fun u => [(qx, .inr (9, [.ref q, .ref qq, .ref qr, .ref qs, .ref qt, .ref qpa, .ref qi, .ref ql, .ref qb, .ref qg, .ref qw, .ref qn])), (q, .inr (5, [.int (nI P), .int gr, .int (nI wd), .int (nI g), .int (nI wk), .int fr, .ref qd, .ref qh, .ref qp])), (qd, .inl (cI, 8, .inl dyr)), (qs, .inr (7, [.ref qsc])), (qsc, .inl (cI, 18, .inl u)), (qw, .inr (0, [.int (rnd sdd)]))]) (kX7_direct l G cI cC cZ qs qsc cc_ q qd qh qp P gr wd g wk fr dyr i pos nwd dy 2 (by first | assumption | omega) (by first | assumption | omega) (by first | assumption | omega) (by first | assumption | omega) (by first | assumption | omega) (by first | assumption | omega) (by first | assumption | omega) hsc9 hpos hpk) ⟨Nat.le_of_ble_eq_true rfl, Nat.le_of_ble_eq_true rfl⟩ rfl rfl rfl (by decide) (wr := [(qx, .inr (9, [.ref q, .ref qq, .ref qr, .ref qs, .ref qt, .ref qpa, .ref qi, .ref ql, .ref qb, .ref qg, .ref qw, .ref qn])), (qw, .inr (0, [.int (rnd sdd)]))]) rfl (by decide) (by decide) (fun _ => rfl) (by decide) rfl rfl rfl rfl rfl (Nat.le_of_ble_eq_true rfl) (Nat.zero_le _) (Nat.zero_le _) dX9_directByDraws_47 (fun u_22 w_23 => ?_)
              obtain ⟨cB, rfl⟩ : ∃ z, z = u_22 := ⟨_, rfl⟩
              try dsimp only at w_23
              have hdi := w_23
              rw [← goN_a (posF_of hpos hpl) (fun z9 => absurd z9.1 (by omega))] at hdi
              refine J_goto (pc := 50) X 92 dX9_directByDraws_50 (by decide) ?_
              refine J_iinc (pc := 92) X (nI (i + 1)) 2 [(1, .int (nI (i + 1))), (2, .int (drw sdd)), (0, .ref qx)] dX9_directByDraws_92 rfl (n_add (x := i) (y := 1) rfl rfl (by omega)) (by decide) rfl ?_
              refine J_goto (pc := 95) X 2 dX9_directByDraws_95 (by decide) ?_
              refine J_loc [2, 0] (lv2 := [(0, .ref qx), (1, .int (nI (i + 1)))]) rfl ?_
              exact ih_2  (i + 1) cB (rnd sdd) (upd nwd (3 * i + 4) 2) (by first | assumption | omega | simp_all) (dw_in hdw hpos hpl hp (if_pos c_12).symm) hdi (okS_w hod) (by omega)
        · skip
          have k2 := q2.trans (hsN_f hp)
          have k3 := q3.trans (gpN_f hp)
          have hpg : 100 ≤ pos ∧ pos < 100 + g := by rcases hpk with z9 | z9 <;> omega
          refine J_get (pc := 14) X clX9 0 3 rfl (by decide) g244 rfl dX9_directByDraws_14 ?_
          refine J_iload_n (pc := 17) X 1 dX9_directByDraws_17 rfl ?_
          refine J_callR (pc := 18) (As := [.int (nI i)]) (rest := []) X mtX7_isInGap g563 [3, 4] 0 (kX7_isInGap l G cI cC cZ qs qsc cc_ i (by first | assumption | omega)) ⟨Nat.le_of_ble_eq_true rfl, Nat.le_of_ble_eq_true rfl⟩ rfl rfl rfl (by decide) rfl rfl rfl rfl rfl (Nat.le_of_ble_eq_true rfl) (Nat.zero_le _) (Nat.zero_le _) dX9_directByDraws_18 (fun r_24 u_25 w_26 => ?_)
          try dsimp only at w_26
          subst w_26
          refine J_top (y := (1 : Int32)) (bI_t (by rw [k3]; exact nI_ne_m1 (by omega))) ?_
          refine J_if_ne (pc := 21) X 92 dX9_directByDraws_21 (by decide) (fun c_27 => ?_) (fun c_27 => ?_)
          · have c_27 : ¬ 1 = 0 := n_ne_of (a := 1) (b := 0) (by omega) (by omega) c_27
            refine J_iinc (pc := 92) X (nI (i + 1)) 1 [(1, .int (nI (i + 1))), (0, .ref qx)] dX9_directByDraws_92 rfl (n_add (x := i) (y := 1) rfl rfl (by omega)) (by decide) rfl ?_
            refine J_goto (pc := 95) X 2 dX9_directByDraws_95 (by decide) ?_
            refine J_loc [1, 0] (lv2 := [(0, .ref qx), (1, .int (nI (i + 1)))]) rfl ?_
            exact ih_2  (i + 1) cc_ sdd nwd (by first | assumption | omega | simp_all) (dw_out hdw hpos hpl hp) hsc9 hod (by omega)
          · have c_27 : 1 = 0 := n_eq_of (a := 1) (b := 0) (by omega) (by omega) c_27
            exfalso; omega
  refine J_loc [1, 0] (lv2 := [(0, .ref qx), (1, .int 0)]) rfl ?_
  exact L_2 _  0 c sd nw (by first | assumption | omega | simp_all) rfl hsc hok (Nat.lt_succ_self _)
set_option maxRecDepth 100000 in
set_option maxHeartbeats 600000 in
theorem kX9_drift (l : Launch) (G : va_G) (cI cC cZ : ClassId) (qx : Nat) (q : Nat) (qq : Nat) (qr : Nat) (qs : Nat) (qt : Nat) (qpa : Nat) (qi : Nat) (ql : Nat) (qb : Nat) (qg : Nat) (qw : Nat) (qn : Nat) (qd : Nat) (qh : Nat) (qp : Nat) (P : Nat) (gr : Int32) (wd : Nat) (g : Nat) (wk : Nat) (fr : Int32) (dyr : Nat → Int32) (par_ : Nat → Int32) (qsc : Nat) (c : Nat → Int32) (qpr : Nat) (o : Nat) (dn : Nat) (rw_ : Nat → Int32) (nw : Nat → Int32) (ps : Nat → Int32) (dy : Nat → Int32) (pa : Nat → Int32) (sd : Int32) (n : Int32) (hPl : P ≤ 60) (hg : g ≤ 8) (hwk : wk ≤ 4) (hwd : wd ≤ 50) (hP0 : 0 < g → 0 < P) (hdy : ∀ k, k < g → dyr k = dy k) (hpa : ∀ k, k < wk → par_ k = pa k) (hsc : scR c nw wk) (hok : okS g wk nw) (ho : o < 30) (hdn : dn ≤ 30) (hpr : paR rw_ o dn ps wk) : CI l G (tys3 cI cC cZ) yX9_drift cX9_drift 4 (some .int) ({ frames := 5, cells := 0, slots := 0, locals := 115 }) [.ref qx, .int n] [(qx, .inr (9, [.ref q, .ref qq, .ref qr, .ref qs, .ref qt, .ref qpa, .ref qi, .ref ql, .ref qb, .ref qg, .ref qw, .ref qn])), (q, .inr (5, [.int (nI P), .int gr, .int (nI wd), .int (nI g), .int (nI wk), .int fr, .ref qd, .ref qh, .ref qp])), (qd, .inl (cI, 8, .inl dyr)), (qp, .inl (cI, 4, .inl par_)), (qs, .inr (7, [.ref qsc])), (qsc, .inl (cI, 18, .inl c)), (qpa, .inr (4, [.ref qpr, .int (nI o), .int (nI dn)])), (qpr, .inl (cI, 540, .inl rw_)), (qw, .inr (0, [.int sd]))] (S := (Nat → Int32) × Nat × Nat × (Nat → Int32) × Int32) (fun (r : Int32) (u : (Nat → Int32) × Nat × Nat × (Nat → Int32) × Int32) => r = (if barP n P (nw 0) = 0 then (driS g (fun k9 t9 => yG P (dy k9) gr t9) pa wk P n (nw, dn, ps, sd)).1 0 else barP n P (nw 0)) ∧ scR u.1 (driS g (fun k9 t9 => yG P (dy k9) gr t9) pa wk P n (nw, dn, ps, sd)).1 wk ∧ u.2.2.1 = (driS g (fun k9 t9 => yG P (dy k9) gr t9) pa wk P n (nw, dn, ps, sd)).2.1 ∧ paR u.2.2.2.1 u.2.1 u.2.2.1 (driS g (fun k9 t9 => yG P (dy k9) gr t9) pa wk P n (nw, dn, ps, sd)).2.2.1 wk ∧ u.2.1 < 30 ∧ u.2.2.1 ≤ 30 ∧ okS g wk (driS g (fun k9 t9 => yG P (dy k9) gr t9) pa wk P n (nw, dn, ps, sd)).1 ∧ u.2.2.2.2 = (driS g (fun k9 t9 => yG P (dy k9) gr t9) pa wk P n (nw, dn, ps, sd)).2.2.2) (fun (u : (Nat → Int32) × Nat × Nat × (Nat → Int32) × Int32) => [(qx, .inr (9, [.ref q, .ref qq, .ref qr, .ref qs, .ref qt, .ref qpa, .ref qi, .ref ql, .ref qb, .ref qg, .ref qw, .ref qn])), (q, .inr (5, [.int (nI P), .int gr, .int (nI wd), .int (nI g), .int (nI wk), .int fr, .ref qd, .ref qh, .ref qp])), (qd, .inl (cI, 8, .inl dyr)), (qp, .inl (cI, 4, .inl par_)), (qs, .inr (7, [.ref qsc])), (qsc, .inl (cI, 18, .inl u.1)), (qpa, .inr (4, [.ref qpr, .int (nI u.2.1), .int (nI u.2.2.1)])), (qpr, .inl (cI, 540, .inl u.2.2.2.1)), (qw, .inr (0, [.int u.2.2.2.2]))]) := by
  refine CI.intro (by decide) (Nat.le_of_ble_eq_true rfl) ?_
  intro p0 e0 s0 m0 ar0 be0 me0 c0 A0 X hr
  refine J_aload_n (pc := 0) X 0 dX9_drift_0 rfl ?_
  refine J_iload_n (pc := 1) X 1 dX9_drift_1 rfl ?_
  refine J_callR (pc := 2) (As := [.int n]) (rest := []) X mtX9_refusalOfMinutes g597 [0, 1, 4, 5] 0 (kX9_refusalOfMinutes l G cI cC cZ qx q qq qr qs qt qpa qi ql qb qg qw qn qd qh qp P gr wd g wk fr qsc c nw n (by first | assumption | omega) (by first | assumption | omega) (by first | assumption | omega) (by first | assumption | omega) (by first | assumption | omega)) ⟨Nat.le_of_ble_eq_true rfl, Nat.le_of_ble_eq_true rfl⟩ rfl rfl rfl (by decide) rfl rfl rfl rfl rfl (Nat.le_of_ble_eq_true rfl) (Nat.zero_le _) (Nat.zero_le _) dX9_drift_2 (fun r_1 u_2 w_3 => ?_)
  try dsimp only at w_3
  subst w_3
  refine J_istore_n (pc := 5) X [(2, .int (barP n P (nw 0))), (0, .ref qx), (1, .int n)] dX9_drift_5 (by decide) rfl ?_
  by_cases hb : barP n P (nw 0) = 0
  · skip
    obtain ⟨⟨nn, hn1, hn2, rfl⟩, hP1⟩ := barP_ok hb
    refine J_eq (lv2 := [(2, .int 0), (0, .ref qx), (1, .int (nI nn))]) rfl (by rw [hb]) rfl ?_
    refine J_iload_n (pc := 6) X 0 dX9_drift_6 rfl ?_
    refine J_if_eq (pc := 7) X 12 dX9_drift_7 (by decide) (fun c_4 => ?_) (fun c_4 => ?_)
    · have c_4 : 0 = 0 := n_eq_of (a := 0) (b := 0) (by omega) (by omega) c_4
      refine J_iconst (pc := 12) X 0 dX9_drift_12 (by decide) ?_
      refine J_istore_n (pc := 13) X [(3, .int 0), (2, .int 0), (0, .ref qx), (1, .int (nI nn))] dX9_drift_13 (by decide) rfl ?_
      have L_14 : ∀ (n_14 : Nat) (i : Nat) (cc_ : Nat → Int32) (oc : Nat) (nc : Nat) (rwc : Nat → Int32) (sdc : Int32) (nwc : Nat → Int32) (psc : Nat → Int32) (hi : i ≤ nn) (hnc9 : nc ≤ 30) (ho9 : oc < 30) (hsc9 : scR cc_ nwc wk) (hpa9 : paR rwc oc nc psc wk) (hoc9 : okS g wk nwc) (hst : (nwc, nc, psc, sdc) = itr (drS g (fun k9 t9 => yG P (dy k9) gr t9) pa wk) i (nw, dn, ps, sd)), (nn - i) < n_14 → JJ p0 l e0 ({ frames := 5, cells := 0, slots := 0, locals := 115 }) s0 m0 ar0 be0 me0 c0 A0 G 4 0 0 (QI be0 ar0 s0 A0 G (tys3 cI cC cZ) (S := (Nat → Int32) × Nat × Nat × (Nat → Int32) × Int32) (fun (r : Int32) (u : (Nat → Int32) × Nat × Nat × (Nat → Int32) × Int32) => r = (if barP (nI nn) P (nw 0) = 0 then (driS g (fun k9 t9 => yG P (dy k9) gr t9) pa wk P (nI nn) (nw, dn, ps, sd)).1 0 else barP (nI nn) P (nw 0)) ∧ scR u.1 (driS g (fun k9 t9 => yG P (dy k9) gr t9) pa wk P (nI nn) (nw, dn, ps, sd)).1 wk ∧ u.2.2.1 = (driS g (fun k9 t9 => yG P (dy k9) gr t9) pa wk P (nI nn) (nw, dn, ps, sd)).2.1 ∧ paR u.2.2.2.1 u.2.1 u.2.2.1 (driS g (fun k9 t9 => yG P (dy k9) gr t9) pa wk P (nI nn) (nw, dn, ps, sd)).2.2.1 wk ∧ u.2.1 < 30 ∧ u.2.2.1 ≤ 30 ∧ okS g wk (driS g (fun k9 t9 => yG P (dy k9) gr t9) pa wk P (nI nn) (nw, dn, ps, sd)).1 ∧ u.2.2.2.2 = (driS g (fun k9 t9 => yG P (dy k9) gr t9) pa wk P (nI nn) (nw, dn, ps, sd)).2.2.2) (fun (u : (Nat → Int32) × Nat × Nat × (Nat → Int32) × Int32) => [(qx, .inr (9, [.ref q, .ref qq, .ref qr, .ref qs, .ref qt, .ref qpa, .ref qi, .ref ql, .ref qb, .ref qg, .ref qw, .ref qn])), (q, .inr (5, [.int (nI P), .int gr, .int (nI wd), .int (nI g), .int (nI wk), .int fr, .ref qd, .ref qh, .ref qp])), (qd, .inl (cI, 8, .inl dyr)), (qp, .inl (cI, 4, .inl par_)), (qs, .inr (7, [.ref qsc])), (qsc, .inl (cI, 18, .inl u.1)), (qpa, .inr (4, [.ref qpr, .int (nI u.2.1), .int (nI u.2.2.1)])), (qpr, .inl (cI, 540, .inl u.2.2.2.1)), (qw, .inr (0, [.int u.2.2.2.2]))])) [(qx, .inr (9, [.ref q, .ref qq, .ref qr, .ref qs, .ref qt, .ref qpa, .ref qi, .ref ql, .ref qb, .ref qg, .ref qw, .ref qn])), (q, .inr (5, [.int (nI P), .int gr, .int (nI wd), .int (nI g), .int (nI wk), .int fr, .ref qd, .ref qh, .ref qp])), (qd, .inl (cI, 8, .inl dyr)), (qp, .inl (cI, 4, .inl par_)), (qs, .inr (7, [.ref qsc])), (qsc, .inl (cI, 18, .inl cc_)), (qpa, .inr (4, [.ref qpr, .int (nI oc), .int (nI nc)])), (qpr, .inl (cI, 540, .inl rwc)), (qw, .inr (0, [.int sdc]))] 14 [(0, .ref qx), (1, .int (nI nn)), (2, .int 0), (3, .int (nI i))] [] := by
        intro n_14
        induction n_14 with
        | zero => intro i cc_ oc nc rwc sdc nwc psc hi hnc9 ho9 hsc9 hpa9 hoc9 hst hm_14; exact absurd hm_14 (Nat.not_lt_zero _)
        | succ n_14 ih_14 =>
          intro i cc_ oc nc rwc sdc nwc psc hi hnc9 ho9 hsc9 hpa9 hoc9 hst hm_14
          refine J_iload_n (pc := 14) X 3 dX9_drift_14 rfl ?_
          refine J_iload_n (pc := 15) X 1 dX9_drift_15 rfl ?_
          refine J_icmp_ge (pc := 16) X 51 dX9_drift_16 (by decide) (fun c_5 => ?_) (fun c_5 => ?_)
          · have c_5 : nn ≤ i := n_le_of (a := nn) (b := i) (by omega) (by omega) c_5
            refine J_aload_n (pc := 51) X 0 dX9_drift_51 rfl ?_
            refine J_get (pc := 52) X clX9 0 3 rfl (by decide) g244 rfl dX9_drift_52 ?_
            refine J_callR (pc := 55) (As := []) (rest := []) X mtX7_clock g449 [4, 5] 0 (kX7_clock l G cI cC cZ qs qsc cc_ ) ⟨Nat.le_of_ble_eq_true rfl, Nat.le_of_ble_eq_true rfl⟩ rfl rfl rfl (by decide) rfl rfl rfl rfl rfl (Nat.le_of_ble_eq_true rfl) (Nat.zero_le _) (Nat.zero_le _) dX9_drift_55 (fun r_6 u_7 w_8 => ?_)
            try dsimp only at w_8
            subst w_8
            refine J_iret (pc := 58) X hr (cc_, oc, nc, rwc, sdc) dX9_drift_58 ?_ rfl
            have q3 : i = nn := by omega
            subst q3
            rw [driS, if_pos hb, if_pos hb, nI_clamp (by omega), ← hst]
            exact ⟨hsc9.1, hsc9, rfl, hpa9, ho9, hnc9, hoc9, rfl⟩
          · have c_5 : i < nn := n_nle_of (a := nn) (b := i) (by omega) (by omega) c_5
            refine J_aload_n (pc := 19) X 0 dX9_drift_19 rfl ?_
            refine J_get (pc := 20) X clX9 0 5 rfl (by decide) g246 rfl dX9_drift_20 ?_
            refine J_aload_n (pc := 23) X 0 dX9_drift_23 rfl ?_
            refine J_get (pc := 24) X clX9 0 3 rfl (by decide) g244 rfl dX9_drift_24 ?_
            refine J_callV (pc := 27) (As := [.ref qs]) (rest := []) X mtX4_remember g565 [6, 7, 4, 5] [0, 1, 2, 3, 8] [0, 1, 2, 3, 7, 8, 5, 6, 4] 0 (fun u => [(qx, .inr (9, [.ref q, .ref qq, .ref qr, .ref qs, .ref qt, .ref qpa, .ref qi, .ref ql, .ref qb, .ref qg, .ref qw, .ref qn])), (q, .inr (5, [.int (nI P), .int gr, .int (nI wd), .int (nI g), .int (nI wk), .int fr, .ref qd, .ref qh, .ref qp])), (qd, .inl (cI, 8, .inl dyr)), (qp, .inl (cI, 4, .inl par_)), (qs, .inr (7, [.ref qsc])), (qsc, .inl (cI, 18, .inl cc_)), (qpa, .inr (4, [.ref qpr, .int (nI u.1), .int (nI u.2.1)])), (qpr, .inl (cI, 540, .inl u.2.2)), (qw, .inr (0, [.int sdc]))]) (kX4_remember l G cI cC cZ qpa qpr oc nc rwc qs qsc cc_ nwc psc wk ho9 hnc9 (by first | assumption | omega) hpa9 hsc9) ⟨Nat.le_of_ble_eq_true rfl, Nat.le_of_ble_eq_true rfl⟩ rfl rfl rfl (by decide) (wr := [(qx, .inr (9, [.ref q, .ref qq, .ref qr, .ref qs, .ref qt, .ref qpa, .ref qi, .ref ql, .ref qb, .ref qg, .ref qw, .ref qn])), (q, .inr (5, [.int (nI P), .int gr, .int (nI wd), .int (nI g), .int (nI wk), .int fr, .ref qd, .ref qh, .ref qp])), (qd, .inl (cI, 8, .inl dyr)), (qp, .inl (cI, 4, .inl par_)), (qw, .inr (0, [.int sdc]))]) rfl (by decide) (by decide) (fun _ => rfl) (by decide) rfl rfl rfl rfl rfl (Nat.le_of_ble_eq_true rfl) (Nat.zero_le _) (Nat.zero_le _) dX9_drift_27 (fun u_10 w_11 => ?_)
            obtain ⟨oA, nA, rA⟩ := u_10
            try dsimp only at w_11
            have hrm := w_11
            refine J_aload_n (pc := 30) X 0 dX9_drift_30 rfl ?_
            refine J_callV (pc := 31) (As := []) (rest := []) X mtX9_directByDraws g623 [0, 1, 2, 4, 5, 8] [3, 6, 7] [3, 4, 5, 0, 6, 7, 1, 2, 8] 0 (fun u => [(qx, .inr (9, [.ref q, .ref qq, .ref qr, .ref qs, .ref qt, .ref qpa, .ref qi, .ref ql, .ref qb, .ref qg, .ref qw, .ref qn])), (q, .inr (5, [.int (nI P), .int gr, .int (nI wd), .int (nI g), .int (nI wk), .int fr, .ref qd, .ref qh, .ref qp])), (qd, .inl (cI, 8, .inl dyr)), (qp, .inl (cI, 4, .inl par_)), (qs, .inr (7, [.ref qsc])), (qsc, .inl (cI, 18, .inl u.1)), (qpa, .inr (4, [.ref qpr, .int (nI oA), .int (nI nA)])), (qpr, .inl (cI, 540, .inl rA)), (qw, .inr (0, [.int u.2]))]) (kX9_directByDraws l G cI cC cZ qx q qq qr qs qt qpa qi ql qb qg qw qn qd qh qp P gr wd g wk fr dyr qsc cc_ sdc nwc dy (by first | assumption | omega) (by first | assumption | omega) (by first | assumption | omega) (by first | assumption | omega) (by first | assumption | omega) (by first | assumption | omega) hsc9 hoc9) ⟨Nat.le_of_ble_eq_true rfl, Nat.le_of_ble_eq_true rfl⟩ rfl rfl rfl (by decide) (wr := [(qp, .inl (cI, 4, .inl par_)), (qpa, .inr (4, [.ref qpr, .int (nI oA), .int (nI nA)])), (qpr, .inl (cI, 540, .inl rA))]) rfl (by decide) (by decide) (fun _ => rfl) (by decide) rfl rfl rfl rfl rfl (Nat.le_of_ble_eq_true rfl) (Nat.zero_le _) (Nat.zero_le _) dX9_drift_31 (fun u_13 w_14 => ?_)
            obtain ⟨cB, sB⟩ := u_13
            try dsimp only at w_14
            have hdd := w_14
            refine J_aload_n (pc := 34) X 0 dX9_drift_34 rfl ?_
            refine J_get (pc := 35) X clX9 0 3 rfl (by decide) g244 rfl dX9_drift_35 ?_
            refine J_aload_n (pc := 38) X 0 dX9_drift_38 rfl ?_
            refine J_get (pc := 39) X clX9 0 0 rfl (by decide) g241 rfl dX9_drift_39 ?_
            refine J_callV (pc := 42) (As := [.ref q]) (rest := []) X mtX7_passMinute g603 [4, 5, 1, 2, 3] [0, 6, 7, 8] [0, 6, 7, 8, 4, 5, 1, 2, 3] 0 (fun u => [(qx, .inr (9, [.ref q, .ref qq, .ref qr, .ref qs, .ref qt, .ref qpa, .ref qi, .ref ql, .ref qb, .ref qg, .ref qw, .ref qn])), (q, .inr (5, [.int (nI P), .int gr, .int (nI wd), .int (nI g), .int (nI wk), .int fr, .ref qd, .ref qh, .ref qp])), (qd, .inl (cI, 8, .inl dyr)), (qp, .inl (cI, 4, .inl par_)), (qs, .inr (7, [.ref qsc])), (qsc, .inl (cI, 18, .inl u)), (qpa, .inr (4, [.ref qpr, .int (nI oA), .int (nI nA)])), (qpr, .inl (cI, 540, .inl rA)), (qw, .inr (0, [.int sB]))]) (kX7_passMinute l G cI cC cZ qs qsc cB q qd qh qp P gr wd g wk fr dyr par_ ((dwTo nwc sdc wk).1) dy pa (by first | assumption | omega) (by first | assumption | omega) (by first | assumption | omega) (by first | assumption | omega) (by first | assumption | omega) (by first | assumption | omega) (by first | assumption | omega) hdd.1 hdd.2.2) ⟨Nat.le_of_ble_eq_true rfl, Nat.le_of_ble_eq_true rfl⟩ rfl rfl rfl (by decide) (wr := [(qx, .inr (9, [.ref q, .ref qq, .ref qr, .ref qs, .ref qt, .ref qpa, .ref qi, .ref ql, .ref qb, .ref qg, .ref qw, .ref qn])), (qpa, .inr (4, [.ref qpr, .int (nI oA), .int (nI nA)])), (qpr, .inl (cI, 540, .inl rA)), (qw, .inr (0, [.int sB]))]) rfl (by decide) (by decide) (fun _ => rfl) (by decide) rfl rfl rfl rfl rfl (Nat.le_of_ble_eq_true rfl) (Nat.zero_le _) (Nat.zero_le _) dX9_drift_42 (fun u_16 w_17 => ?_)
            obtain ⟨cA, rfl⟩ : ∃ z, z = u_16 := ⟨_, rfl⟩
            try dsimp only at w_17
            have hpm := w_17
            refine J_iinc (pc := 45) X (nI (i + 1)) 3 [(3, .int (nI (i + 1))), (0, .ref qx), (1, .int (nI nn)), (2, .int 0)] dX9_drift_45 rfl (n_add (x := i) (y := 1) rfl rfl (by omega)) (by decide) rfl ?_
            refine J_goto (pc := 48) X 14 dX9_drift_48 (by decide) ?_
            refine J_loc [1, 2, 3, 0] (lv2 := [(0, .ref qx), (1, .int (nI nn)), (2, .int 0), (3, .int (nI (i + 1)))]) rfl ?_
            exact ih_14  (i + 1) cA oA nA rA sB (pm g (fun k9 t9 => yG P (dy k9) gr t9) pa wk (dwTo nwc sdc wk).1) (pushF nc nwc psc) (by first | assumption | omega | simp_all) hrm.2.2.1 hrm.2.1 hpm.1 hrm.1 hpm.2 (dr_step hst (by rw [hdd.2.1]) rfl hrm.2.2.2) (by omega)
      refine J_loc [2, 3, 1, 0] (lv2 := [(0, .ref qx), (1, .int (nI nn)), (2, .int 0), (3, .int 0)]) rfl ?_
      exact L_14 _  0 c o dn rw_ sd nw ps (by first | assumption | omega | simp_all) hdn ho hsc hpr hok rfl (Nat.lt_succ_self _)
    · have c_4 : ¬ 0 = 0 := n_ne_of (a := 0) (b := 0) (by omega) (by omega) c_4
      exfalso; omega
  · skip
    refine J_iload_n (pc := 6) X 0 dX9_drift_6 rfl ?_
    refine J_if_eq (pc := 7) X 12 dX9_drift_7 (by decide) (fun c_18 => ?_) (fun c_18 => ?_)
    · skip
      exact absurd c_18 hb
    · skip
      refine J_iload_n (pc := 10) X 0 dX9_drift_10 rfl ?_
      refine J_iret (pc := 11) X hr (c, o, dn, rw_, sd) dX9_drift_11 ?_ rfl
      rw [if_neg hb, driS, if_neg hb]
      exact ⟨rfl, hsc, rfl, hpr, ho, hdn, hok, rfl⟩
set_option maxRecDepth 100000 in
set_option maxHeartbeats 600000 in
theorem kX9_undo (l : Launch) (G : va_G) (cI cC cZ : ClassId) (qx : Nat) (q : Nat) (qq : Nat) (qr : Nat) (qs : Nat) (qt : Nat) (qpa : Nat) (qi : Nat) (ql : Nat) (qb : Nat) (qg : Nat) (qw : Nat) (qn : Nat) (qsc : Nat) (c : Nat → Int32) (qpr : Nat) (o : Nat) (dn : Nat) (rw_ : Nat → Int32) (nw : Nat → Int32) (ps : Nat → Int32) (wk : Nat) (n : Int32) (hwk : wk ≤ 4) (hsc : scR c nw wk) (ho : o < 30) (hdn : dn ≤ 30) (hpr : paR rw_ o dn ps wk) : CI l G (tys3 cI cC cZ) yX9_undo cX9_undo 2 (some .int) ({ frames := 3, cells := 0, slots := 0, locals := 62 }) [.ref qx, .int n] [(qx, .inr (9, [.ref q, .ref qq, .ref qr, .ref qs, .ref qt, .ref qpa, .ref qi, .ref ql, .ref qb, .ref qg, .ref qw, .ref qn])), (qs, .inr (7, [.ref qsc])), (qsc, .inl (cI, 18, .inl c)), (qpa, .inr (4, [.ref qpr, .int (nI o), .int (nI dn)])), (qpr, .inl (cI, 540, .inl rw_))] (S := (Nat → Int32) × Nat) (fun (r : Int32) (u : (Nat → Int32) × Nat) => r = (if undR n dn = 0 then (unS n (nw, dn, ps)).1 0 else undR n dn) ∧ scR u.1 (unS n (nw, dn, ps)).1 wk ∧ u.2 = (unS n (nw, dn, ps)).2.1 ∧ paR rw_ o u.2 ps wk) (fun (u : (Nat → Int32) × Nat) => [(qx, .inr (9, [.ref q, .ref qq, .ref qr, .ref qs, .ref qt, .ref qpa, .ref qi, .ref ql, .ref qb, .ref qg, .ref qw, .ref qn])), (qs, .inr (7, [.ref qsc])), (qsc, .inl (cI, 18, .inl u.1)), (qpa, .inr (4, [.ref qpr, .int (nI o), .int (nI u.2)])), (qpr, .inl (cI, 540, .inl rw_))]) := by
  refine CI.intro (by decide) (Nat.le_of_ble_eq_true rfl) ?_
  intro p0 e0 s0 m0 ar0 be0 me0 c0 A0 X hr
  refine J_iload_n (pc := 0) X 1 dX9_undo_0 rfl ?_
  refine J_iconst (pc := 1) X 1 dX9_undo_1 (by decide) ?_
  refine J_bipush (pc := 2) X 30 dX9_undo_2 (by decide) ?_
  refine J_callS (pc := 4) (As := [.int n, .int 1, .int 30]) (rest := []) X mtX9_isWithin g282 [] (kX9_isWithin l G cI cC cZ n 1 30 ) ⟨Nat.le_of_ble_eq_true rfl, Nat.le_of_ble_eq_true rfl⟩ rfl rfl rfl (by decide) rfl rfl (Nat.le_of_ble_eq_true rfl) (Nat.zero_le _) (Nat.zero_le _) dX9_undo_4 (fun r_1 u_2 w_3 => ?_)
  try dsimp only at w_3
  subst w_3
  refine J_bif_ne (pc := 7) X 13 dX9_undo_7 (by decide) (fun c_4 => ?_) (fun c_4 => ?_)
  · skip
    have hw9 := c_4
    obtain ⟨nn, hnn1, hnn2, rfl⟩ := wIn_ex 1 30 (by decide) (by decide) c_4
    refine J_iload_n (pc := 13) X 1 dX9_undo_13 rfl ?_
    refine J_aload_n (pc := 14) X 0 dX9_undo_14 rfl ?_
    refine J_get (pc := 15) X clX9 0 5 rfl (by decide) g246 rfl dX9_undo_15 ?_
    refine J_callR (pc := 18) (As := []) (rest := [.int (nI nn)]) X mtX4_size g461 [3] 0 (kX4_size l G cI cC cZ qpa qpr o dn ) ⟨Nat.le_of_ble_eq_true rfl, Nat.le_of_ble_eq_true rfl⟩ rfl rfl rfl (by decide) rfl rfl rfl rfl rfl (Nat.le_of_ble_eq_true rfl) (Nat.zero_le _) (Nat.zero_le _) dX9_undo_18 (fun r_5 u_6 w_7 => ?_)
    try dsimp only at w_7
    subst w_7
    refine J_icmp_le (pc := 21) X 27 dX9_undo_21 (by decide) (fun c_8 => ?_) (fun c_8 => ?_)
    · have c_8 : nn ≤ dn := n_le_of (a := nn) (b := dn) (by omega) (by omega) c_8
      refine J_aload_n (pc := 27) X 0 dX9_undo_27 rfl ?_
      refine J_get (pc := 28) X clX9 0 5 rfl (by decide) g246 rfl dX9_undo_28 ?_
      refine J_iload_n (pc := 31) X 1 dX9_undo_31 rfl ?_
      refine J_aload_n (pc := 32) X 0 dX9_undo_32 rfl ?_
      refine J_get (pc := 33) X clX9 0 3 rfl (by decide) g244 rfl dX9_undo_33 ?_
      refine J_callV (pc := 36) (As := [.int (nI nn), .ref qs]) (rest := []) X mtX4_recall g639 [3, 4, 1, 2] [0] [0, 3, 4, 1, 2] 0 (fun u => [(qx, .inr (9, [.ref q, .ref qq, .ref qr, .ref qs, .ref qt, .ref qpa, .ref qi, .ref ql, .ref qb, .ref qg, .ref qw, .ref qn])), (qs, .inr (7, [.ref qsc])), (qsc, .inl (cI, 18, .inl u)), (qpa, .inr (4, [.ref qpr, .int (nI o), .int (nI (dn - nn))])), (qpr, .inl (cI, 540, .inl rw_))]) (kX4_recall l G cI cC cZ qpa qpr o dn rw_ qs qsc c nw ps wk nn (by first | assumption | omega) (by first | assumption | omega) (by first | assumption | omega) hpr (by first | assumption | omega) (by first | assumption | omega)) ⟨Nat.le_of_ble_eq_true rfl, Nat.le_of_ble_eq_true rfl⟩ rfl rfl rfl (by decide) (wr := [(qx, .inr (9, [.ref q, .ref qq, .ref qr, .ref qs, .ref qt, .ref qpa, .ref qi, .ref ql, .ref qb, .ref qg, .ref qw, .ref qn]))]) rfl (by decide) (by decide) (fun _ => rfl) (by decide) rfl rfl rfl rfl rfl (Nat.le_of_ble_eq_true rfl) (Nat.zero_le _) (Nat.zero_le _) dX9_undo_36 (fun u_10 w_11 => ?_)
      obtain ⟨cA, rfl⟩ : ∃ z, z = u_10 := ⟨_, rfl⟩
      try dsimp only at w_11
      have hrc := w_11
      refine J_aload_n (pc := 39) X 0 dX9_undo_39 rfl ?_
      refine J_get (pc := 40) X clX9 0 3 rfl (by decide) g244 rfl dX9_undo_40 ?_
      refine J_callR (pc := 43) (As := []) (rest := []) X mtX7_clock g449 [1, 2] 0 (kX7_clock l G cI cC cZ qs qsc cA ) ⟨Nat.le_of_ble_eq_true rfl, Nat.le_of_ble_eq_true rfl⟩ rfl rfl rfl (by decide) rfl rfl rfl rfl rfl (Nat.le_of_ble_eq_true rfl) (Nat.zero_le _) (Nat.zero_le _) dX9_undo_43 (fun r_12 u_13 w_14 => ?_)
      try dsimp only at w_14
      subst w_14
      refine J_iret (pc := 46) X hr (cA, (dn - nn)) dX9_undo_46 ?_ rfl
      have hz := undR_t hw9 (by omega) (show nn ≤ dn from by omega)
      rw [unS_t hz (by omega), if_pos hz]
      exact ⟨hrc.1.1, hrc.1, rfl, hrc.2⟩
    · have c_8 : dn < nn := n_nle_of (a := nn) (b := dn) (by omega) (by omega) c_8
      refine J_ldc (pc := 24) X g564 dX9_undo_24 ?_
      refine J_iret (pc := 26) X hr (c, dn) dX9_undo_26 ?_ rfl
      have hz := undR_f2 hw9 (by omega) (show dn < nn from by omega)
      rw [unS_f (by rw [hz]; decide), hz]
      exact ⟨rfl, hsc, rfl, hpr⟩
  · skip
    refine J_ldc (pc := 10) X g285 dX9_undo_10 ?_
    refine J_iret (pc := 12) X hr (c, dn) dX9_undo_12 ?_ rfl
    have hz : undR n dn = -1000000002 := undR_f1 (by assumption)
    rw [unS_f (by rw [hz]; decide), hz]
    exact ⟨rfl, hsc, rfl, hpr⟩
