set_option maxRecDepth 100000 in
set_option maxHeartbeats 600000 in
theorem kX10_drift (l : Launch) (G : va_G) (cI cC cZ : ClassId) (q : Nat) (qtx : Nat) (qlw : Nat) (qgp : Nat) (qhm : Nat) (qpcs : Nat) (qdl : Nat) (qdg : Nat) (qdh : Nat) (qdp : Nat) (qnw : Nat) (qps : Nat) (qim : Nat) (qisd : Nat) (qkp : Nat) (qfd : Nat) (qbk : Nat) (qal : Nat) (qco : Nat) (ln : Nat) (fa : Int32) (dr : Int32) (dn : Nat) (sd : Int32) (fn : Nat) (en : Nat) (at_ : Nat) (wr : Nat) (pl : Int32) (yd : Int32) (wy : Int32) (pce_ : Int32) (tl : Int32) (lw : Nat → Int32) (gp : Nat → Int32) (pcs : Nat → Int32) (nw : Nat → Int32) (ps : Nat → Int32) (P : Nat) (gr : Int32) (wd : Nat) (g : Nat) (wk : Nat) (n : Int32) (hPl : P ≤ 60) (hg : g ≤ 8) (hwk : wk ≤ 4) (hwd : wd ≤ 50) (hl0 : lw 0 = nI P) (hl1 : lw 1 = gr) (hl2 : lw 2 = nI wd) (hl3 : lw 3 = nI g) (hl4 : lw 4 = nI wk) (hP0 : 0 < g → 0 < P) (hok : okS g wk nw) (hdn : dn ≤ 30) : CI l G (tys3 cI cC cZ) yX10_drift cX10_drift 6 (some .int) ({ frames := 5, cells := 0, slots := 0, locals := 111 }) [.ref q, .int n] [(q, .inr (10, [.ref qtx, .int (nI ln), .int fa, .ref qlw, .ref qgp, .ref qhm, .ref qpcs, .ref qdl, .ref qdg, .ref qdh, .ref qdp, .int dr, .int tl, .ref qnw, .ref qps, .int (nI dn), .ref qim, .ref qisd, .ref qkp, .int sd, .ref qfd, .int (nI fn), .ref qbk, .int (nI en), .int (nI at_), .int (nI wr), .int pl, .int yd, .int wy, .int pce_, .ref qal, .ref qco])), (qlw, .inl (cI, 5, .inl lw)), (qgp, .inl (cI, 8, .inl gp)), (qpcs, .inl (cI, 4, .inl pcs)), (qnw, .inl (cI, 14, .inl nw)), (qps, .inl (cI, 420, .inl ps))] (S := (Nat → Int32) × Nat × (Nat → Int32) × Int32 × Int32 × Int32 × Int32 × Int32) (fun (r : Int32) (u : (Nat → Int32) × Nat × (Nat → Int32) × Int32 × Int32 × Int32 × Int32 × Int32) => r = (if barP n P (nw 0) = 0 then u.1 0 else barP n P (nw 0)) ∧ (u.1, u.2.1, u.2.2.1, u.2.2.2.1) = driS g (fun k9 t9 => yG P (gp k9) gr t9) pcs wk P n (nw, dn, ps, sd) ∧ okS g wk u.1 ∧ u.2.1 ≤ 30) (fun (u : (Nat → Int32) × Nat × (Nat → Int32) × Int32 × Int32 × Int32 × Int32 × Int32) => [(q, .inr (10, [.ref qtx, .int (nI ln), .int fa, .ref qlw, .ref qgp, .ref qhm, .ref qpcs, .ref qdl, .ref qdg, .ref qdh, .ref qdp, .int dr, .int tl, .ref qnw, .ref qps, .int (nI u.2.1), .ref qim, .ref qisd, .ref qkp, .int u.2.2.2.1, .ref qfd, .int (nI fn), .ref qbk, .int (nI en), .int (nI at_), .int (nI wr), .int u.2.2.2.2.1, .int u.2.2.2.2.2.1, .int u.2.2.2.2.2.2.1, .int u.2.2.2.2.2.2.2, .ref qal, .ref qco])), (qlw, .inl (cI, 5, .inl lw)), (qgp, .inl (cI, 8, .inl gp)), (qpcs, .inl (cI, 4, .inl pcs)), (qnw, .inl (cI, 14, .inl u.1)), (qps, .inl (cI, 420, .inl u.2.2.1))]) := by
  refine CI.intro (by decide) (Nat.le_of_ble_eq_true rfl) ?_
  intro p0 e0 s0 m0 ar0 be0 me0 c0 A0 X hr
  refine J_aload_n (pc := 0) X 0 dX10_drift_0 rfl ?_
  refine J_iload_n (pc := 1) X 1 dX10_drift_1 rfl ?_
  refine J_callR (pc := 2) (As := [.int n]) (rest := []) X mtX10_barred g1122 [0, 1, 4] 0 (kX10_barred l G cI cC cZ q qtx qlw qgp qhm qpcs qdl qdg qdh qdp qnw qps qim qisd qkp qfd qbk qal qco ln fa dr dn sd fn en at_ wr pl yd wy pce_ tl lw nw P gr wd g wk n (by first | assumption | omega) (by first | assumption | omega) (by first | assumption | omega) (by first | assumption | omega) (by first | assumption | omega) (by first | assumption | omega) (by first | assumption | omega) (by first | assumption | omega) (by first | assumption | omega)) ⟨Nat.le_of_ble_eq_true rfl, Nat.le_of_ble_eq_true rfl⟩ rfl rfl rfl (by decide) rfl rfl rfl rfl rfl (Nat.le_of_ble_eq_true rfl) (Nat.zero_le _) (Nat.zero_le _) dX10_drift_2 (fun r_1 u_2 w_3 => ?_)
  try dsimp only at w_3
  subst w_3
  refine J_istore_n (pc := 5) X [(2, .int (barP n P (nw 0))), (0, .ref q), (1, .int n)] dX10_drift_5 (by decide) rfl ?_
  by_cases hb : barP n P (nw 0) = 0
  · skip
    obtain ⟨⟨nn, hn1, hn2, rfl⟩, hP1⟩ := barP_ok hb
    refine J_eq (lv2 := [(2, .int 0), (0, .ref q), (1, .int (nI nn))]) rfl (by rw [hb]) rfl ?_
    refine J_iconst (pc := 6) X 0 dX10_drift_6 (by decide) ?_
    refine J_istore_n (pc := 7) X [(3, .int 0), (2, .int 0), (0, .ref q), (1, .int (nI nn))] dX10_drift_7 (by decide) rfl ?_
    have L_8 : ∀ (n_8 : Nat) (i : Nat) (nwc : Nat → Int32) (dnc : Nat) (psc : Nat → Int32) (sdc : Int32) (plx : Int32) (ydx : Int32) (wyx : Int32) (pcx : Int32) (hi : i ≤ nn) (hdc : dnc ≤ 30) (hoc : okS g wk nwc) (hst : (nwc, dnc, psc, sdc) = itr (drS g (fun k9 t9 => yG P (gp k9) gr t9) pcs wk) i (nw, dn, ps, sd)), (nn - i) < n_8 → JJ p0 l e0 ({ frames := 5, cells := 0, slots := 0, locals := 111 }) s0 m0 ar0 be0 me0 c0 A0 G 6 0 0 (QI be0 ar0 s0 A0 G (tys3 cI cC cZ) (S := (Nat → Int32) × Nat × (Nat → Int32) × Int32 × Int32 × Int32 × Int32 × Int32) (fun (r : Int32) (u : (Nat → Int32) × Nat × (Nat → Int32) × Int32 × Int32 × Int32 × Int32 × Int32) => r = (if barP (nI nn) P (nw 0) = 0 then u.1 0 else barP (nI nn) P (nw 0)) ∧ (u.1, u.2.1, u.2.2.1, u.2.2.2.1) = driS g (fun k9 t9 => yG P (gp k9) gr t9) pcs wk P (nI nn) (nw, dn, ps, sd) ∧ okS g wk u.1 ∧ u.2.1 ≤ 30) (fun (u : (Nat → Int32) × Nat × (Nat → Int32) × Int32 × Int32 × Int32 × Int32 × Int32) => [(q, .inr (10, [.ref qtx, .int (nI ln), .int fa, .ref qlw, .ref qgp, .ref qhm, .ref qpcs, .ref qdl, .ref qdg, .ref qdh, .ref qdp, .int dr, .int tl, .ref qnw, .ref qps, .int (nI u.2.1), .ref qim, .ref qisd, .ref qkp, .int u.2.2.2.1, .ref qfd, .int (nI fn), .ref qbk, .int (nI en), .int (nI at_), .int (nI wr), .int u.2.2.2.2.1, .int u.2.2.2.2.2.1, .int u.2.2.2.2.2.2.1, .int u.2.2.2.2.2.2.2, .ref qal, .ref qco])), (qlw, .inl (cI, 5, .inl lw)), (qgp, .inl (cI, 8, .inl gp)), (qpcs, .inl (cI, 4, .inl pcs)), (qnw, .inl (cI, 14, .inl u.1)), (qps, .inl (cI, 420, .inl u.2.2.1))])) [(q, .inr (10, [.ref qtx, .int (nI ln), .int fa, .ref qlw, .ref qgp, .ref qhm, .ref qpcs, .ref qdl, .ref qdg, .ref qdh, .ref qdp, .int dr, .int tl, .ref qnw, .ref qps, .int (nI dnc), .ref qim, .ref qisd, .ref qkp, .int sdc, .ref qfd, .int (nI fn), .ref qbk, .int (nI en), .int (nI at_), .int (nI wr), .int plx, .int ydx, .int wyx, .int pcx, .ref qal, .ref qco])), (qlw, .inl (cI, 5, .inl lw)), (qgp, .inl (cI, 8, .inl gp)), (qpcs, .inl (cI, 4, .inl pcs)), (qnw, .inl (cI, 14, .inl nwc)), (qps, .inl (cI, 420, .inl psc))] 8 [(0, .ref q), (1, .int (nI nn)), (2, .int 0), (3, .int (nI i))] [] := by
      intro n_8
      induction n_8 with
      | zero => intro i nwc dnc psc sdc plx ydx wyx pcx hi hdc hoc hst hm_8; exact absurd hm_8 (Nat.not_lt_zero _)
      | succ n_8 ih_8 =>
        intro i nwc dnc psc sdc plx ydx wyx pcx hi hdc hoc hst hm_8
        refine J_iload_n (pc := 8) X 3 dX10_drift_8 rfl ?_
        refine J_iload_n (pc := 9) X 1 dX10_drift_9 rfl ?_
        refine J_icmp_ge (pc := 10) X 129 dX10_drift_10 (by decide) (fun c_4 => ?_) (fun c_4 => ?_)
        · have c_4 : nn ≤ i := n_le_of (a := nn) (b := i) (by omega) (by omega) c_4
          refine J_iload_n (pc := 129) X 2 dX10_drift_129 rfl ?_
          refine J_if_ne (pc := 130) X 142 dX10_drift_130 (by decide) (fun c_5 => ?_) (fun c_5 => ?_)
          · have c_5 : ¬ 0 = 0 := n_ne_of (a := 0) (b := 0) (by omega) (by omega) c_5
            exfalso; omega
          · have c_5 : 0 = 0 := n_eq_of (a := 0) (b := 0) (by omega) (by omega) c_5
            refine J_aload_n (pc := 133) X 0 dX10_drift_133 rfl ?_
            refine J_get (pc := 134) X clX10 0 13 rfl (by decide) g902 rfl dX10_drift_134 ?_
            refine J_iconst (pc := 137) X 0 dX10_drift_137 (by decide) ?_
            refine J_iald (pc := 138) X 4 0 0 rfl rfl rfl (by decide) (by decide) dX10_drift_138 ?_
            refine J_goto (pc := 139) X 143 dX10_drift_139 (by decide) ?_
            refine J_iret (pc := 143) X hr (nwc, dnc, psc, sdc, plx, ydx, wyx, pcx) dX10_drift_143 ?_ rfl
            have q3 : i = nn := by omega
            subst q3
            refine ⟨?_, ?_, hoc, hdc⟩
            · rw [if_pos hb]
            · rw [driS, if_pos hb, nI_clamp (by omega)]; exact hst
        · have c_4 : i < nn := n_nle_of (a := nn) (b := i) (by omega) (by omega) c_4
          refine J_iload_n (pc := 13) X 2 dX10_drift_13 rfl ?_
          refine J_if_ne (pc := 14) X 129 dX10_drift_14 (by decide) (fun c_6 => ?_) (fun c_6 => ?_)
          · have c_6 : ¬ 0 = 0 := n_ne_of (a := 0) (b := 0) (by omega) (by omega) c_6
            exfalso; omega
          · have c_6 : 0 = 0 := n_eq_of (a := 0) (b := 0) (by omega) (by omega) c_6
            refine J_aload_n (pc := 17) X 0 dX10_drift_17 rfl ?_
            refine J_callV (pc := 18) (As := []) (rest := []) X mtX10_notes g1107 [0, 4, 5] [1, 2, 3] [3, 0, 1, 2, 4, 5] 0 (fun u => [(q, .inr (10, [.ref qtx, .int (nI ln), .int fa, .ref qlw, .ref qgp, .ref qhm, .ref qpcs, .ref qdl, .ref qdg, .ref qdh, .ref qdp, .int dr, .int tl, .ref qnw, .ref qps, .int (nI u.1), .ref qim, .ref qisd, .ref qkp, .int sdc, .ref qfd, .int (nI fn), .ref qbk, .int (nI en), .int (nI at_), .int (nI wr), .int plx, .int ydx, .int wyx, .int pcx, .ref qal, .ref qco])), (qlw, .inl (cI, 5, .inl lw)), (qgp, .inl (cI, 8, .inl gp)), (qpcs, .inl (cI, 4, .inl pcs)), (qnw, .inl (cI, 14, .inl nwc)), (qps, .inl (cI, 420, .inl u.2))]) (kX10_notes l G cI cC cZ q qtx qlw qgp qhm qpcs qdl qdg qdh qdp qnw qps qim qisd qkp qfd qbk qal qco ln fa dr dnc sdc fn en at_ wr plx ydx wyx pcx tl nwc psc (by first | assumption | omega)) ⟨Nat.le_of_ble_eq_true rfl, Nat.le_of_ble_eq_true rfl⟩ rfl rfl rfl (by decide) (wr := [(qlw, .inl (cI, 5, .inl lw)), (qgp, .inl (cI, 8, .inl gp)), (qpcs, .inl (cI, 4, .inl pcs))]) rfl (by decide) (by decide) (fun _ => rfl) (by decide) rfl rfl rfl rfl rfl (Nat.le_of_ble_eq_true rfl) (Nat.zero_le _) (Nat.zero_le _) dX10_drift_18 (fun u_8 w_9 => ?_)
            obtain ⟨dn2_u_8, ps2_u_8⟩ := u_8
            try dsimp only at w_9
            obtain ⟨hp1, hp2⟩ := w_9; subst hp1
            refine J_iconst (pc := 21) X 0 dX10_drift_21 (by decide) ?_
            refine J_istore (pc := 22) X [(4, .int 0), (0, .ref q), (1, .int (nI nn)), (2, .int 0), (3, .int (nI i))] dX10_drift_22 (by decide) rfl ?_
            have L_24 : ∀ (n_24 : Nat) (j : Nat) (nwd : Nat → Int32) (sdd : Int32) (hj : j ≤ wk) (hdw : (nwd, sdd) = dwTo nwc sdc j) (hod : okS g wk nwd), (wk - j) < n_24 → JJ p0 l e0 ({ frames := 5, cells := 0, slots := 0, locals := 111 }) s0 m0 ar0 be0 me0 c0 A0 G 6 0 0 (QI be0 ar0 s0 A0 G (tys3 cI cC cZ) (S := (Nat → Int32) × Nat × (Nat → Int32) × Int32 × Int32 × Int32 × Int32 × Int32) (fun (r : Int32) (u : (Nat → Int32) × Nat × (Nat → Int32) × Int32 × Int32 × Int32 × Int32 × Int32) => r = (if barP (nI nn) P (nw 0) = 0 then u.1 0 else barP (nI nn) P (nw 0)) ∧ (u.1, u.2.1, u.2.2.1, u.2.2.2.1) = driS g (fun k9 t9 => yG P (gp k9) gr t9) pcs wk P (nI nn) (nw, dn, ps, sd) ∧ okS g wk u.1 ∧ u.2.1 ≤ 30) (fun (u : (Nat → Int32) × Nat × (Nat → Int32) × Int32 × Int32 × Int32 × Int32 × Int32) => [(q, .inr (10, [.ref qtx, .int (nI ln), .int fa, .ref qlw, .ref qgp, .ref qhm, .ref qpcs, .ref qdl, .ref qdg, .ref qdh, .ref qdp, .int dr, .int tl, .ref qnw, .ref qps, .int (nI u.2.1), .ref qim, .ref qisd, .ref qkp, .int u.2.2.2.1, .ref qfd, .int (nI fn), .ref qbk, .int (nI en), .int (nI at_), .int (nI wr), .int u.2.2.2.2.1, .int u.2.2.2.2.2.1, .int u.2.2.2.2.2.2.1, .int u.2.2.2.2.2.2.2, .ref qal, .ref qco])), (qlw, .inl (cI, 5, .inl lw)), (qgp, .inl (cI, 8, .inl gp)), (qpcs, .inl (cI, 4, .inl pcs)), (qnw, .inl (cI, 14, .inl u.1)), (qps, .inl (cI, 420, .inl u.2.2.1))])) [(q, .inr (10, [.ref qtx, .int (nI ln), .int fa, .ref qlw, .ref qgp, .ref qhm, .ref qpcs, .ref qdl, .ref qdg, .ref qdh, .ref qdp, .int dr, .int tl, .ref qnw, .ref qps, .int (nI dn2_u_8), .ref qim, .ref qisd, .ref qkp, .int sdd, .ref qfd, .int (nI fn), .ref qbk, .int (nI en), .int (nI at_), .int (nI wr), .int plx, .int ydx, .int wyx, .int pcx, .ref qal, .ref qco])), (qlw, .inl (cI, 5, .inl lw)), (qgp, .inl (cI, 8, .inl gp)), (qpcs, .inl (cI, 4, .inl pcs)), (qnw, .inl (cI, 14, .inl nwd)), (qps, .inl (cI, 420, .inl (pushF dnc nwc psc)))] 24 [(0, .ref q), (1, .int (nI nn)), (2, .int 0), (3, .int (nI i)), (4, .int (nI j))] [] := by
              intro n_24
              induction n_24 with
              | zero => intro j nwd sdd hj hdw hod hm_24; exact absurd hm_24 (Nat.not_lt_zero _)
              | succ n_24 ih_24 =>
                intro j nwd sdd hj hdw hod hm_24
                refine J_iload (pc := 24) X 4 dX10_drift_24 rfl ?_
                refine J_aload_n (pc := 26) X 0 dX10_drift_26 rfl ?_
                refine J_get (pc := 27) X clX10 0 3 rfl (by decide) g892 rfl dX10_drift_27 ?_
                refine J_iconst (pc := 30) X 4 dX10_drift_30 (by decide) ?_
                refine J_iald (pc := 31) X 1 0 4 rfl rfl rfl (by decide) (by decide) dX10_drift_31 ?_
                refine J_top (y := nI wk) hl4 ?_
                refine J_icmp_ge (pc := 32) X 119 dX10_drift_32 (by decide) (fun c_10 => ?_) (fun c_10 => ?_)
                · have c_10 : wk ≤ j := n_le_of (a := wk) (b := j) (by omega) (by omega) c_10
                  refine J_aload_n (pc := 119) X 0 dX10_drift_119 rfl ?_
                  refine J_callV (pc := 120) (As := []) (rest := []) X mtX10_passes g1131 [0, 1, 2, 3, 4] [5] [1, 2, 3, 4, 5, 0] 0 (fun u => [(q, .inr (10, [.ref qtx, .int (nI ln), .int fa, .ref qlw, .ref qgp, .ref qhm, .ref qpcs, .ref qdl, .ref qdg, .ref qdh, .ref qdp, .int dr, .int tl, .ref qnw, .ref qps, .int (nI dn2_u_8), .ref qim, .ref qisd, .ref qkp, .int sdd, .ref qfd, .int (nI fn), .ref qbk, .int (nI en), .int (nI at_), .int (nI wr), .int u.2.1, .int u.2.2.1, .int u.2.2.2.1, .int u.2.2.2.2, .ref qal, .ref qco])), (qlw, .inl (cI, 5, .inl lw)), (qgp, .inl (cI, 8, .inl gp)), (qpcs, .inl (cI, 4, .inl pcs)), (qnw, .inl (cI, 14, .inl u.1)), (qps, .inl (cI, 420, .inl (pushF dnc nwc psc)))]) (kX10_passes l G cI cC cZ q qtx qlw qgp qhm qpcs qdl qdg qdh qdp qnw qps qim qisd qkp qfd qbk qal qco ln fa dr dn2_u_8 sdd fn en at_ wr plx ydx wyx pcx tl lw gp pcs nwd P gr wd g wk (by first | assumption | omega) (by first | assumption | omega) (by first | assumption | omega) (by first | assumption | omega) (by first | assumption | omega) (by first | assumption | omega) (by first | assumption | omega) (by first | assumption | omega) (by first | assumption | omega) (by first | assumption | omega) hod) ⟨Nat.le_of_ble_eq_true rfl, Nat.le_of_ble_eq_true rfl⟩ rfl rfl rfl (by decide) (wr := [(qps, .inl (cI, 420, .inl (pushF dnc nwc psc)))]) rfl (by decide) (by decide) (fun _ => rfl) (by decide) rfl rfl rfl rfl rfl (Nat.le_of_ble_eq_true rfl) (Nat.zero_le _) (Nat.zero_le _) dX10_drift_120 (fun u_12 w_13 => ?_)
                  obtain ⟨nw2_u_12, plx_u_12, ydx_u_12, wyx_u_12, pcx_u_12⟩ := u_12
                  try dsimp only at w_13
                  obtain ⟨hq1, hq2⟩ := w_13
                  refine J_iinc (pc := 123) X (nI (i + 1)) 3 [(3, .int (nI (i + 1))), (0, .ref q), (1, .int (nI nn)), (2, .int 0), (4, .int (nI j))] dX10_drift_123 rfl (n_add (x := i) (y := 1) rfl rfl (by omega)) (by decide) rfl ?_
                  refine J_goto (pc := 126) X 8 dX10_drift_126 (by decide) ?_
                  refine J_loc [1, 2, 3, 0] (lv2 := [(0, .ref q), (1, .int (nI nn)), (2, .int 0), (3, .int (nI (i + 1)))]) rfl ?_
                  exact ih_8  (i + 1) nw2_u_12 dn2_u_8 (pushF dnc nwc psc) sdd plx_u_12 ydx_u_12 wyx_u_12 pcx_u_12 (by first | assumption | omega | simp_all) (by first | assumption | omega | simp_all) hq2 (dr_step hst (by rw [← show j = wk from by omega]; exact hdw) hq1 hp2) (by omega)
                · have c_10 : j < wk := n_nle_of (a := wk) (b := j) (by omega) (by omega) c_10
                  obtain ⟨pos, hpos, hpk⟩ := hod j (by omega)
                  have hpl := posOk_lt hg hpk
                  refine J_aload_n (pc := 35) X 0 dX10_drift_35 rfl ?_
                  refine J_get (pc := 36) X clX10 0 13 rfl (by decide) g902 rfl dX10_drift_36 ?_
                  refine J_iconst (pc := 39) X 2 dX10_drift_39 (by decide) ?_
                  refine J_iconst (pc := 40) X 3 dX10_drift_40 (by decide) ?_
                  refine J_iload (pc := 41) X 4 dX10_drift_41 rfl ?_
                  refine J_imul (pc := 43) X dX10_drift_43 ?_
                  refine J_top (y := nI (3 * j)) (n_mul (x := 3) (y := j) rfl rfl (by omega)) ?_
                  refine J_iadd (pc := 44) X dX10_drift_44 ?_
                  refine J_top (y := nI (3 * j + 2)) (n_add (x := 2) (y := 3 * j) rfl rfl (by omega)) ?_
                  refine J_iald (pc := 45) X 4 0 (3 * j + 2) rfl rfl rfl (by omega) (by decide) dX10_drift_45 ?_
                  refine J_top (y := nI pos) hpos ?_
                  refine J_bipush (pc := 46) X 100 dX10_drift_46 (by decide) ?_
                  refine J_icmp_ge (pc := 48) X 113 dX10_drift_48 (by decide) (fun c_14 => ?_) (fun c_14 => ?_)
                  · have c_14 : 100 ≤ pos := n_le_of (a := 100) (b := pos) (by omega) (by omega) c_14
                    refine J_iinc (pc := 113) X (nI (j + 1)) 4 [(4, .int (nI (j + 1))), (0, .ref q), (1, .int (nI nn)), (2, .int 0), (3, .int (nI i))] dX10_drift_113 rfl (n_add (x := j) (y := 1) rfl rfl (by omega)) (by decide) rfl ?_
                    refine J_goto (pc := 116) X 24 dX10_drift_116 (by decide) ?_
                    refine J_loc [1, 2, 3, 4, 0] (lv2 := [(0, .ref q), (1, .int (nI nn)), (2, .int 0), (3, .int (nI i)), (4, .int (nI (j + 1)))]) rfl ?_
                    exact ih_24  (j + 1) nwd sdd (by first | assumption | omega | simp_all) (by first | exact dw_out hdw hpos hpl (by omega) | exact dw_in hdw hpos hpl (by omega) (by first | exact (if_pos (by assumption)).symm | (rw [if_neg (by assumption)]; exact (if_pos (by assumption)).symm) | (rw [if_neg (by assumption), if_neg (by assumption)]; exact (if_pos (by assumption)).symm) | (rw [if_neg (by assumption), if_neg (by assumption)]; exact (if_neg (by assumption)).symm))) (by first | exact hod | exact okS_w hod) (by omega)
                  · have c_14 : pos < 100 := n_nle_of (a := 100) (b := pos) (by omega) (by omega) c_14
                    refine J_aload_n (pc := 51) X 0 dX10_drift_51 rfl ?_
                    refine J_iconst (pc := 52) X 4 dX10_drift_52 (by decide) ?_
                    refine J_callI (pc := 53) (As := [.int 4]) (rest := []) X mtX10_draw g1143 [0] [1, 2, 3, 4, 5] [5, 0, 1, 2, 3, 4] 0 (fun u => [(q, .inr (10, [.ref qtx, .int (nI ln), .int fa, .ref qlw, .ref qgp, .ref qhm, .ref qpcs, .ref qdl, .ref qdg, .ref qdh, .ref qdp, .int dr, .int tl, .ref qnw, .ref qps, .int (nI dn2_u_8), .ref qim, .ref qisd, .ref qkp, .int (rnd sdd), .ref qfd, .int (nI fn), .ref qbk, .int (nI en), .int (nI at_), .int (nI wr), .int plx, .int ydx, .int wyx, .int pcx, .ref qal, .ref qco])), (qlw, .inl (cI, 5, .inl lw)), (qgp, .inl (cI, 8, .inl gp)), (qpcs, .inl (cI, 4, .inl pcs)), (qnw, .inl (cI, 14, .inl nwd)), (qps, .inl (cI, 420, .inl (pushF dnc nwc psc)))]) (kX10_draw l G cI cC cZ q qtx qlw qgp qhm qpcs qdl qdg qdh qdp qnw qps qim qisd qkp qfd qbk qal qco ln fa dr dn2_u_8 sdd fn en at_ wr plx ydx wyx pcx tl ) ⟨Nat.le_of_ble_eq_true rfl, Nat.le_of_ble_eq_true rfl⟩ rfl rfl rfl (by decide) (wr := [(qlw, .inl (cI, 5, .inl lw)), (qgp, .inl (cI, 8, .inl gp)), (qpcs, .inl (cI, 4, .inl pcs)), (qnw, .inl (cI, 14, .inl nwd)), (qps, .inl (cI, 420, .inl (pushF dnc nwc psc)))]) rfl (by decide) (by decide) (fun _ => rfl) (by decide) rfl rfl rfl rfl rfl (Nat.le_of_ble_eq_true rfl) (Nat.zero_le _) (Nat.zero_le _) dX10_drift_53 (fun r_15 u_16 w_17 => ?_)
                    try dsimp only at w_17
                    try dsimp only at w_17
                    subst w_17
                    refine J_istore (pc := 56) X [(5, .int (drw sdd)), (0, .ref q), (1, .int (nI nn)), (2, .int 0), (3, .int (nI i)), (4, .int (nI j))] dX10_drift_56 (by decide) rfl ?_
                    refine J_aload_n (pc := 58) X 1 dX10_drift_58 rfl ?_
                    refine J_get (pc := 59) X clX10 0 13 rfl (by decide) g902 rfl dX10_drift_59 ?_
                    refine J_iconst (pc := 62) X 2 dX10_drift_62 (by decide) ?_
                    refine J_iconst (pc := 63) X 3 dX10_drift_63 (by decide) ?_
                    refine J_iload (pc := 64) X 5 dX10_drift_64 rfl ?_
                    refine J_imul (pc := 66) X dX10_drift_66 ?_
                    refine J_top (y := nI (3 * j)) (n_mul (x := 3) (y := j) rfl rfl (by omega)) ?_
                    refine J_iadd (pc := 67) X dX10_drift_67 ?_
                    refine J_top (y := nI (3 * j + 2)) (n_add (x := 2) (y := 3 * j) rfl rfl (by omega)) ?_
                    refine J_iconst (pc := 68) X 2 dX10_drift_68 (by decide) ?_
                    refine J_iadd (pc := 69) X dX10_drift_69 ?_
                    refine J_top (y := nI (3 * j + 4)) (n_add (x := 3 * j + 2) (y := 2) rfl rfl (by omega)) ?_
                    refine J_iload (pc := 70) X 0 dX10_drift_70 rfl ?_
                    refine J_if_ne (pc := 72) X 79 dX10_drift_72 (by decide) (fun c_18 => ?_) (fun c_18 => ?_)
                    · skip
                      refine J_iload (pc := 79) X 0 dX10_drift_79 rfl ?_
                      refine J_iconst (pc := 81) X 1 dX10_drift_81 (by decide) ?_
                      refine J_icmp_ne (pc := 82) X 89 dX10_drift_82 (by decide) (fun c_19 => ?_) (fun c_19 => ?_)
                      · skip
                        refine J_iload (pc := 89) X 0 dX10_drift_89 rfl ?_
                        refine J_iconst (pc := 91) X 2 dX10_drift_91 (by decide) ?_
                        refine J_icmp_ne (pc := 92) X 99 dX10_drift_92 (by decide) (fun c_20 => ?_) (fun c_20 => ?_)
                        · skip
                          refine J_aload_n (pc := 99) X 1 dX10_drift_99 rfl ?_
                          refine J_get (pc := 100) X clX10 0 13 rfl (by decide) g902 rfl dX10_drift_100 ?_
                          refine J_iconst (pc := 103) X 2 dX10_drift_103 (by decide) ?_
                          refine J_iconst (pc := 104) X 3 dX10_drift_104 (by decide) ?_
                          refine J_iload (pc := 105) X 5 dX10_drift_105 rfl ?_
                          refine J_imul (pc := 107) X dX10_drift_107 ?_
                          refine J_top (y := nI (3 * j)) (n_mul (x := 3) (y := j) rfl rfl (by omega)) ?_
                          refine J_iadd (pc := 108) X dX10_drift_108 ?_
                          refine J_top (y := nI (3 * j + 2)) (n_add (x := 2) (y := 3 * j) rfl rfl (by omega)) ?_
                          refine J_iconst (pc := 109) X 2 dX10_drift_109 (by decide) ?_
                          refine J_iadd (pc := 110) X dX10_drift_110 ?_
                          refine J_top (y := nI (3 * j + 4)) (n_add (x := 3 * j + 2) (y := 2) rfl rfl (by omega)) ?_
                          refine J_iald (pc := 111) X 4 0 (3 * j + 4) rfl rfl rfl (by omega) (by decide) dX10_drift_111 ?_
                          refine J_iast (pc := 112) X 4 0 (3 * j + 4) [(q, .inr (10, [.ref qtx, .int (nI ln), .int fa, .ref qlw, .ref qgp, .ref qhm, .ref qpcs, .ref qdl, .ref qdg, .ref qdh, .ref qdp, .int dr, .int tl, .ref qnw, .ref qps, .int (nI dn2_u_8), .ref qim, .ref qisd, .ref qkp, .int (rnd sdd), .ref qfd, .int (nI fn), .ref qbk, .int (nI en), .int (nI at_), .int (nI wr), .int plx, .int ydx, .int wyx, .int pcx, .ref qal, .ref qco])), (qlw, .inl (cI, 5, .inl lw)), (qgp, .inl (cI, 8, .inl gp)), (qpcs, .inl (cI, 4, .inl pcs)), (qnw, .inl (cI, 14, .inl (upd nwd (3 * j + 4) (nwd (3 * j + 4))))), (qps, .inl (cI, 420, .inl (pushF dnc nwc psc)))] rfl rfl rfl (by omega) (by decide) rfl dX10_drift_112 ?_
                          refine J_iinc (pc := 113) X (nI (j + 1)) 5 [(4, .int (nI (j + 1))), (5, .int (drw sdd)), (0, .ref q), (1, .int (nI nn)), (2, .int 0), (3, .int (nI i))] dX10_drift_113 rfl (n_add (x := j) (y := 1) rfl rfl (by omega)) (by decide) rfl ?_
                          refine J_goto (pc := 116) X 24 dX10_drift_116 (by decide) ?_
                          refine J_loc [2, 3, 4, 5, 0] (lv2 := [(0, .ref q), (1, .int (nI nn)), (2, .int 0), (3, .int (nI i)), (4, .int (nI (j + 1)))]) rfl ?_
                          exact ih_24  (j + 1) (upd nwd (3 * j + 4) (nwd (3 * j + 4))) (rnd sdd) (by first | assumption | omega | simp_all) (by first | exact dw_out hdw hpos hpl (by omega) | exact dw_in hdw hpos hpl (by omega) (by first | exact (if_pos (by assumption)).symm | (rw [if_neg (by assumption)]; exact (if_pos (by assumption)).symm) | (rw [if_neg (by assumption), if_neg (by assumption)]; exact (if_pos (by assumption)).symm) | (rw [if_neg (by assumption), if_neg (by assumption)]; exact (if_neg (by assumption)).symm))) (by first | exact hod | exact okS_w hod) (by omega)
                        · skip
                          refine J_iconst (pc := 95) X 1 dX10_drift_95 (by decide) ?_
                          refine J_goto (pc := 96) X 112 dX10_drift_96 (by decide) ?_
                          refine J_iast (pc := 112) X 4 0 (3 * j + 4) [(q, .inr (10, [.ref qtx, .int (nI ln), .int fa, .ref qlw, .ref qgp, .ref qhm, .ref qpcs, .ref qdl, .ref qdg, .ref qdh, .ref qdp, .int dr, .int tl, .ref qnw, .ref qps, .int (nI dn2_u_8), .ref qim, .ref qisd, .ref qkp, .int (rnd sdd), .ref qfd, .int (nI fn), .ref qbk, .int (nI en), .int (nI at_), .int (nI wr), .int plx, .int ydx, .int wyx, .int pcx, .ref qal, .ref qco])), (qlw, .inl (cI, 5, .inl lw)), (qgp, .inl (cI, 8, .inl gp)), (qpcs, .inl (cI, 4, .inl pcs)), (qnw, .inl (cI, 14, .inl (upd nwd (3 * j + 4) 1))), (qps, .inl (cI, 420, .inl (pushF dnc nwc psc)))] rfl rfl rfl (by omega) (by decide) rfl dX10_drift_112 ?_
                          refine J_iinc (pc := 113) X (nI (j + 1)) 5 [(4, .int (nI (j + 1))), (5, .int (drw sdd)), (0, .ref q), (1, .int (nI nn)), (2, .int 0), (3, .int (nI i))] dX10_drift_113 rfl (n_add (x := j) (y := 1) rfl rfl (by omega)) (by decide) rfl ?_
                          refine J_goto (pc := 116) X 24 dX10_drift_116 (by decide) ?_
                          refine J_loc [2, 3, 4, 5, 0] (lv2 := [(0, .ref q), (1, .int (nI nn)), (2, .int 0), (3, .int (nI i)), (4, .int (nI (j + 1)))]) rfl ?_
                          exact ih_24  (j + 1) (upd nwd (3 * j + 4) 1) (rnd sdd) (by first | assumption | omega | simp_all) (by first | exact dw_out hdw hpos hpl (by omega) | exact dw_in hdw hpos hpl (by omega) (by first | exact (if_pos (by assumption)).symm | (rw [if_neg (by assumption)]; exact (if_pos (by assumption)).symm) | (rw [if_neg (by assumption), if_neg (by assumption)]; exact (if_pos (by assumption)).symm) | (rw [if_neg (by assumption), if_neg (by assumption)]; exact (if_neg (by assumption)).symm))) (by first | exact hod | exact okS_w hod) (by omega)
                      · skip
                        refine J_iconst (pc := 85) X 0 dX10_drift_85 (by decide) ?_
                        refine J_goto (pc := 86) X 112 dX10_drift_86 (by decide) ?_
                        refine J_iast (pc := 112) X 4 0 (3 * j + 4) [(q, .inr (10, [.ref qtx, .int (nI ln), .int fa, .ref qlw, .ref qgp, .ref qhm, .ref qpcs, .ref qdl, .ref qdg, .ref qdh, .ref qdp, .int dr, .int tl, .ref qnw, .ref qps, .int (nI dn2_u_8), .ref qim, .ref qisd, .ref qkp, .int (rnd sdd), .ref qfd, .int (nI fn), .ref qbk, .int (nI en), .int (nI at_), .int (nI wr), .int plx, .int ydx, .int wyx, .int pcx, .ref qal, .ref qco])), (qlw, .inl (cI, 5, .inl lw)), (qgp, .inl (cI, 8, .inl gp)), (qpcs, .inl (cI, 4, .inl pcs)), (qnw, .inl (cI, 14, .inl (upd nwd (3 * j + 4) 0))), (qps, .inl (cI, 420, .inl (pushF dnc nwc psc)))] rfl rfl rfl (by omega) (by decide) rfl dX10_drift_112 ?_
                        refine J_iinc (pc := 113) X (nI (j + 1)) 5 [(4, .int (nI (j + 1))), (5, .int (drw sdd)), (0, .ref q), (1, .int (nI nn)), (2, .int 0), (3, .int (nI i))] dX10_drift_113 rfl (n_add (x := j) (y := 1) rfl rfl (by omega)) (by decide) rfl ?_
                        refine J_goto (pc := 116) X 24 dX10_drift_116 (by decide) ?_
                        refine J_loc [2, 3, 4, 5, 0] (lv2 := [(0, .ref q), (1, .int (nI nn)), (2, .int 0), (3, .int (nI i)), (4, .int (nI (j + 1)))]) rfl ?_
                        exact ih_24  (j + 1) (upd nwd (3 * j + 4) 0) (rnd sdd) (by first | assumption | omega | simp_all) (by first | exact dw_out hdw hpos hpl (by omega) | exact dw_in hdw hpos hpl (by omega) (by first | exact (if_pos (by assumption)).symm | (rw [if_neg (by assumption)]; exact (if_pos (by assumption)).symm) | (rw [if_neg (by assumption), if_neg (by assumption)]; exact (if_pos (by assumption)).symm) | (rw [if_neg (by assumption), if_neg (by assumption)]; exact (if_neg (by assumption)).symm))) (by first | exact hod | exact okS_w hod) (by omega)
                    · skip
                      refine J_iconst (pc := 75) X 2 dX10_drift_75 (by decide) ?_
                      refine J_goto (pc := 76) X 112 dX10_drift_76 (by decide) ?_
                      refine J_iast (pc := 112) X 4 0 (3 * j + 4) [(q, .inr (10, [.ref qtx, .int (nI ln), .int fa, .ref qlw, .ref qgp, .ref qhm, .ref qpcs, .ref qdl, .ref qdg, .ref qdh, .ref qdp, .int dr, .int tl, .ref qnw, .ref qps, .int (nI dn2_u_8), .ref qim, .ref qisd, .ref qkp, .int (rnd sdd), .ref qfd, .int (nI fn), .ref qbk, .int (nI en), .int (nI at_), .int (nI wr), .int plx, .int ydx, .int wyx, .int pcx, .ref qal, .ref qco])), (qlw, .inl (cI, 5, .inl lw)), (qgp, .inl (cI, 8, .inl gp)), (qpcs, .inl (cI, 4, .inl pcs)), (qnw, .inl (cI, 14, .inl (upd nwd (3 * j + 4) 2))), (qps, .inl (cI, 420, .inl (pushF dnc nwc psc)))] rfl rfl rfl (by omega) (by decide) rfl dX10_drift_112 ?_
                      refine J_iinc (pc := 113) X (nI (j + 1)) 5 [(4, .int (nI (j + 1))), (5, .int (drw sdd)), (0, .ref q), (1, .int (nI nn)), (2, .int 0), (3, .int (nI i))] dX10_drift_113 rfl (n_add (x := j) (y := 1) rfl rfl (by omega)) (by decide) rfl ?_
                      refine J_goto (pc := 116) X 24 dX10_drift_116 (by decide) ?_
                      refine J_loc [2, 3, 4, 5, 0] (lv2 := [(0, .ref q), (1, .int (nI nn)), (2, .int 0), (3, .int (nI i)), (4, .int (nI (j + 1)))]) rfl ?_
                      exact ih_24  (j + 1) (upd nwd (3 * j + 4) 2) (rnd sdd) (by first | assumption | omega | simp_all) (by first | exact dw_out hdw hpos hpl (by omega) | exact dw_in hdw hpos hpl (by omega) (by first | exact (if_pos (by assumption)).symm | (rw [if_neg (by assumption)]; exact (if_pos (by assumption)).symm) | (rw [if_neg (by assumption), if_neg (by assumption)]; exact (if_pos (by assumption)).symm) | (rw [if_neg (by assumption), if_neg (by assumption)]; exact (if_neg (by assumption)).symm))) (by first | exact hod | exact okS_w hod) (by omega)
            refine J_loc [1, 2, 3, 4, 0] (lv2 := [(0, .ref q), (1, .int (nI nn)), (2, .int 0), (3, .int (nI i)), (4, .int 0)]) rfl ?_
            exact L_24 _  0 nwc sdc (by first | assumption | omega | simp_all) rfl hoc (Nat.lt_succ_self _)
    refine J_loc [2, 3, 1, 0] (lv2 := [(0, .ref q), (1, .int (nI nn)), (2, .int 0), (3, .int 0)]) rfl ?_
    exact L_8 _  0 nw dn ps sd pl yd wy pce_ (by first | assumption | omega | simp_all) hdn hok rfl (Nat.lt_succ_self _)
  · skip
    refine J_iconst (pc := 6) X 0 dX10_drift_6 (by decide) ?_
    refine J_istore_n (pc := 7) X [(3, .int 0), (2, .int (barP n P (nw 0))), (0, .ref q), (1, .int n)] dX10_drift_7 (by decide) rfl ?_
    refine J_iload_n (pc := 8) X 0 dX10_drift_8 rfl ?_
    refine J_iload_n (pc := 9) X 3 dX10_drift_9 rfl ?_
    refine J_icmp_ge (pc := 10) X 129 dX10_drift_10 (by decide) (fun c_21 => ?_) (fun c_21 => ?_)
    · have c_21 := Int32.not_lt.mpr c_21
      refine J_iload_n (pc := 129) X 1 dX10_drift_129 rfl ?_
      refine J_if_ne (pc := 130) X 142 dX10_drift_130 (by decide) (fun c_22 => ?_) (fun c_22 => ?_)
      · skip
        refine J_iload_n (pc := 142) X 1 dX10_drift_142 rfl ?_
        refine J_iret (pc := 143) X hr (nw, dn, ps, sd, pl, yd, wy, pce_) dX10_drift_143 ?_ rfl
        refine ⟨?_, ?_, hok, hdn⟩
        · rw [if_neg hb]
        · rw [driS, if_neg hb]
      · skip
        exact absurd c_22 hb
    · have c_21 := Int32.not_le.mp c_21
      refine J_iload_n (pc := 13) X 1 dX10_drift_13 rfl ?_
      refine J_if_ne (pc := 14) X 129 dX10_drift_14 (by decide) (fun c_23 => ?_) (fun c_23 => ?_)
      · skip
        refine J_iload_n (pc := 129) X 1 dX10_drift_129 rfl ?_
        refine J_if_ne (pc := 130) X 142 dX10_drift_130 (by decide) (fun c_24 => ?_) (fun c_24 => ?_)
        · skip
          refine J_iload_n (pc := 142) X 1 dX10_drift_142 rfl ?_
          refine J_iret (pc := 143) X hr (nw, dn, ps, sd, pl, yd, wy, pce_) dX10_drift_143 ?_ rfl
          refine ⟨?_, ?_, hok, hdn⟩
          · rw [if_neg hb]
          · rw [driS, if_neg hb]
        · skip
          exact absurd c_24 c_23
      · skip
        exact absurd c_23 hb
