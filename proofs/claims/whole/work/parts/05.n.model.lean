set_option maxRecDepth 100000 in
set_option maxHeartbeats 600000 in
theorem kX10_alikeBy (l : Launch) (G : va_G) (cI cC cZ : ClassId) (q : Nat) (qtx : Nat) (qlw : Nat) (qgp : Nat) (qhm : Nat) (qpcs : Nat) (qdl : Nat) (qdg : Nat) (qdh : Nat) (qdp : Nat) (qnw : Nat) (qps : Nat) (qim : Nat) (qisd : Nat) (qkp : Nat) (qfd : Nat) (qbk : Nat) (qal : Nat) (qco : Nat) (ln : Nat) (fa : Int32) (dr : Int32) (dn : Nat) (sd : Int32) (fn : Nat) (en : Nat) (at_ : Nat) (wr : Nat) (pl : Int32) (yd : Int32) (wy : Int32) (pce_ : Int32) (tl : Int32) (lw : Nat → Int32) (gp : Nat → Int32) (fd : Nat → Int32) (al : Nat → Int32) (P : Nat) (gr : Int32) (wd : Nat) (g : Nat) (wk : Nat) (gn : Nat) (k : Nat) (hPl : P ≤ 60) (hg : g ≤ 8) (hwk : wk ≤ 4) (hwd : wd ≤ 50) (hl0 : lw 0 = nI P) (hl1 : lw 1 = gr) (hl2 : lw 2 = nI wd) (hl3 : lw 3 = nI g) (hl4 : lw 4 = nI wk) (hgr : gr = nI gn) (hgn : gn ≤ 40) (hk : k < g) (hP0 : 0 < g → 0 < P) (hwd0 : 0 < g → 0 < wd) (hf : fn ≤ 6) (hfd : okFd g fn fd) (hgp : okGp g gp) : CI l G (tys3 cI cC cZ) yX10_alikeBy cX10_alikeBy 5 (some .int) ({ frames := 3, cells := 0, slots := 0, locals := 69 }) [.ref q, .int (nI k)] [(q, .inr (10, [.ref qtx, .int (nI ln), .int fa, .ref qlw, .ref qgp, .ref qhm, .ref qpcs, .ref qdl, .ref qdg, .ref qdh, .ref qdp, .int dr, .int tl, .ref qnw, .ref qps, .int (nI dn), .ref qim, .ref qisd, .ref qkp, .int sd, .ref qfd, .int (nI fn), .ref qbk, .int (nI en), .int (nI at_), .int (nI wr), .int pl, .int yd, .int wy, .int pce_, .ref qal, .ref qco])), (qlw, .inl (cI, 5, .inl lw)), (qgp, .inl (cI, 8, .inl gp)), (qfd, .inl (cI, 12, .inl fd)), (qal, .inl (cI, 1000, .inl al))] (S := (Nat → Int32)) (fun (r : Int32) (u : (Nat → Int32)) => r = alK P wd fn gp fd gr k) (fun (u : (Nat → Int32)) => [(q, .inr (10, [.ref qtx, .int (nI ln), .int fa, .ref qlw, .ref qgp, .ref qhm, .ref qpcs, .ref qdl, .ref qdg, .ref qdh, .ref qdp, .int dr, .int tl, .ref qnw, .ref qps, .int (nI dn), .ref qim, .ref qisd, .ref qkp, .int sd, .ref qfd, .int (nI fn), .ref qbk, .int (nI en), .int (nI at_), .int (nI wr), .int pl, .int yd, .int wy, .int pce_, .ref qal, .ref qco])), (qlw, .inl (cI, 5, .inl lw)), (qgp, .inl (cI, 8, .inl gp)), (qfd, .inl (cI, 12, .inl fd)), (qal, .inl (cI, 1000, .inl u))]) := by
  refine CI.intro (by decide) (Nat.le_of_ble_eq_true rfl) ?_
  intro p0 e0 s0 m0 ar0 be0 me0 c0 A0 X hr
  obtain ⟨D, hD1, hD2⟩ := hgp k hk
  refine J_iconst (pc := 0) X 0 dX10_alikeBy_0 (by decide) ?_
  refine J_istore_n (pc := 1) X [(2, .int 0), (0, .ref q), (1, .int (nI k))] dX10_alikeBy_1 (by decide) rfl ?_
  refine J_iconst (pc := 2) X 0 dX10_alikeBy_2 (by decide) ?_
  refine J_istore_n (pc := 3) X [(3, .int 0), (2, .int 0), (0, .ref q), (1, .int (nI k))] dX10_alikeBy_3 (by decide) rfl ?_
  have L_4 : ∀ (n_4 : Nat) (j : Nat) (a0 : Nat → Int32) (hj : j ≤ 1000) (ha0 : ∀ x9, x9 < j → a0 x9 = 0), (1000 - j) < n_4 → JJ p0 l e0 ({ frames := 3, cells := 0, slots := 0, locals := 69 }) s0 m0 ar0 be0 me0 c0 A0 G 5 0 0 (QI be0 ar0 s0 A0 G (tys3 cI cC cZ) (S := (Nat → Int32)) (fun (r : Int32) (u : (Nat → Int32)) => r = alK P wd fn gp fd gr k) (fun (u : (Nat → Int32)) => [(q, .inr (10, [.ref qtx, .int (nI ln), .int fa, .ref qlw, .ref qgp, .ref qhm, .ref qpcs, .ref qdl, .ref qdg, .ref qdh, .ref qdp, .int dr, .int tl, .ref qnw, .ref qps, .int (nI dn), .ref qim, .ref qisd, .ref qkp, .int sd, .ref qfd, .int (nI fn), .ref qbk, .int (nI en), .int (nI at_), .int (nI wr), .int pl, .int yd, .int wy, .int pce_, .ref qal, .ref qco])), (qlw, .inl (cI, 5, .inl lw)), (qgp, .inl (cI, 8, .inl gp)), (qfd, .inl (cI, 12, .inl fd)), (qal, .inl (cI, 1000, .inl u))])) [(q, .inr (10, [.ref qtx, .int (nI ln), .int fa, .ref qlw, .ref qgp, .ref qhm, .ref qpcs, .ref qdl, .ref qdg, .ref qdh, .ref qdp, .int dr, .int tl, .ref qnw, .ref qps, .int (nI dn), .ref qim, .ref qisd, .ref qkp, .int sd, .ref qfd, .int (nI fn), .ref qbk, .int (nI en), .int (nI at_), .int (nI wr), .int pl, .int yd, .int wy, .int pce_, .ref qal, .ref qco])), (qlw, .inl (cI, 5, .inl lw)), (qgp, .inl (cI, 8, .inl gp)), (qfd, .inl (cI, 12, .inl fd)), (qal, .inl (cI, 1000, .inl a0))] 4 [(0, .ref q), (1, .int (nI k)), (2, .int 0), (3, .int (nI j))] [] := by
    intro n_4
    induction n_4 with
    | zero => intro j a0 hj ha0 hm_4; exact absurd hm_4 (Nat.not_lt_zero _)
    | succ n_4 ih_4 =>
      intro j a0 hj ha0 hm_4
      refine J_iload_n (pc := 4) X 3 dX10_alikeBy_4 rfl ?_
      refine J_sipush (pc := 5) X 1000 dX10_alikeBy_5 (by decide) ?_
      refine J_icmp_ge (pc := 8) X 24 dX10_alikeBy_8 (by decide) (fun c_1 => ?_) (fun c_1 => ?_)
      · have c_1 : 1000 ≤ j := n_le_of (a := 1000) (b := j) (by omega) (by omega) c_1
        refine J_iconst (pc := 24) X 0 dX10_alikeBy_24 (by decide) ?_
        refine J_istore_n (pc := 25) X [(3, .int 0), (0, .ref q), (1, .int (nI k)), (2, .int 0)] dX10_alikeBy_25 (by decide) rfl ?_
        have L_26 : ∀ (n_26 : Nat) (i : Nat) (a1 : Nat → Int32) (mo : Int32) (hi : i ≤ 2 * P) (ha1 : ∀ x9, x9 < 1000 → a1 x9 = (taTo (fun t9 => fsQ P wd fn gp fd gr (nI t9)) (tlH P wd gp gr k) i).1 x9) (hmo : mo = (taTo (fun t9 => fsQ P wd fn gp fd gr (nI t9)) (tlH P wd gp gr k) i).2), (2 * P - i) < n_26 → JJ p0 l e0 ({ frames := 3, cells := 0, slots := 0, locals := 69 }) s0 m0 ar0 be0 me0 c0 A0 G 5 0 0 (QI be0 ar0 s0 A0 G (tys3 cI cC cZ) (S := (Nat → Int32)) (fun (r : Int32) (u : (Nat → Int32)) => r = alK P wd fn gp fd gr k) (fun (u : (Nat → Int32)) => [(q, .inr (10, [.ref qtx, .int (nI ln), .int fa, .ref qlw, .ref qgp, .ref qhm, .ref qpcs, .ref qdl, .ref qdg, .ref qdh, .ref qdp, .int dr, .int tl, .ref qnw, .ref qps, .int (nI dn), .ref qim, .ref qisd, .ref qkp, .int sd, .ref qfd, .int (nI fn), .ref qbk, .int (nI en), .int (nI at_), .int (nI wr), .int pl, .int yd, .int wy, .int pce_, .ref qal, .ref qco])), (qlw, .inl (cI, 5, .inl lw)), (qgp, .inl (cI, 8, .inl gp)), (qfd, .inl (cI, 12, .inl fd)), (qal, .inl (cI, 1000, .inl u))])) [(q, .inr (10, [.ref qtx, .int (nI ln), .int fa, .ref qlw, .ref qgp, .ref qhm, .ref qpcs, .ref qdl, .ref qdg, .ref qdh, .ref qdp, .int dr, .int tl, .ref qnw, .ref qps, .int (nI dn), .ref qim, .ref qisd, .ref qkp, .int sd, .ref qfd, .int (nI fn), .ref qbk, .int (nI en), .int (nI at_), .int (nI wr), .int pl, .int yd, .int wy, .int pce_, .ref qal, .ref qco])), (qlw, .inl (cI, 5, .inl lw)), (qgp, .inl (cI, 8, .inl gp)), (qfd, .inl (cI, 12, .inl fd)), (qal, .inl (cI, 1000, .inl a1))] 26 [(0, .ref q), (1, .int (nI k)), (2, .int mo), (3, .int (nI i))] [] := by
          intro n_26
          induction n_26 with
          | zero => intro i a1 mo hi ha1 hmo hm_26; exact absurd hm_26 (Nat.not_lt_zero _)
          | succ n_26 ih_26 =>
            intro i a1 mo hi ha1 hmo hm_26
            refine J_iload_n (pc := 26) X 3 dX10_alikeBy_26 rfl ?_
            refine J_iconst (pc := 27) X 2 dX10_alikeBy_27 (by decide) ?_
            refine J_aload_n (pc := 28) X 0 dX10_alikeBy_28 rfl ?_
            refine J_get (pc := 29) X clX10 0 3 rfl (by decide) g892 rfl dX10_alikeBy_29 ?_
            refine J_iconst (pc := 32) X 0 dX10_alikeBy_32 (by decide) ?_
            refine J_iald (pc := 33) X 1 0 0 rfl rfl rfl (by decide) (by decide) dX10_alikeBy_33 ?_
            refine J_top (y := nI P) hl0 ?_
            refine J_imul (pc := 34) X dX10_alikeBy_34 ?_
            refine J_top (y := nI (2 * P)) (n_mul (x := 2) (y := P) rfl rfl (by omega)) ?_
            refine J_icmp_ge (pc := 35) X 104 dX10_alikeBy_35 (by decide) (fun c_2 => ?_) (fun c_2 => ?_)
            · have c_2 : 2 * P ≤ i := n_le_of (a := 2 * P) (b := i) (by omega) (by omega) c_2
              refine J_iload_n (pc := 104) X 2 dX10_alikeBy_104 rfl ?_
              refine J_iret (pc := 105) X hr a1 dX10_alikeBy_105 ?_ rfl
              rw [alK, hmo, show i = 2 * P from by omega]
            · have c_2 : i < 2 * P := n_nle_of (a := 2 * P) (b := i) (by omega) (by omega) c_2
              refine J_aload_n (pc := 38) X 0 dX10_alikeBy_38 rfl ?_
              refine J_aload_n (pc := 39) X 0 dX10_alikeBy_39 rfl ?_
              refine J_get (pc := 40) X clX10 0 3 rfl (by decide) g892 rfl dX10_alikeBy_40 ?_
              refine J_iconst (pc := 43) X 1 dX10_alikeBy_43 (by decide) ?_
              refine J_iald (pc := 44) X 1 0 1 rfl rfl rfl (by decide) (by decide) dX10_alikeBy_44 ?_
              refine J_top (y := gr) hl1 ?_
              refine J_iload_n (pc := 45) X 3 dX10_alikeBy_45 rfl ?_
              refine J_callR (pc := 46) (As := [.int gr, .int (nI i)]) (rest := []) X mtX10_isSoBy g1240 [0, 1, 2, 3] 0 (kX10_isSoBy l G cI cC cZ q qtx qlw qgp qhm qpcs qdl qdg qdh qdp qnw qps qim qisd qkp qfd qbk qal qco ln fa dr dn sd fn en at_ wr pl yd wy pce_ tl lw gp fd P gr wd g wk gr (nI i) (by first | assumption | omega) (by first | assumption | omega) (by first | assumption | omega) (by first | assumption | omega) (by first | assumption | omega) (by first | assumption | omega) (by first | assumption | omega) (by first | assumption | omega) (by first | assumption | omega) (by first | assumption | omega) (by first | assumption | omega) (by first | assumption | omega) (by first | assumption | omega)) ⟨Nat.le_of_ble_eq_true rfl, Nat.le_of_ble_eq_true rfl⟩ rfl rfl rfl (by decide) rfl rfl rfl rfl rfl (Nat.le_of_ble_eq_true rfl) (Nat.zero_le _) (Nat.zero_le _) dX10_alikeBy_46 (fun r_3 u_4 w_5 => ?_)
              try dsimp only at w_5
              subst w_5
              refine J_bif_eq (pc := 49) X 98 dX10_alikeBy_49 (by decide) (fun c_6 => ?_) (fun c_6 => ?_)
              · skip
                refine J_iinc (pc := 98) X (nI (i + 1)) 3 [(3, .int (nI (i + 1))), (0, .ref q), (1, .int (nI k)), (2, .int mo)] dX10_alikeBy_98 rfl (n_add (x := i) (y := 1) rfl rfl (by omega)) (by decide) rfl ?_
                refine J_goto (pc := 101) X 26 dX10_alikeBy_101 (by decide) ?_
                refine J_loc [1, 2, 3, 0] (lv2 := [(0, .ref q), (1, .int (nI k)), (2, .int mo), (3, .int (nI (i + 1)))]) rfl ?_
                exact ih_26  (i + 1) a1 mo (by first | assumption | omega | simp_all) (by first | exact ta_upd (by assumption) hxc (by omega) ha1 | (rw [ta_out (by assumption)]; exact ha1)) (by first | (rw [ta_out (by assumption)]; exact hmo) | (rw [← ta_max (by assumption) hxc (show hx < 1000 from by omega) ha1 hmo]; simp only [upd_s] at *; first | exact (if_pos (by assumption)).symm | exact (if_neg (by assumption)).symm)) (by omega)
              · skip
                refine J_aload_n (pc := 52) X 0 dX10_alikeBy_52 rfl ?_
                refine J_aload_n (pc := 53) X 0 dX10_alikeBy_53 rfl ?_
                refine J_iload_n (pc := 54) X 1 dX10_alikeBy_54 rfl ?_
                refine J_iload_n (pc := 55) X 3 dX10_alikeBy_55 rfl ?_
                refine J_callR (pc := 56) (As := [.int (nI k), .int (nI i)]) (rest := [.ref q]) X mtX10_yardsOf g1067 [0, 1, 2] 0 (kX10_yardsOf l G cI cC cZ q qtx qlw qgp qhm qpcs qdl qdg qdh qdp qnw qps qim qisd qkp qfd qbk qal qco ln fa dr dn sd fn en at_ wr pl yd wy pce_ tl lw gp P gr wd g wk k (nI i) (by first | assumption | omega) (by first | assumption | omega) (by first | assumption | omega) (by first | assumption | omega) (by first | assumption | omega) (by first | assumption | omega) (by first | assumption | omega) (by first | assumption | omega) (by first | assumption | omega) (by first | assumption | omega) (by first | assumption | omega)) ⟨Nat.le_of_ble_eq_true rfl, Nat.le_of_ble_eq_true rfl⟩ rfl rfl rfl (by decide) rfl rfl rfl rfl rfl (Nat.le_of_ble_eq_true rfl) (Nat.zero_le _) (Nat.zero_le _) dX10_alikeBy_56 (fun r_7 u_8 w_9 => ?_)
                try dsimp only at w_9
                subst w_9
                refine J_callR (pc := 59) (As := [.int (yG P (gp k) gr (nI i))]) (rest := []) X mtX10_nightHouses g1078 [0, 1] 0 (kX10_nightHouses l G cI cC cZ q qtx qlw qgp qhm qpcs qdl qdg qdh qdp qnw qps qim qisd qkp qfd qbk qal qco ln fa dr dn sd fn en at_ wr pl yd wy pce_ tl lw P gr wd g wk (yG P (gp k) gr (nI i)) (by first | assumption | omega) (by first | assumption | omega) (by first | assumption | omega) (by first | assumption | omega) (by first | assumption | omega) (by first | assumption | omega) (by first | assumption | omega) (by first | assumption | omega) (by first | assumption | omega) (by first | assumption | omega)) ⟨Nat.le_of_ble_eq_true rfl, Nat.le_of_ble_eq_true rfl⟩ rfl rfl rfl (by decide) rfl rfl rfl rfl rfl (Nat.le_of_ble_eq_true rfl) (Nat.zero_le _) (Nat.zero_le _) dX10_alikeBy_59 (fun r_10 u_11 w_12 => ?_)
                try dsimp only at w_12
                subst w_12
                obtain ⟨hx, hhx, hxe⟩ := nH_nat (t := i) (by omega) hPl hD1 hgn (by omega) (by omega) hwd
                rw [← hD2, ← hgr] at hxe
                have hxc : tlH P wd gp gr k i = hx := by show Int32.toNatClampNeg _ = _; rw [hxe]; exact nI_clamp (by omega)
                refine J_top (y := nI hx) hxe ?_
                refine J_istore (pc := 62) X [(4, .int (nI hx)), (0, .ref q), (1, .int (nI k)), (2, .int mo), (3, .int (nI i))] dX10_alikeBy_62 (by decide) rfl ?_
                refine J_aload_n (pc := 64) X 1 dX10_alikeBy_64 rfl ?_
                refine J_get (pc := 65) X clX10 0 30 rfl (by decide) g919 rfl dX10_alikeBy_65 ?_
                refine J_iload (pc := 68) X 0 dX10_alikeBy_68 rfl ?_
                refine J_dup2 (pc := 70) X dX10_alikeBy_70 rfl rfl ?_
                refine J_iald (pc := 71) X 4 0 hx rfl rfl rfl (by omega) (by decide) dX10_alikeBy_71 ?_
                refine J_iconst (pc := 72) X 1 dX10_alikeBy_72 (by decide) ?_
                refine J_iadd (pc := 73) X dX10_alikeBy_73 ?_
                refine J_iast (pc := 74) X 4 0 hx [(q, .inr (10, [.ref qtx, .int (nI ln), .int fa, .ref qlw, .ref qgp, .ref qhm, .ref qpcs, .ref qdl, .ref qdg, .ref qdh, .ref qdp, .int dr, .int tl, .ref qnw, .ref qps, .int (nI dn), .ref qim, .ref qisd, .ref qkp, .int sd, .ref qfd, .int (nI fn), .ref qbk, .int (nI en), .int (nI at_), .int (nI wr), .int pl, .int yd, .int wy, .int pce_, .ref qal, .ref qco])), (qlw, .inl (cI, 5, .inl lw)), (qgp, .inl (cI, 8, .inl gp)), (qfd, .inl (cI, 12, .inl fd)), (qal, .inl (cI, 1000, .inl (upd a1 hx ((a1 hx) + 1))))] rfl rfl rfl (by omega) (by decide) rfl dX10_alikeBy_74 ?_
                refine J_aload_n (pc := 75) X 1 dX10_alikeBy_75 rfl ?_
                refine J_get (pc := 76) X clX10 0 30 rfl (by decide) g919 rfl dX10_alikeBy_76 ?_
                refine J_iload (pc := 79) X 0 dX10_alikeBy_79 rfl ?_
                refine J_iald (pc := 81) X 4 0 hx rfl rfl rfl (by omega) (by decide) dX10_alikeBy_81 ?_
                refine J_iload_n (pc := 82) X 3 dX10_alikeBy_82 rfl ?_
                refine J_icmp_le (pc := 83) X 96 dX10_alikeBy_83 (by decide) (fun c_13 => ?_) (fun c_13 => ?_)
                · have c_13 := Int32.not_lt.mpr c_13
                  refine J_iload_n (pc := 96) X 3 dX10_alikeBy_96 rfl ?_
                  refine J_istore_n (pc := 97) X [(2, .int mo), (4, .int (nI hx)), (0, .ref q), (1, .int (nI k)), (3, .int (nI i))] dX10_alikeBy_97 (by decide) rfl ?_
                  refine J_iinc (pc := 98) X (nI (i + 1)) 4 [(3, .int (nI (i + 1))), (2, .int mo), (4, .int (nI hx)), (0, .ref q), (1, .int (nI k))] dX10_alikeBy_98 rfl (n_add (x := i) (y := 1) rfl rfl (by omega)) (by decide) rfl ?_
                  refine J_goto (pc := 101) X 26 dX10_alikeBy_101 (by decide) ?_
                  refine J_loc [3, 4, 1, 0] (lv2 := [(0, .ref q), (1, .int (nI k)), (2, .int mo), (3, .int (nI (i + 1)))]) rfl ?_
                  exact ih_26  (i + 1) (upd a1 hx ((a1 hx) + 1)) mo (by first | assumption | omega | simp_all) (by first | exact ta_upd (by assumption) hxc (by omega) ha1 | (rw [ta_out (by assumption)]; exact ha1)) (by first | (rw [ta_out (by assumption)]; exact hmo) | (rw [← ta_max (by assumption) hxc (show hx < 1000 from by omega) ha1 hmo]; simp only [upd_s] at *; first | exact (if_pos (by assumption)).symm | exact (if_neg (by assumption)).symm)) (by omega)
                · have c_13 := Int32.not_le.mp c_13
                  refine J_aload_n (pc := 86) X 1 dX10_alikeBy_86 rfl ?_
                  refine J_get (pc := 87) X clX10 0 30 rfl (by decide) g919 rfl dX10_alikeBy_87 ?_
                  refine J_iload (pc := 90) X 0 dX10_alikeBy_90 rfl ?_
                  refine J_iald (pc := 92) X 4 0 hx rfl rfl rfl (by omega) (by decide) dX10_alikeBy_92 ?_
                  refine J_goto (pc := 93) X 97 dX10_alikeBy_93 (by decide) ?_
                  refine J_istore_n (pc := 97) X [(2, .int ((upd a1 hx ((a1 hx) + 1)) hx)), (4, .int (nI hx)), (0, .ref q), (1, .int (nI k)), (3, .int (nI i))] dX10_alikeBy_97 (by decide) rfl ?_
                  refine J_iinc (pc := 98) X (nI (i + 1)) 4 [(3, .int (nI (i + 1))), (2, .int ((upd a1 hx ((a1 hx) + 1)) hx)), (4, .int (nI hx)), (0, .ref q), (1, .int (nI k))] dX10_alikeBy_98 rfl (n_add (x := i) (y := 1) rfl rfl (by omega)) (by decide) rfl ?_
                  refine J_goto (pc := 101) X 26 dX10_alikeBy_101 (by decide) ?_
                  refine J_loc [3, 4, 1, 0] (lv2 := [(0, .ref q), (1, .int (nI k)), (2, .int ((upd a1 hx ((a1 hx) + 1)) hx)), (3, .int (nI (i + 1)))]) rfl ?_
                  exact ih_26  (i + 1) (upd a1 hx ((a1 hx) + 1)) ((upd a1 hx ((a1 hx) + 1)) hx) (by first | assumption | omega | simp_all) (by first | exact ta_upd (by assumption) hxc (by omega) ha1 | (rw [ta_out (by assumption)]; exact ha1)) (by first | (rw [ta_out (by assumption)]; exact hmo) | (rw [← ta_max (by assumption) hxc (show hx < 1000 from by omega) ha1 hmo]; simp only [upd_s] at *; first | exact (if_pos (by assumption)).symm | exact (if_neg (by assumption)).symm)) (by omega)
        refine J_loc [1, 2, 3, 0] (lv2 := [(0, .ref q), (1, .int (nI k)), (2, .int 0), (3, .int 0)]) rfl ?_
        exact L_26 _  0 a0 0 (by first | assumption | omega | simp_all) (fun x9 h9 => ha0 x9 (by omega)) rfl (Nat.lt_succ_self _)
      · have c_1 : j < 1000 := n_nle_of (a := 1000) (b := j) (by omega) (by omega) c_1
        refine J_aload_n (pc := 11) X 0 dX10_alikeBy_11 rfl ?_
        refine J_get (pc := 12) X clX10 0 30 rfl (by decide) g919 rfl dX10_alikeBy_12 ?_
        refine J_iload_n (pc := 15) X 3 dX10_alikeBy_15 rfl ?_
        refine J_iconst (pc := 16) X 0 dX10_alikeBy_16 (by decide) ?_
        refine J_iast (pc := 17) X 4 0 j [(q, .inr (10, [.ref qtx, .int (nI ln), .int fa, .ref qlw, .ref qgp, .ref qhm, .ref qpcs, .ref qdl, .ref qdg, .ref qdh, .ref qdp, .int dr, .int tl, .ref qnw, .ref qps, .int (nI dn), .ref qim, .ref qisd, .ref qkp, .int sd, .ref qfd, .int (nI fn), .ref qbk, .int (nI en), .int (nI at_), .int (nI wr), .int pl, .int yd, .int wy, .int pce_, .ref qal, .ref qco])), (qlw, .inl (cI, 5, .inl lw)), (qgp, .inl (cI, 8, .inl gp)), (qfd, .inl (cI, 12, .inl fd)), (qal, .inl (cI, 1000, .inl (upd a0 j 0)))] rfl rfl rfl (by omega) (by decide) rfl dX10_alikeBy_17 ?_
        refine J_iinc (pc := 18) X (nI (j + 1)) 3 [(3, .int (nI (j + 1))), (0, .ref q), (1, .int (nI k)), (2, .int 0)] dX10_alikeBy_18 rfl (n_add (x := j) (y := 1) rfl rfl (by omega)) (by decide) rfl ?_
        refine J_goto (pc := 21) X 4 dX10_alikeBy_21 (by decide) ?_
        refine J_loc [1, 2, 3, 0] (lv2 := [(0, .ref q), (1, .int (nI k)), (2, .int 0), (3, .int (nI (j + 1)))]) rfl ?_
        exact ih_4  (j + 1) (upd a0 j 0) (by first | assumption | omega | simp_all) (fill_step ha0) (by omega)
  refine J_loc [2, 3, 1, 0] (lv2 := [(0, .ref q), (1, .int (nI k)), (2, .int 0), (3, .int 0)]) rfl ?_
  exact L_4 _  0 al (by first | assumption | omega | simp_all) (fun x9 h9 => absurd h9 (by omega)) (Nat.lt_succ_self _)
set_option maxRecDepth 100000 in
set_option maxHeartbeats 600000 in
theorem kX10_lookAt (l : Launch) (G : va_G) (cI cC cZ : ClassId) (q : Nat) (qtx : Nat) (qlw : Nat) (qgp : Nat) (qhm : Nat) (qpcs : Nat) (qdl : Nat) (qdg : Nat) (qdh : Nat) (qdp : Nat) (qnw : Nat) (qps : Nat) (qim : Nat) (qisd : Nat) (qkp : Nat) (qfd : Nat) (qbk : Nat) (qal : Nat) (qco : Nat) (ln : Nat) (fa : Int32) (dr : Int32) (dn : Nat) (sd : Int32) (fn : Nat) (en : Nat) (at_ : Nat) (wr : Nat) (pl : Int32) (yd : Int32) (wy : Int32) (pce_ : Int32) (tl : Int32) (lw : Nat → Int32) (gp : Nat → Int32) (fd : Nat → Int32) (al : Nat → Int32) (P : Nat) (gr : Int32) (wd : Nat) (g : Nat) (wk : Nat) (gn : Nat) (hPl : P ≤ 60) (hg : g ≤ 8) (hwk : wk ≤ 4) (hwd : wd ≤ 50) (hl0 : lw 0 = nI P) (hl1 : lw 1 = gr) (hl2 : lw 2 = nI wd) (hl3 : lw 3 = nI g) (hl4 : lw 4 = nI wk) (hgr : gr = nI gn) (hgn : gn ≤ 40) (hP0 : 0 < g → 0 < P) (hwd0 : 0 < g → 0 < wd) (hf : fn ≤ 6) (hfd : okFd g fn fd) (hgp : okGp g gp) : CI l G (tys3 cI cC cZ) yX10_lookAt cX10_lookAt 5 (some .int) ({ frames := 4, cells := 0, slots := 0, locals := 94 }) [.ref q] [(q, .inr (10, [.ref qtx, .int (nI ln), .int fa, .ref qlw, .ref qgp, .ref qhm, .ref qpcs, .ref qdl, .ref qdg, .ref qdh, .ref qdp, .int dr, .int tl, .ref qnw, .ref qps, .int (nI dn), .ref qim, .ref qisd, .ref qkp, .int sd, .ref qfd, .int (nI fn), .ref qbk, .int (nI en), .int (nI at_), .int (nI wr), .int pl, .int yd, .int wy, .int pce_, .ref qal, .ref qco])), (qlw, .inl (cI, 5, .inl lw)), (qgp, .inl (cI, 8, .inl gp)), (qfd, .inl (cI, 12, .inl fd)), (qal, .inl (cI, 1000, .inl al))] (S := (Nat → Int32)) (fun (r : Int32) (u : (Nat → Int32)) => r = spLookAt P wd fn g gp fd gr) (fun (u : (Nat → Int32)) => [(q, .inr (10, [.ref qtx, .int (nI ln), .int fa, .ref qlw, .ref qgp, .ref qhm, .ref qpcs, .ref qdl, .ref qdg, .ref qdh, .ref qdp, .int dr, .int tl, .ref qnw, .ref qps, .int (nI dn), .ref qim, .ref qisd, .ref qkp, .int sd, .ref qfd, .int (nI fn), .ref qbk, .int (nI en), .int (nI at_), .int (nI wr), .int pl, .int yd, .int wy, .int pce_, .ref qal, .ref qco])), (qlw, .inl (cI, 5, .inl lw)), (qgp, .inl (cI, 8, .inl gp)), (qfd, .inl (cI, 12, .inl fd)), (qal, .inl (cI, 1000, .inl u))]) := by
  refine CI.intro (by decide) (Nat.le_of_ble_eq_true rfl) ?_
  intro p0 e0 s0 m0 ar0 be0 me0 c0 A0 X hr
  refine J_aload_n (pc := 0) X 0 dX10_lookAt_0 rfl ?_
  refine J_iconst (pc := 1) X 0 dX10_lookAt_1 (by decide) ?_
  refine J_callR (pc := 2) (As := [.int 0]) (rest := []) X mtX10_fits g1252 [0, 1, 2, 3] 0 (kX10_fits l G cI cC cZ q qtx qlw qgp qhm qpcs qdl qdg qdh qdp qnw qps qim qisd qkp qfd qbk qal qco ln fa dr dn sd fn en at_ wr pl yd wy pce_ tl lw gp fd P gr wd g wk 0 (by first | assumption | omega) (by first | assumption | omega) (by first | assumption | omega) (by first | assumption | omega) (by first | assumption | omega) (by first | assumption | omega) (by first | assumption | omega) (by first | assumption | omega) (by first | assumption | omega) (by first | assumption | omega) (by first | assumption | omega) (by first | assumption | omega)) ⟨Nat.le_of_ble_eq_true rfl, Nat.le_of_ble_eq_true rfl⟩ rfl rfl rfl (by decide) rfl rfl rfl rfl rfl (Nat.le_of_ble_eq_true rfl) (Nat.zero_le _) (Nat.zero_le _) dX10_lookAt_2 (fun r_1 u_2 w_3 => ?_)
  try dsimp only at w_3
  subst w_3
  refine J_istore_n (pc := 5) X [(1, .int (spFits P wd fn gp fd gr 0)), (0, .ref q)] dX10_lookAt_5 (by decide) rfl ?_
  refine J_iconst (pc := 6) X (-1) dX10_lookAt_6 (by decide) ?_
  refine J_istore_n (pc := 7) X [(2, .int (-1)), (1, .int (spFits P wd fn gp fd gr 0)), (0, .ref q)] dX10_lookAt_7 (by decide) rfl ?_
  refine J_iconst (pc := 8) X 0 dX10_lookAt_8 (by decide) ?_
  refine J_istore_n (pc := 9) X [(3, .int 0), (2, .int (-1)), (1, .int (spFits P wd fn gp fd gr 0)), (0, .ref q)] dX10_lookAt_9 (by decide) rfl ?_
  have L_10 : ∀ (n_10 : Nat) (k : Nat) (be : Int32) (le_ : Int32) (a1 : Nat → Int32) (hk : k ≤ g) (hla : (be, le_) = laTo (alK P wd fn gp fd gr) (spFits P wd fn gp fd gr 0) k), (g - k) < n_10 → JJ p0 l e0 ({ frames := 4, cells := 0, slots := 0, locals := 94 }) s0 m0 ar0 be0 me0 c0 A0 G 5 0 0 (QI be0 ar0 s0 A0 G (tys3 cI cC cZ) (S := (Nat → Int32)) (fun (r : Int32) (u : (Nat → Int32)) => r = spLookAt P wd fn g gp fd gr) (fun (u : (Nat → Int32)) => [(q, .inr (10, [.ref qtx, .int (nI ln), .int fa, .ref qlw, .ref qgp, .ref qhm, .ref qpcs, .ref qdl, .ref qdg, .ref qdh, .ref qdp, .int dr, .int tl, .ref qnw, .ref qps, .int (nI dn), .ref qim, .ref qisd, .ref qkp, .int sd, .ref qfd, .int (nI fn), .ref qbk, .int (nI en), .int (nI at_), .int (nI wr), .int pl, .int yd, .int wy, .int pce_, .ref qal, .ref qco])), (qlw, .inl (cI, 5, .inl lw)), (qgp, .inl (cI, 8, .inl gp)), (qfd, .inl (cI, 12, .inl fd)), (qal, .inl (cI, 1000, .inl u))])) [(q, .inr (10, [.ref qtx, .int (nI ln), .int fa, .ref qlw, .ref qgp, .ref qhm, .ref qpcs, .ref qdl, .ref qdg, .ref qdh, .ref qdp, .int dr, .int tl, .ref qnw, .ref qps, .int (nI dn), .ref qim, .ref qisd, .ref qkp, .int sd, .ref qfd, .int (nI fn), .ref qbk, .int (nI en), .int (nI at_), .int (nI wr), .int pl, .int yd, .int wy, .int pce_, .ref qal, .ref qco])), (qlw, .inl (cI, 5, .inl lw)), (qgp, .inl (cI, 8, .inl gp)), (qfd, .inl (cI, 12, .inl fd)), (qal, .inl (cI, 1000, .inl a1))] 10 [(0, .ref q), (1, .int le_), (2, .int be), (3, .int (nI k))] [] := by
    intro n_10
    induction n_10 with
    | zero => intro k be le_ a1 hk hla hm_10; exact absurd hm_10 (Nat.not_lt_zero _)
    | succ n_10 ih_10 =>
      intro k be le_ a1 hk hla hm_10
      refine J_iload_n (pc := 10) X 3 dX10_lookAt_10 rfl ?_
      refine J_aload_n (pc := 11) X 0 dX10_lookAt_11 rfl ?_
      refine J_get (pc := 12) X clX10 0 3 rfl (by decide) g892 rfl dX10_lookAt_12 ?_
      refine J_iconst (pc := 15) X 3 dX10_lookAt_15 (by decide) ?_
      refine J_iald (pc := 16) X 1 0 3 rfl rfl rfl (by decide) (by decide) dX10_lookAt_16 ?_
      refine J_top (y := nI g) hl3 ?_
      refine J_icmp_ge (pc := 17) X 58 dX10_lookAt_17 (by decide) (fun c_4 => ?_) (fun c_4 => ?_)
      · have c_4 : g ≤ k := n_le_of (a := g) (b := k) (by omega) (by omega) c_4
        refine J_iload_n (pc := 58) X 2 dX10_lookAt_58 rfl ?_
        refine J_iret (pc := 59) X hr a1 dX10_lookAt_59 ?_ rfl
        rw [spLookAt, show g = k from by omega, ← hla]
      · have c_4 : k < g := n_nle_of (a := g) (b := k) (by omega) (by omega) c_4
        refine J_aload_n (pc := 20) X 0 dX10_lookAt_20 rfl ?_
        refine J_iload_n (pc := 21) X 3 dX10_lookAt_21 rfl ?_
        refine J_callI (pc := 22) (As := [.int (nI k)]) (rest := []) X mtX10_alikeBy g1253 [0, 1, 2, 3, 4] [] [0, 1, 2, 3, 4] 0 (fun u => [(q, .inr (10, [.ref qtx, .int (nI ln), .int fa, .ref qlw, .ref qgp, .ref qhm, .ref qpcs, .ref qdl, .ref qdg, .ref qdh, .ref qdp, .int dr, .int tl, .ref qnw, .ref qps, .int (nI dn), .ref qim, .ref qisd, .ref qkp, .int sd, .ref qfd, .int (nI fn), .ref qbk, .int (nI en), .int (nI at_), .int (nI wr), .int pl, .int yd, .int wy, .int pce_, .ref qal, .ref qco])), (qlw, .inl (cI, 5, .inl lw)), (qgp, .inl (cI, 8, .inl gp)), (qfd, .inl (cI, 12, .inl fd)), (qal, .inl (cI, 1000, .inl u))]) (kX10_alikeBy l G cI cC cZ q qtx qlw qgp qhm qpcs qdl qdg qdh qdp qnw qps qim qisd qkp qfd qbk qal qco ln fa dr dn sd fn en at_ wr pl yd wy pce_ tl lw gp fd a1 P gr wd g wk gn k (by first | assumption | omega) (by first | assumption | omega) (by first | assumption | omega) (by first | assumption | omega) (by first | assumption | omega) (by first | assumption | omega) (by first | assumption | omega) (by first | assumption | omega) (by first | assumption | omega) (by first | assumption | omega) (by first | assumption | omega) (by first | assumption | omega) (by first | assumption | omega) (by first | assumption | omega) (by first | assumption | omega) (by first | assumption | omega) (by first | assumption | omega)) ⟨Nat.le_of_ble_eq_true rfl, Nat.le_of_ble_eq_true rfl⟩ rfl rfl rfl (by decide) (wr := []) rfl (by decide) (by decide) (fun _ => rfl) (by decide) rfl rfl rfl rfl rfl (Nat.le_of_ble_eq_true rfl) (Nat.zero_le _) (Nat.zero_le _) dX10_lookAt_22 (fun r_5 u_6 w_7 => ?_)
        obtain ⟨al2_u_6, rfl⟩ : ∃ z, z = u_6 := ⟨_, rfl⟩
        try dsimp only at w_7
        try dsimp only at w_7
        subst w_7
        refine J_istore (pc := 25) X [(4, .int (alK P wd fn gp fd gr k)), (0, .ref q), (1, .int le_), (2, .int be), (3, .int (nI k))] dX10_lookAt_25 (by decide) rfl ?_
        refine J_iload (pc := 27) X 0 dX10_lookAt_27 rfl ?_
        refine J_iload_n (pc := 29) X 2 dX10_lookAt_29 rfl ?_
        refine J_icmp_ge (pc := 30) X 37 dX10_lookAt_30 (by decide) (fun c_8 => ?_) (fun c_8 => ?_)
        · have c_8 := Int32.not_lt.mpr c_8
          refine J_iload_n (pc := 37) X 3 dX10_lookAt_37 rfl ?_
          refine J_istore_n (pc := 38) X [(2, .int be), (4, .int (alK P wd fn gp fd gr k)), (0, .ref q), (1, .int le_), (3, .int (nI k))] dX10_lookAt_38 (by decide) rfl ?_
          refine J_iload (pc := 39) X 1 dX10_lookAt_39 rfl ?_
          refine J_iload_n (pc := 41) X 3 dX10_lookAt_41 rfl ?_
          refine J_icmp_ge (pc := 42) X 50 dX10_lookAt_42 (by decide) (fun c_9 => ?_) (fun c_9 => ?_)
          · have c_9 := Int32.not_lt.mpr c_9
            refine J_iload_n (pc := 50) X 3 dX10_lookAt_50 rfl ?_
            refine J_istore_n (pc := 51) X [(1, .int le_), (2, .int be), (4, .int (alK P wd fn gp fd gr k)), (0, .ref q), (3, .int (nI k))] dX10_lookAt_51 (by decide) rfl ?_
            refine J_iinc (pc := 52) X (nI (k + 1)) 4 [(3, .int (nI (k + 1))), (1, .int le_), (2, .int be), (4, .int (alK P wd fn gp fd gr k)), (0, .ref q)] dX10_lookAt_52 rfl (n_add (x := k) (y := 1) rfl rfl (by omega)) (by decide) rfl ?_
            refine J_goto (pc := 55) X 10 dX10_lookAt_55 (by decide) ?_
            refine J_loc [4, 1, 2, 0] (lv2 := [(0, .ref q), (1, .int le_), (2, .int be), (3, .int (nI (k + 1)))]) rfl ?_
            exact ih_10  (k + 1) be le_ al2_u_6 (by first | assumption | omega | simp_all) (by first | exact la_in hla (by assumption) | exact la_out hla (by assumption)) (by omega)
          · have c_9 := Int32.not_le.mp c_9
            exact absurd c_9 c_8
        · have c_8 := Int32.not_le.mp c_8
          refine J_iload_n (pc := 33) X 4 dX10_lookAt_33 rfl ?_
          refine J_goto (pc := 34) X 38 dX10_lookAt_34 (by decide) ?_
          refine J_istore_n (pc := 38) X [(2, .int (nI k)), (4, .int (alK P wd fn gp fd gr k)), (0, .ref q), (1, .int le_), (3, .int (nI k))] dX10_lookAt_38 (by decide) rfl ?_
          refine J_iload (pc := 39) X 1 dX10_lookAt_39 rfl ?_
          refine J_iload_n (pc := 41) X 3 dX10_lookAt_41 rfl ?_
          refine J_icmp_ge (pc := 42) X 50 dX10_lookAt_42 (by decide) (fun c_10 => ?_) (fun c_10 => ?_)
          · have c_10 := Int32.not_lt.mpr c_10
            exact absurd c_8 c_10
          · have c_10 := Int32.not_le.mp c_10
            refine J_iload (pc := 45) X 1 dX10_lookAt_45 rfl ?_
            refine J_goto (pc := 47) X 51 dX10_lookAt_47 (by decide) ?_
            refine J_istore_n (pc := 51) X [(1, .int (alK P wd fn gp fd gr k)), (2, .int (nI k)), (4, .int (alK P wd fn gp fd gr k)), (0, .ref q), (3, .int (nI k))] dX10_lookAt_51 (by decide) rfl ?_
            refine J_iinc (pc := 52) X (nI (k + 1)) 4 [(3, .int (nI (k + 1))), (1, .int (alK P wd fn gp fd gr k)), (2, .int (nI k)), (4, .int (alK P wd fn gp fd gr k)), (0, .ref q)] dX10_lookAt_52 rfl (n_add (x := k) (y := 1) rfl rfl (by omega)) (by decide) rfl ?_
            refine J_goto (pc := 55) X 10 dX10_lookAt_55 (by decide) ?_
            refine J_loc [4, 1, 2, 0] (lv2 := [(0, .ref q), (1, .int (alK P wd fn gp fd gr k)), (2, .int (nI k)), (3, .int (nI (k + 1)))]) rfl ?_
            exact ih_10  (k + 1) (nI k) (alK P wd fn gp fd gr k) al2_u_6 (by first | assumption | omega | simp_all) (by first | exact la_in hla (by assumption) | exact la_out hla (by assumption)) (by omega)
  refine J_loc [3, 2, 1, 0] (lv2 := [(0, .ref q), (1, .int (spFits P wd fn gp fd gr 0)), (2, .int (-1)), (3, .int 0)]) rfl ?_
  exact L_10 _  0 (-1) (spFits P wd fn gp fd gr 0) al (by first | assumption | omega | simp_all) rfl (Nat.lt_succ_self _)
