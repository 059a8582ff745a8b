set_option maxRecDepth 100000 in
set_option maxHeartbeats 600000 in
theorem kX10_whereAt (l : Launch) (G : va_G) (cI cC cZ : ClassId) (q : Nat) (qtx : Nat) (qlw : Nat) (qgp : Nat) (qhm : Nat) (qpcs : Nat) (qdl : Nat) (qdg : Nat) (qdh : Nat) (qdp : Nat) (qnw : Nat) (qps : Nat) (qim : Nat) (qisd : Nat) (qkp : Nat) (qfd : Nat) (qbk : Nat) (qal : Nat) (qco : Nat) (ln : Nat) (fa : Int32) (dr : Int32) (dn : Nat) (sd : Int32) (fn : Nat) (en : Nat) (at_ : Nat) (wr : Nat) (pce_ : Int32) (tl : Int32) (lw : Nat → Int32) (gp : Nat → Int32) (P : Nat) (gr : Int32) (wd : Nat) (g : Nat) (wk : Nat) (pos : Nat) (y : Int32) (w : Int32) (t : Int32) (hPl : P ≤ 60) (hg : g ≤ 8) (hwk : wk ≤ 4) (hwd : wd ≤ 50) (hl0 : lw 0 = nI P) (hl1 : lw 1 = gr) (hl2 : lw 2 = nI wd) (hl3 : lw 3 = nI g) (hl4 : lw 4 = nI wk) (hP0 : 0 < g → 0 < P) (hpos : pos ≤ g ∨ (100 ≤ pos ∧ pos < 100 + g)) : CI l G (tys3 cI cC cZ) yX10_whereAt cX10_whereAt 6 (some .int) ({ frames := 3, cells := 0, slots := 0, locals := 67 }) [.ref q, .int t] [(q, .inr (10, [.ref qtx, .int (nI ln), .int fa, .ref qlw, .ref qgp, .ref qhm, .ref qpcs, .ref qdl, .ref qdg, .ref qdh, .ref qdp, .int dr, .int tl, .ref qnw, .ref qps, .int (nI dn), .ref qim, .ref qisd, .ref qkp, .int sd, .ref qfd, .int (nI fn), .ref qbk, .int (nI en), .int (nI at_), .int (nI wr), .int (nI pos), .int y, .int w, .int pce_, .ref qal, .ref qco])), (qlw, .inl (cI, 5, .inl lw)), (qgp, .inl (cI, 8, .inl gp))] (S := Unit) (fun (r : Int32) (u : Unit) => r = whP (fun k9 => yG P (gp k9) gr t) pos y w) (fun _ => [(q, .inr (10, [.ref qtx, .int (nI ln), .int fa, .ref qlw, .ref qgp, .ref qhm, .ref qpcs, .ref qdl, .ref qdg, .ref qdh, .ref qdp, .int dr, .int tl, .ref qnw, .ref qps, .int (nI dn), .ref qim, .ref qisd, .ref qkp, .int sd, .ref qfd, .int (nI fn), .ref qbk, .int (nI en), .int (nI at_), .int (nI wr), .int (nI pos), .int y, .int w, .int pce_, .ref qal, .ref qco])), (qlw, .inl (cI, 5, .inl lw)), (qgp, .inl (cI, 8, .inl gp))]) := by
  refine CI.intro (by decide) (Nat.le_of_ble_eq_true rfl) ?_
  intro p0 e0 s0 m0 ar0 be0 me0 c0 A0 X hr
  refine J_aload_n (pc := 0) X 0 dX10_whereAt_0 rfl ?_
  refine J_get (pc := 1) X clX10 0 26 rfl (by decide) g915 rfl dX10_whereAt_1 ?_
  refine J_bipush (pc := 4) X 100 dX10_whereAt_4 (by decide) ?_
  refine J_icmp_ge (pc := 6) X 16 dX10_whereAt_6 (by decide) (fun c_1 => ?_) (fun c_1 => ?_)
  · have c_1 : 100 ≤ pos := n_le_of (a := 100) (b := pos) (by omega) (by omega) c_1
    refine J_aload_n (pc := 16) X 0 dX10_whereAt_16 rfl ?_
    refine J_get (pc := 17) X clX10 0 26 rfl (by decide) g915 rfl dX10_whereAt_17 ?_
    refine J_bipush (pc := 20) X 100 dX10_whereAt_20 (by decide) ?_
    refine J_isub (pc := 22) X dX10_whereAt_22 ?_
    refine J_top (y := nI (pos - 100)) (n_sub (x := pos) (y := 100) rfl rfl (by omega) (by omega)) ?_
    refine J_istore_n (pc := 23) X [(2, .int (nI (pos - 100))), (0, .ref q), (1, .int t)] dX10_whereAt_23 (by decide) rfl ?_
    refine J_iconst (pc := 24) X 0 dX10_whereAt_24 (by decide) ?_
    refine J_istore_n (pc := 25) X [(3, .int 0), (2, .int (nI (pos - 100))), (0, .ref q), (1, .int t)] dX10_whereAt_25 (by decide) rfl ?_
    refine J_iconst (pc := 26) X 0 dX10_whereAt_26 (by decide) ?_
    refine J_istore (pc := 27) X [(4, .int 0), (3, .int 0), (2, .int (nI (pos - 100))), (0, .ref q), (1, .int t)] dX10_whereAt_27 (by decide) rfl ?_
    have L_29 : ∀ (n_29 : Nat) (i : Nat) (K : Nat) (hi : i ≤ K) (hKg : K ≤ g) (hK : (pos < 100 ∧ K = pos) ∨ (100 ≤ pos ∧ K + 100 = pos)), (K - i) < n_29 → JJ p0 l e0 ({ frames := 3, cells := 0, slots := 0, locals := 67 }) s0 m0 ar0 be0 me0 c0 A0 G 6 0 0 (QI be0 ar0 s0 A0 G (tys3 cI cC cZ) (S := Unit) (fun (r : Int32) (u : Unit) => r = whP (fun k9 => yG P (gp k9) gr t) pos y w) (fun _ => [(q, .inr (10, [.ref qtx, .int (nI ln), .int fa, .ref qlw, .ref qgp, .ref qhm, .ref qpcs, .ref qdl, .ref qdg, .ref qdh, .ref qdp, .int dr, .int tl, .ref qnw, .ref qps, .int (nI dn), .ref qim, .ref qisd, .ref qkp, .int sd, .ref qfd, .int (nI fn), .ref qbk, .int (nI en), .int (nI at_), .int (nI wr), .int (nI pos), .int y, .int w, .int pce_, .ref qal, .ref qco])), (qlw, .inl (cI, 5, .inl lw)), (qgp, .inl (cI, 8, .inl gp))])) [(q, .inr (10, [.ref qtx, .int (nI ln), .int fa, .ref qlw, .ref qgp, .ref qhm, .ref qpcs, .ref qdl, .ref qdg, .ref qdh, .ref qdp, .int dr, .int tl, .ref qnw, .ref qps, .int (nI dn), .ref qim, .ref qisd, .ref qkp, .int sd, .ref qfd, .int (nI fn), .ref qbk, .int (nI en), .int (nI at_), .int (nI wr), .int (nI pos), .int y, .int w, .int pce_, .ref qal, .ref qco])), (qlw, .inl (cI, 5, .inl lw)), (qgp, .inl (cI, 8, .inl gp))] 29 [(0, .ref q), (1, .int t), (2, .int (nI K)), (3, .int (sumI (fun k9 => yG P (gp k9) gr t) i)), (4, .int (nI i))] [] := by
      intro n_29
      induction n_29 with
      | zero => intro i K hi hKg hK hm_29; exact absurd hm_29 (Nat.not_lt_zero _)
      | succ n_29 ih_29 =>
        intro i K hi hKg hK hm_29
        refine J_iload (pc := 29) X 4 dX10_whereAt_29 rfl ?_
        refine J_iload_n (pc := 31) X 2 dX10_whereAt_31 rfl ?_
        refine J_icmp_ge (pc := 32) X 51 dX10_whereAt_32 (by decide) (fun c_2 => ?_) (fun c_2 => ?_)
        · have c_2 : K ≤ i := n_le_of (a := K) (b := i) (by omega) (by omega) c_2
          refine J_aload_n (pc := 51) X 0 dX10_whereAt_51 rfl ?_
          refine J_get (pc := 52) X clX10 0 26 rfl (by decide) g915 rfl dX10_whereAt_52 ?_
          refine J_bipush (pc := 55) X 100 dX10_whereAt_55 (by decide) ?_
          refine J_icmp_lt (pc := 57) X 100 dX10_whereAt_57 (by decide) (fun c_3 => ?_) (fun c_3 => ?_)
          · have c_3 : pos < 100 := n_lt_of (a := pos) (b := 100) (by omega) (by omega) c_3
            exfalso; omega
          · have c_3 : 100 ≤ pos := n_nlt_of (a := pos) (b := 100) (by omega) (by omega) c_3
            refine J_aload_n (pc := 60) X 0 dX10_whereAt_60 rfl ?_
            refine J_iload_n (pc := 61) X 2 dX10_whereAt_61 rfl ?_
            refine J_iload_n (pc := 62) X 1 dX10_whereAt_62 rfl ?_
            refine J_callR (pc := 63) (As := [.int (nI K), .int t]) (rest := []) X mtX10_yardsOf g1067 [0, 1, 2] 0 (kX10_yardsOf l G cI cC cZ q qtx qlw qgp qhm qpcs qdl qdg qdh qdp qnw qps qim qisd qkp qfd qbk qal qco ln fa dr dn sd fn en at_ wr (nI pos) y w pce_ tl lw gp P gr wd g wk K t (by first | assumption | omega) (by first | assumption | omega) (by first | assumption | omega) (by first | assumption | omega) (by first | assumption | omega) (by first | assumption | omega) (by first | assumption | omega) (by first | assumption | omega) (by first | assumption | omega) (by first | assumption | omega) (by first | assumption | omega)) ⟨Nat.le_of_ble_eq_true rfl, Nat.le_of_ble_eq_true rfl⟩ rfl rfl rfl (by decide) rfl rfl rfl rfl rfl (Nat.le_of_ble_eq_true rfl) (Nat.zero_le _) (Nat.zero_le _) dX10_whereAt_63 (fun r_4 u_5 w_6 => ?_)
            try dsimp only at w_6
            subst w_6
            refine J_istore (pc := 66) X [(4, .int (yG P (gp K) gr t)), (0, .ref q), (1, .int t), (2, .int (nI K)), (3, .int (sumI (fun k9 => yG P (gp k9) gr t) i))] dX10_whereAt_66 (by decide) rfl ?_
            refine J_aload_n (pc := 68) X 1 dX10_whereAt_68 rfl ?_
            refine J_get (pc := 69) X clX10 0 27 rfl (by decide) g916 rfl dX10_whereAt_69 ?_
            refine J_iload (pc := 72) X 0 dX10_whereAt_72 rfl ?_
            refine J_callS (pc := 74) (As := [.int y, .int (yG P (gp K) gr t)]) (rest := []) X mtX10_lesser g1075 [] (kX10_lesser l G cI cC cZ y (yG P (gp K) gr t) ) ⟨Nat.le_of_ble_eq_true rfl, Nat.le_of_ble_eq_true rfl⟩ rfl rfl rfl (by decide) rfl rfl (Nat.le_of_ble_eq_true rfl) (Nat.zero_le _) (Nat.zero_le _) dX10_whereAt_74 (fun r_7 u_8 w_9 => ?_)
            try dsimp only at w_9
            subst w_9
            refine J_istore (pc := 77) X [(5, .int (mn y (yG P (gp K) gr t))), (4, .int (yG P (gp K) gr t)), (0, .ref q), (1, .int t), (2, .int (nI K)), (3, .int (sumI (fun k9 => yG P (gp k9) gr t) i))] dX10_whereAt_77 (by decide) rfl ?_
            refine J_iload_n (pc := 79) X 5 dX10_whereAt_79 rfl ?_
            refine J_aload_n (pc := 80) X 2 dX10_whereAt_80 rfl ?_
            refine J_get (pc := 81) X clX10 0 28 rfl (by decide) g917 rfl dX10_whereAt_81 ?_
            refine J_iconst (pc := 84) X 2 dX10_whereAt_84 (by decide) ?_
            refine J_icmp_ne (pc := 85) X 93 dX10_whereAt_85 (by decide) (fun c_10 => ?_) (fun c_10 => ?_)
            · skip
              refine J_iload (pc := 93) X 1 dX10_whereAt_93 rfl ?_
              refine J_iload (pc := 95) X 0 dX10_whereAt_95 rfl ?_
              refine J_isub (pc := 97) X dX10_whereAt_97 ?_
              refine J_iadd (pc := 98) X dX10_whereAt_98 ?_
              refine J_istore_n (pc := 99) X [(3, .int ((sumI (fun k9 => yG P (gp k9) gr t) i) + ((yG P (gp K) gr t) - (mn y (yG P (gp K) gr t))))), (5, .int (mn y (yG P (gp K) gr t))), (4, .int (yG P (gp K) gr t)), (0, .ref q), (1, .int t), (2, .int (nI K))] dX10_whereAt_99 (by decide) rfl ?_
              refine J_iload_n (pc := 100) X 0 dX10_whereAt_100 rfl ?_
              refine J_iret (pc := 101) X hr () dX10_whereAt_101 ?_ rfl
              have q3 : i = K := by omega
              have q4 : (pos < 100 ∧ K = pos) ∨ (¬ pos < 100 ∧ K = pos - 100) := by omega
              rcases q4 with ⟨q4, q5⟩ | ⟨q4, q5⟩ <;> simp [whP, q3, q4, q5, c_1, c_2, c_3, c_10] <;> omega
            · skip
              refine J_iload (pc := 88) X 0 dX10_whereAt_88 rfl ?_
              refine J_goto (pc := 90) X 98 dX10_whereAt_90 (by decide) ?_
              refine J_iadd (pc := 98) X dX10_whereAt_98 ?_
              refine J_istore_n (pc := 99) X [(3, .int ((sumI (fun k9 => yG P (gp k9) gr t) i) + (mn y (yG P (gp K) gr t)))), (5, .int (mn y (yG P (gp K) gr t))), (4, .int (yG P (gp K) gr t)), (0, .ref q), (1, .int t), (2, .int (nI K))] dX10_whereAt_99 (by decide) rfl ?_
              refine J_iload_n (pc := 100) X 0 dX10_whereAt_100 rfl ?_
              refine J_iret (pc := 101) X hr () dX10_whereAt_101 ?_ rfl
              have q3 : i = K := by omega
              have q4 : (pos < 100 ∧ K = pos) ∨ (¬ pos < 100 ∧ K = pos - 100) := by omega
              rcases q4 with ⟨q4, q5⟩ | ⟨q4, q5⟩ <;> simp [whP, q3, q4, q5, c_1, c_2, c_3, c_10] <;> omega
        · have c_2 : i < K := n_nle_of (a := K) (b := i) (by omega) (by omega) c_2
          refine J_iload_n (pc := 35) X 3 dX10_whereAt_35 rfl ?_
          refine J_aload_n (pc := 36) X 0 dX10_whereAt_36 rfl ?_
          refine J_iload (pc := 37) X 4 dX10_whereAt_37 rfl ?_
          refine J_iload_n (pc := 39) X 1 dX10_whereAt_39 rfl ?_
          refine J_callR (pc := 40) (As := [.int (nI i), .int t]) (rest := [.int (sumI (fun k9 => yG P (gp k9) gr t) i)]) X mtX10_yardsOf g1067 [0, 1, 2] 0 (kX10_yardsOf l G cI cC cZ q qtx qlw qgp qhm qpcs qdl qdg qdh qdp qnw qps qim qisd qkp qfd qbk qal qco ln fa dr dn sd fn en at_ wr (nI pos) y w pce_ tl lw gp P gr wd g wk i t (by first | assumption | omega) (by first | assumption | omega) (by first | assumption | omega) (by first | assumption | omega) (by first | assumption | omega) (by first | assumption | omega) (by first | assumption | omega) (by first | assumption | omega) (by first | assumption | omega) (by first | assumption | omega) (by first | assumption | omega)) ⟨Nat.le_of_ble_eq_true rfl, Nat.le_of_ble_eq_true rfl⟩ rfl rfl rfl (by decide) rfl rfl rfl rfl rfl (Nat.le_of_ble_eq_true rfl) (Nat.zero_le _) (Nat.zero_le _) dX10_whereAt_40 (fun r_11 u_12 w_13 => ?_)
          try dsimp only at w_13
          subst w_13
          refine J_iadd (pc := 43) X dX10_whereAt_43 ?_
          refine J_istore_n (pc := 44) X [(3, .int ((sumI (fun k9 => yG P (gp k9) gr t) i) + (yG P (gp i) gr t))), (0, .ref q), (1, .int t), (2, .int (nI K)), (4, .int (nI i))] dX10_whereAt_44 (by decide) rfl ?_
          refine J_iinc (pc := 45) X (nI (i + 1)) 4 [(4, .int (nI (i + 1))), (3, .int ((sumI (fun k9 => yG P (gp k9) gr t) i) + (yG P (gp i) gr t))), (0, .ref q), (1, .int t), (2, .int (nI K))] dX10_whereAt_45 rfl (n_add (x := i) (y := 1) rfl rfl (by omega)) (by decide) rfl ?_
          refine J_goto (pc := 48) X 29 dX10_whereAt_48 (by decide) ?_
          refine J_loc [2, 3, 4, 1, 0] (lv2 := [(0, .ref q), (1, .int t), (2, .int (nI K)), (3, .int (sumI (fun k9 => yG P (gp k9) gr t) (i + 1))), (4, .int (nI (i + 1)))]) rfl ?_
          exact ih_29  (i + 1) K (by first | assumption | omega | simp_all) (by first | assumption | omega | simp_all) (by first | assumption | omega | simp_all) (by omega)
    refine J_loc [3, 4, 2, 1, 0] (lv2 := [(0, .ref q), (1, .int t), (2, .int (nI (pos - 100))), (3, .int (sumI (fun k9 => yG P (gp k9) gr t) 0)), (4, .int 0)]) rfl ?_
    exact L_29 _  0 (pos - 100) (by first | assumption | omega | simp_all) (by first | assumption | omega | simp_all) (by first | assumption | omega | simp_all) (Nat.lt_succ_self _)
  · have c_1 : pos < 100 := n_nle_of (a := 100) (b := pos) (by omega) (by omega) c_1
    refine J_aload_n (pc := 9) X 0 dX10_whereAt_9 rfl ?_
    refine J_get (pc := 10) X clX10 0 26 rfl (by decide) g915 rfl dX10_whereAt_10 ?_
    refine J_goto (pc := 13) X 23 dX10_whereAt_13 (by decide) ?_
    refine J_istore_n (pc := 23) X [(2, .int (nI pos)), (0, .ref q), (1, .int t)] dX10_whereAt_23 (by decide) rfl ?_
    refine J_iconst (pc := 24) X 0 dX10_whereAt_24 (by decide) ?_
    refine J_istore_n (pc := 25) X [(3, .int 0), (2, .int (nI pos)), (0, .ref q), (1, .int t)] dX10_whereAt_25 (by decide) rfl ?_
    refine J_iconst (pc := 26) X 0 dX10_whereAt_26 (by decide) ?_
    refine J_istore (pc := 27) X [(4, .int 0), (3, .int 0), (2, .int (nI pos)), (0, .ref q), (1, .int t)] dX10_whereAt_27 (by decide) rfl ?_
    have L_29 : ∀ (n_29 : Nat) (i : Nat) (K : Nat) (hi : i ≤ K) (hKg : K ≤ g) (hK : (pos < 100 ∧ K = pos) ∨ (100 ≤ pos ∧ K + 100 = pos)), (K - i) < n_29 → JJ p0 l e0 ({ frames := 3, cells := 0, slots := 0, locals := 67 }) s0 m0 ar0 be0 me0 c0 A0 G 6 0 0 (QI be0 ar0 s0 A0 G (tys3 cI cC cZ) (S := Unit) (fun (r : Int32) (u : Unit) => r = whP (fun k9 => yG P (gp k9) gr t) pos y w) (fun _ => [(q, .inr (10, [.ref qtx, .int (nI ln), .int fa, .ref qlw, .ref qgp, .ref qhm, .ref qpcs, .ref qdl, .ref qdg, .ref qdh, .ref qdp, .int dr, .int tl, .ref qnw, .ref qps, .int (nI dn), .ref qim, .ref qisd, .ref qkp, .int sd, .ref qfd, .int (nI fn), .ref qbk, .int (nI en), .int (nI at_), .int (nI wr), .int (nI pos), .int y, .int w, .int pce_, .ref qal, .ref qco])), (qlw, .inl (cI, 5, .inl lw)), (qgp, .inl (cI, 8, .inl gp))])) [(q, .inr (10, [.ref qtx, .int (nI ln), .int fa, .ref qlw, .ref qgp, .ref qhm, .ref qpcs, .ref qdl, .ref qdg, .ref qdh, .ref qdp, .int dr, .int tl, .ref qnw, .ref qps, .int (nI dn), .ref qim, .ref qisd, .ref qkp, .int sd, .ref qfd, .int (nI fn), .ref qbk, .int (nI en), .int (nI at_), .int (nI wr), .int (nI pos), .int y, .int w, .int pce_, .ref qal, .ref qco])), (qlw, .inl (cI, 5, .inl lw)), (qgp, .inl (cI, 8, .inl gp))] 29 [(0, .ref q), (1, .int t), (2, .int (nI K)), (3, .int (sumI (fun k9 => yG P (gp k9) gr t) i)), (4, .int (nI i))] [] := by
      intro n_29
      induction n_29 with
      | zero => intro i K hi hKg hK hm_29; exact absurd hm_29 (Nat.not_lt_zero _)
      | succ n_29 ih_29 =>
        intro i K hi hKg hK hm_29
        refine J_iload (pc := 29) X 4 dX10_whereAt_29 rfl ?_
        refine J_iload_n (pc := 31) X 2 dX10_whereAt_31 rfl ?_
        refine J_icmp_ge (pc := 32) X 51 dX10_whereAt_32 (by decide) (fun c_14 => ?_) (fun c_14 => ?_)
        · have c_14 : K ≤ i := n_le_of (a := K) (b := i) (by omega) (by omega) c_14
          refine J_aload_n (pc := 51) X 0 dX10_whereAt_51 rfl ?_
          refine J_get (pc := 52) X clX10 0 26 rfl (by decide) g915 rfl dX10_whereAt_52 ?_
          refine J_bipush (pc := 55) X 100 dX10_whereAt_55 (by decide) ?_
          refine J_icmp_lt (pc := 57) X 100 dX10_whereAt_57 (by decide) (fun c_15 => ?_) (fun c_15 => ?_)
          · have c_15 : pos < 100 := n_lt_of (a := pos) (b := 100) (by omega) (by omega) c_15
            refine J_iload_n (pc := 100) X 3 dX10_whereAt_100 rfl ?_
            refine J_iret (pc := 101) X hr () dX10_whereAt_101 ?_ rfl
            have q3 : i = K := by omega
            have q4 : (pos < 100 ∧ K = pos) ∨ (¬ pos < 100 ∧ K = pos - 100) := by omega
            rcases q4 with ⟨q4, q5⟩ | ⟨q4, q5⟩ <;> simp [whP, q3, q4, q5, c_1, c_14, c_15] <;> omega
          · have c_15 : 100 ≤ pos := n_nlt_of (a := pos) (b := 100) (by omega) (by omega) c_15
            exfalso; omega
        · have c_14 : i < K := n_nle_of (a := K) (b := i) (by omega) (by omega) c_14
          refine J_iload_n (pc := 35) X 3 dX10_whereAt_35 rfl ?_
          refine J_aload_n (pc := 36) X 0 dX10_whereAt_36 rfl ?_
          refine J_iload (pc := 37) X 4 dX10_whereAt_37 rfl ?_
          refine J_iload_n (pc := 39) X 1 dX10_whereAt_39 rfl ?_
          refine J_callR (pc := 40) (As := [.int (nI i), .int t]) (rest := [.int (sumI (fun k9 => yG P (gp k9) gr t) i)]) X mtX10_yardsOf g1067 [0, 1, 2] 0 (kX10_yardsOf l G cI cC cZ q qtx qlw qgp qhm qpcs qdl qdg qdh qdp qnw qps qim qisd qkp qfd qbk qal qco ln fa dr dn sd fn en at_ wr (nI pos) y w pce_ tl lw gp P gr wd g wk i t (by first | assumption | omega) (by first | assumption | omega) (by first | assumption | omega) (by first | assumption | omega) (by first | assumption | omega) (by first | assumption | omega) (by first | assumption | omega) (by first | assumption | omega) (by first | assumption | omega) (by first | assumption | omega) (by first | assumption | omega)) ⟨Nat.le_of_ble_eq_true rfl, Nat.le_of_ble_eq_true rfl⟩ rfl rfl rfl (by decide) rfl rfl rfl rfl rfl (Nat.le_of_ble_eq_true rfl) (Nat.zero_le _) (Nat.zero_le _) dX10_whereAt_40 (fun r_16 u_17 w_18 => ?_)
          try dsimp only at w_18
          subst w_18
          refine J_iadd (pc := 43) X dX10_whereAt_43 ?_
          refine J_istore_n (pc := 44) X [(3, .int ((sumI (fun k9 => yG P (gp k9) gr t) i) + (yG P (gp i) gr t))), (0, .ref q), (1, .int t), (2, .int (nI K)), (4, .int (nI i))] dX10_whereAt_44 (by decide) rfl ?_
          refine J_iinc (pc := 45) X (nI (i + 1)) 4 [(4, .int (nI (i + 1))), (3, .int ((sumI (fun k9 => yG P (gp k9) gr t) i) + (yG P (gp i) gr t))), (0, .ref q), (1, .int t), (2, .int (nI K))] dX10_whereAt_45 rfl (n_add (x := i) (y := 1) rfl rfl (by omega)) (by decide) rfl ?_
          refine J_goto (pc := 48) X 29 dX10_whereAt_48 (by decide) ?_
          refine J_loc [2, 3, 4, 1, 0] (lv2 := [(0, .ref q), (1, .int t), (2, .int (nI K)), (3, .int (sumI (fun k9 => yG P (gp k9) gr t) (i + 1))), (4, .int (nI (i + 1)))]) rfl ?_
          exact ih_29  (i + 1) K (by first | assumption | omega | simp_all) (by first | assumption | omega | simp_all) (by first | assumption | omega | simp_all) (by omega)
    refine J_loc [3, 4, 2, 1, 0] (lv2 := [(0, .ref q), (1, .int t), (2, .int (nI pos)), (3, .int (sumI (fun k9 => yG P (gp k9) gr t) 0)), (4, .int 0)]) rfl ?_
    exact L_29 _  0 pos (by first | assumption | omega | simp_all) (by first | assumption | omega | simp_all) (by first | assumption | omega | simp_all) (Nat.lt_succ_self _)
set_option maxRecDepth 100000 in
set_option maxHeartbeats 600000 in
theorem kX10_whereIs (l : Launch) (G : va_G) (cI cC cZ : ClassId) (q : Nat) (qtx : Nat) (qlw : Nat) (qgp : Nat) (qhm : Nat) (qpcs : Nat) (qdl : Nat) (qdg : Nat) (qdh : Nat) (qdp : Nat) (qnw : Nat) (qps : Nat) (qim : Nat) (qisd : Nat) (qkp : Nat) (qfd : Nat) (qbk : Nat) (qal : Nat) (qco : Nat) (ln : Nat) (fa : Int32) (dr : Int32) (dn : Nat) (sd : Int32) (fn : Nat) (en : Nat) (at_ : Nat) (wr : Nat) (pl : Int32) (yd : Int32) (wy : Int32) (pce_ : Int32) (tl : Int32) (lw : Nat → Int32) (gp : Nat → Int32) (nw : Nat → Int32) (pcs : Nat → Int32) (P : Nat) (gr : Int32) (wd : Nat) (g : Nat) (wk : Nat) (w : Nat) (pos : Nat) (hPl : P ≤ 60) (hg : g ≤ 8) (hwk : wk ≤ 4) (hwd : wd ≤ 50) (hl0 : lw 0 = nI P) (hl1 : lw 1 = gr) (hl2 : lw 2 = nI wd) (hl3 : lw 3 = nI g) (hl4 : lw 4 = nI wk) (hP0 : 0 < g → 0 < P) (hw : w < 4) (hpos : nw (3 * w + 2) = nI pos) (hpk : posOk g pos) : CI l G (tys3 cI cC cZ) yX10_whereIs cX10_whereIs 2 (some .int) ({ frames := 4, cells := 0, slots := 0, locals := 92 }) [.ref q, .int (nI w)] [(q, .inr (10, [.ref qtx, .int (nI ln), .int fa, .ref qlw, .ref qgp, .ref qhm, .ref qpcs, .ref qdl, .ref qdg, .ref qdh, .ref qdp, .int dr, .int tl, .ref qnw, .ref qps, .int (nI dn), .ref qim, .ref qisd, .ref qkp, .int sd, .ref qfd, .int (nI fn), .ref qbk, .int (nI en), .int (nI at_), .int (nI wr), .int pl, .int yd, .int wy, .int pce_, .ref qal, .ref qco])), (qlw, .inl (cI, 5, .inl lw)), (qgp, .inl (cI, 8, .inl gp)), (qnw, .inl (cI, 14, .inl nw)), (qpcs, .inl (cI, 4, .inl pcs))] (S := Unit) (fun (r : Int32) (u : Unit) => r = whP (fun k9 => yG P (gp k9) gr (nw 0)) pos (nw (3 * w + 3)) (nw (3 * w + 4))) (fun (u : Unit) => [(q, .inr (10, [.ref qtx, .int (nI ln), .int fa, .ref qlw, .ref qgp, .ref qhm, .ref qpcs, .ref qdl, .ref qdg, .ref qdh, .ref qdp, .int dr, .int tl, .ref qnw, .ref qps, .int (nI dn), .ref qim, .ref qisd, .ref qkp, .int sd, .ref qfd, .int (nI fn), .ref qbk, .int (nI en), .int (nI at_), .int (nI wr), .int (nI pos), .int (nw (3 * w + 3)), .int (nw (3 * w + 4)), .int (pcs w), .ref qal, .ref qco])), (qlw, .inl (cI, 5, .inl lw)), (qgp, .inl (cI, 8, .inl gp)), (qnw, .inl (cI, 14, .inl nw)), (qpcs, .inl (cI, 4, .inl pcs))]) := by
  refine CI.intro (by decide) (Nat.le_of_ble_eq_true rfl) ?_
  intro p0 e0 s0 m0 ar0 be0 me0 c0 A0 X hr
  refine J_aload_n (pc := 0) X 0 dX10_whereIs_0 rfl ?_
  refine J_iload_n (pc := 1) X 1 dX10_whereIs_1 rfl ?_
  refine J_callV (pc := 2) (As := [.int (nI w)]) (rest := []) X mtX10_tries g1094 [0, 3, 4] [1, 2] [2, 0, 1, 3, 4] 0 (fun u => [(q, .inr (10, [.ref qtx, .int (nI ln), .int fa, .ref qlw, .ref qgp, .ref qhm, .ref qpcs, .ref qdl, .ref qdg, .ref qdh, .ref qdp, .int dr, .int tl, .ref qnw, .ref qps, .int (nI dn), .ref qim, .ref qisd, .ref qkp, .int sd, .ref qfd, .int (nI fn), .ref qbk, .int (nI en), .int (nI at_), .int (nI wr), .int (nI pos), .int (nw (3 * w + 3)), .int (nw (3 * w + 4)), .int (pcs w), .ref qal, .ref qco])), (qlw, .inl (cI, 5, .inl lw)), (qgp, .inl (cI, 8, .inl gp)), (qnw, .inl (cI, 14, .inl nw)), (qpcs, .inl (cI, 4, .inl pcs))]) (kX10_tries l G cI cC cZ q qtx qlw qgp qhm qpcs qdl qdg qdh qdp qnw qps qim qisd qkp qfd qbk qal qco ln fa dr dn sd fn en at_ wr pl yd wy pce_ tl nw pcs w pos (by first | assumption | omega) hpos) ⟨Nat.le_of_ble_eq_true rfl, Nat.le_of_ble_eq_true rfl⟩ rfl rfl rfl (by decide) (wr := [(qlw, .inl (cI, 5, .inl lw)), (qgp, .inl (cI, 8, .inl gp))]) rfl (by decide) (by decide) (fun _ => rfl) (by decide) rfl rfl rfl rfl rfl (Nat.le_of_ble_eq_true rfl) (Nat.zero_le _) (Nat.zero_le _) dX10_whereIs_2 (fun u_2 w_3 => ?_)
  try dsimp only at w_3
  refine J_aload_n (pc := 5) X 0 dX10_whereIs_5 rfl ?_
  refine J_aload_n (pc := 6) X 0 dX10_whereIs_6 rfl ?_
  refine J_get (pc := 7) X clX10 0 13 rfl (by decide) g902 rfl dX10_whereIs_7 ?_
  refine J_iconst (pc := 10) X 0 dX10_whereIs_10 (by decide) ?_
  refine J_iald (pc := 11) X 3 0 0 rfl rfl rfl (by decide) (by decide) dX10_whereIs_11 ?_
  refine J_callR (pc := 12) (As := [.int (nw 0)]) (rest := []) X mtX10_whereAt g1098 [0, 1, 2] 0 (kX10_whereAt l G cI cC cZ q qtx qlw qgp qhm qpcs qdl qdg qdh qdp qnw qps qim qisd qkp qfd qbk qal qco ln fa dr dn sd fn en at_ wr (pcs w) tl lw gp P gr wd g wk pos (nw (3 * w + 3)) (nw (3 * w + 4)) (nw 0) (by first | assumption | omega) (by first | assumption | omega) (by first | assumption | omega) (by first | assumption | omega) (by first | assumption | omega) (by first | assumption | omega) (by first | assumption | omega) (by first | assumption | omega) (by first | assumption | omega) (by first | assumption | omega) hpk) ⟨Nat.le_of_ble_eq_true rfl, Nat.le_of_ble_eq_true rfl⟩ rfl rfl rfl (by decide) rfl rfl rfl rfl rfl (Nat.le_of_ble_eq_true rfl) (Nat.zero_le _) (Nat.zero_le _) dX10_whereIs_12 (fun r_4 u_5 w_6 => ?_)
  try dsimp only at w_6
  subst w_6
  refine J_iret (pc := 15) X hr () dX10_whereIs_15 ?_ rfl
  rfl
set_option maxRecDepth 100000 in
set_option maxHeartbeats 600000 in
theorem kX10_copies (l : Launch) (G : va_G) (cI cC cZ : ClassId) (qa : Nat) (qb : Nat) (na : Nat) (nb : Nat) (fa : Nat → Int32) (fb : Nat → Int32) (a : Nat) (b : Nat) (h1 : a + 14 ≤ na) (h2 : b + 14 ≤ nb) (h3 : na ≤ 1000) (h4 : nb ≤ 1000) : CV l G (tys3 cI cC cZ) yX10_copies cX10_copies 5 ({ frames := 0, cells := 0, slots := 0, locals := 0 }) [.ref qa, .int (nI a), .ref qb, .int (nI b)] [(qa, .inl (cI, na, .inl fa)), (qb, .inl (cI, nb, .inl fb))] (S := (Nat → Int32)) (fun (u : (Nat → Int32)) => u = va_cpy fa fb a b 14) (fun (u : (Nat → Int32)) => [(qa, .inl (cI, na, .inl fa)), (qb, .inl (cI, nb, .inl u))]) := by
  refine CV.intro (by decide) (Nat.le_of_ble_eq_true rfl) ?_
  intro p0 e0 s0 m0 ar0 be0 me0 c0 A0 X hr
  refine J_iconst (pc := 0) X 0 dX10_copies_0 (by decide) ?_
  refine J_istore (pc := 1) X [(4, .int 0), (0, .ref qa), (1, .int (nI a)), (2, .ref qb), (3, .int (nI b))] dX10_copies_1 (by decide) rfl ?_
  have L_3 : ∀ (n_3 : Nat) (i : Nat) (cur : Nat → Int32) (hi : i ≤ 14) (hc : cur = va_cpy fa fb a b i), (14 - i) < n_3 → JJ p0 l e0 ({ frames := 0, cells := 0, slots := 0, locals := 0 }) s0 m0 ar0 be0 me0 c0 A0 G 5 0 0 (QV be0 ar0 s0 A0 G (tys3 cI cC cZ) (S := (Nat → Int32)) (fun (u : (Nat → Int32)) => u = va_cpy fa fb a b 14) (fun (u : (Nat → Int32)) => [(qa, .inl (cI, na, .inl fa)), (qb, .inl (cI, nb, .inl u))])) [(qa, .inl (cI, na, .inl fa)), (qb, .inl (cI, nb, .inl cur))] 3 [(0, .ref qa), (1, .int (nI a)), (2, .ref qb), (3, .int (nI b)), (4, .int (nI i))] [] := by
    intro n_3
    induction n_3 with
    | zero => intro i cur hi hc hm_3; exact absurd hm_3 (Nat.not_lt_zero _)
    | succ n_3 ih_3 =>
      intro i cur hi hc hm_3
      refine J_iload (pc := 3) X 4 dX10_copies_3 rfl ?_
      refine J_bipush (pc := 5) X 14 dX10_copies_5 (by decide) ?_
      refine J_icmp_ge (pc := 7) X 28 dX10_copies_7 (by decide) (fun c_1 => ?_) (fun c_1 => ?_)
      · have c_1 : 14 ≤ i := n_le_of (a := 14) (b := i) (by omega) (by omega) c_1
        refine J_vret (pc := 28) X hr cur dX10_copies_28 ?_ rfl
        exact hc.trans (congrArg (va_cpy fa fb a b) (by omega))
      · have c_1 : i < 14 := n_nle_of (a := 14) (b := i) (by omega) (by omega) c_1
        refine J_aload_n (pc := 10) X 2 dX10_copies_10 rfl ?_
        refine J_iload_n (pc := 11) X 3 dX10_copies_11 rfl ?_
        refine J_iload (pc := 12) X 4 dX10_copies_12 rfl ?_
        refine J_iadd (pc := 14) X dX10_copies_14 ?_
        refine J_top (y := nI (b + i)) (n_add (x := b) (y := i) rfl rfl (by omega)) ?_
        refine J_aload_n (pc := 15) X 0 dX10_copies_15 rfl ?_
        refine J_iload_n (pc := 16) X 1 dX10_copies_16 rfl ?_
        refine J_iload (pc := 17) X 4 dX10_copies_17 rfl ?_
        refine J_iadd (pc := 19) X dX10_copies_19 ?_
        refine J_top (y := nI (a + i)) (n_add (x := a) (y := i) rfl rfl (by omega)) ?_
        refine J_iald (pc := 20) X 0 0 (a + i) rfl rfl rfl (by omega) (by omega) dX10_copies_20 ?_
        refine J_iast (pc := 21) X 1 0 (b + i) [(qa, .inl (cI, na, .inl fa)), (qb, .inl (cI, nb, .inl (upd cur (b + i) (fa (a + i)))))] rfl rfl rfl (by omega) (by omega) rfl dX10_copies_21 ?_
        refine J_iinc (pc := 22) X (nI (i + 1)) 4 [(4, .int (nI (i + 1))), (0, .ref qa), (1, .int (nI a)), (2, .ref qb), (3, .int (nI b))] dX10_copies_22 rfl (n_add (x := i) (y := 1) rfl rfl (by omega)) (by decide) rfl ?_
        refine J_goto (pc := 25) X 3 dX10_copies_25 (by decide) ?_
        refine J_loc [1, 2, 3, 4, 0] (lv2 := [(0, .ref qa), (1, .int (nI a)), (2, .ref qb), (3, .int (nI b)), (4, .int (nI (i + 1)))]) rfl ?_
        exact ih_3  (i + 1) (upd cur (b + i) (fa (a + i))) (by first | assumption | omega | simp_all) (by rw [hc]; exact cpy_step) (by omega)
  refine J_loc [1, 2, 3, 4, 0] (lv2 := [(0, .ref qa), (1, .int (nI a)), (2, .ref qb), (3, .int (nI b)), (4, .int 0)]) rfl ?_
  exact L_3 _  0 fb (by first | assumption | omega | simp_all) cpy_0.symm (Nat.lt_succ_self _)
set_option maxRecDepth 100000 in
set_option maxHeartbeats 600000 in
theorem kX10_notes (l : Launch) (G : va_G) (cI cC cZ : ClassId) (q : Nat) (qtx : Nat) (qlw : Nat) (qgp : Nat) (qhm : Nat) (qpcs : Nat) (qdl : Nat) (qdg : Nat) (qdh : Nat) (qdp : Nat) (qnw : Nat) (qps : Nat) (qim : Nat) (qisd : Nat) (qkp : Nat) (qfd : Nat) (qbk : Nat) (qal : Nat) (qco : Nat) (ln : Nat) (fa : Int32) (dr : Int32) (dn : Nat) (sd : Int32) (fn : Nat) (en : Nat) (at_ : Nat) (wr : Nat) (pl : Int32) (yd : Int32) (wy : Int32) (pce_ : Int32) (tl : Int32) (nw : Nat → Int32) (ps : Nat → Int32) (hdn : dn ≤ 30) : CV l G (tys3 cI cC cZ) yX10_notes cX10_notes 2 ({ frames := 1, cells := 0, slots := 0, locals := 24 }) [.ref q] [(q, .inr (10, [.ref qtx, .int (nI ln), .int fa, .ref qlw, .ref qgp, .ref qhm, .ref qpcs, .ref qdl, .ref qdg, .ref qdh, .ref qdp, .int dr, .int tl, .ref qnw, .ref qps, .int (nI dn), .ref qim, .ref qisd, .ref qkp, .int sd, .ref qfd, .int (nI fn), .ref qbk, .int (nI en), .int (nI at_), .int (nI wr), .int pl, .int yd, .int wy, .int pce_, .ref qal, .ref qco])), (qnw, .inl (cI, 14, .inl nw)), (qps, .inl (cI, 420, .inl ps))] (S := Nat × (Nat → Int32)) (fun (u : Nat × (Nat → Int32)) => u.2 = pushF dn nw ps ∧ ((dn < 30 ∧ u.1 = dn + 1) ∨ (dn = 30 ∧ u.1 = 30))) (fun (u : Nat × (Nat → Int32)) => [(q, .inr (10, [.ref qtx, .int (nI ln), .int fa, .ref qlw, .ref qgp, .ref qhm, .ref qpcs, .ref qdl, .ref qdg, .ref qdh, .ref qdp, .int dr, .int tl, .ref qnw, .ref qps, .int (nI u.1), .ref qim, .ref qisd, .ref qkp, .int sd, .ref qfd, .int (nI fn), .ref qbk, .int (nI en), .int (nI at_), .int (nI wr), .int pl, .int yd, .int wy, .int pce_, .ref qal, .ref qco])), (qnw, .inl (cI, 14, .inl nw)), (qps, .inl (cI, 420, .inl u.2))]) := by
  refine CV.intro (by decide) (Nat.le_of_ble_eq_true rfl) ?_
  intro p0 e0 s0 m0 ar0 be0 me0 c0 A0 X hr
  refine J_aload_n (pc := 0) X 0 dX10_notes_0 rfl ?_
  refine J_get (pc := 1) X clX10 0 15 rfl (by decide) g904 rfl dX10_notes_1 ?_
  refine J_bipush (pc := 4) X 30 dX10_notes_4 (by decide) ?_
  refine J_icmp_ne (pc := 6) X 49 dX10_notes_6 (by decide) (fun c_1 => ?_) (fun c_1 => ?_)
  · have c_1 : ¬ dn = 30 := n_ne_of (a := dn) (b := 30) (by omega) (by omega) c_1
    refine J_aload_n (pc := 49) X 0 dX10_notes_49 rfl ?_
    refine J_get (pc := 50) X clX10 0 13 rfl (by decide) g902 rfl dX10_notes_50 ?_
    refine J_iconst (pc := 53) X 0 dX10_notes_53 (by decide) ?_
    refine J_aload_n (pc := 54) X 0 dX10_notes_54 rfl ?_
    refine J_get (pc := 55) X clX10 0 14 rfl (by decide) g903 rfl dX10_notes_55 ?_
    refine J_bipush (pc := 58) X 14 dX10_notes_58 (by decide) ?_
    refine J_aload_n (pc := 60) X 0 dX10_notes_60 rfl ?_
    refine J_get (pc := 61) X clX10 0 15 rfl (by decide) g904 rfl dX10_notes_61 ?_
    refine J_imul (pc := 64) X dX10_notes_64 ?_
    refine J_top (y := nI (14 * dn)) (n_mul (x := 14) (y := dn) rfl rfl (by omega)) ?_
    refine J_callSV (pc := 65) (As := [.ref qnw, .int 0, .ref qps, .int (nI (14 * dn))]) (rest := []) X mtX10_copies g1111 [1, 2] [0] [0, 1, 2] (fun u => [(q, .inr (10, [.ref qtx, .int (nI ln), .int fa, .ref qlw, .ref qgp, .ref qhm, .ref qpcs, .ref qdl, .ref qdg, .ref qdh, .ref qdp, .int dr, .int tl, .ref qnw, .ref qps, .int (nI dn), .ref qim, .ref qisd, .ref qkp, .int sd, .ref qfd, .int (nI fn), .ref qbk, .int (nI en), .int (nI at_), .int (nI wr), .int pl, .int yd, .int wy, .int pce_, .ref qal, .ref qco])), (qnw, .inl (cI, 14, .inl nw)), (qps, .inl (cI, 420, .inl u))]) (kX10_copies l G cI cC cZ qnw qps 14 420 nw ps 0 (14 * dn) (by first | assumption | omega) (by first | assumption | omega) (by first | assumption | omega) (by first | assumption | omega)) ⟨Nat.le_of_ble_eq_true rfl, Nat.le_of_ble_eq_true rfl⟩ rfl rfl rfl (by decide) (wr := [(q, .inr (10, [.ref qtx, .int (nI ln), .int fa, .ref qlw, .ref qgp, .ref qhm, .ref qpcs, .ref qdl, .ref qdg, .ref qdh, .ref qdp, .int dr, .int tl, .ref qnw, .ref qps, .int (nI dn), .ref qim, .ref qisd, .ref qkp, .int sd, .ref qfd, .int (nI fn), .ref qbk, .int (nI en), .int (nI at_), .int (nI wr), .int pl, .int yd, .int wy, .int pce_, .ref qal, .ref qco]))]) rfl (by decide) (by decide) (fun _ => rfl) (by decide) rfl rfl (Nat.le_of_ble_eq_true rfl) (Nat.zero_le _) (Nat.zero_le _) dX10_notes_65 (fun u_3 w_4 => ?_)
    obtain ⟨fb2_u_3, rfl⟩ : ∃ z, z = u_3 := ⟨_, rfl⟩
    try dsimp only at w_4
    have hcp := w_4
    refine J_aload_n (pc := 68) X 0 dX10_notes_68 rfl ?_
    refine J_dup (pc := 69) X dX10_notes_69 rfl ?_
    refine J_get (pc := 70) X clX10 0 15 rfl (by decide) g904 rfl dX10_notes_70 ?_
    refine J_iconst (pc := 73) X 1 dX10_notes_73 (by decide) ?_
    refine J_iadd (pc := 74) X dX10_notes_74 ?_
    refine J_top (y := nI (dn + 1)) (n_add (x := dn) (y := 1) rfl rfl (by omega)) ?_
    refine J_put (pc := 75) X clX10 0 15 [(q, .inr (10, [.ref qtx, .int (nI ln), .int fa, .ref qlw, .ref qgp, .ref qhm, .ref qpcs, .ref qdl, .ref qdg, .ref qdh, .ref qdp, .int dr, .int tl, .ref qnw, .ref qps, .int (nI (dn + 1)), .ref qim, .ref qisd, .ref qkp, .int sd, .ref qfd, .int (nI fn), .ref qbk, .int (nI en), .int (nI at_), .int (nI wr), .int pl, .int yd, .int wy, .int pce_, .ref qal, .ref qco])), (qnw, .inl (cI, 14, .inl nw)), (qps, .inl (cI, 420, .inl fb2_u_3))] rfl (by decide) g904 rfl rfl rfl (Nat.le_of_ble_eq_true rfl) rfl dX10_notes_75 ?_
    refine J_vret (pc := 78) X hr ((dn + 1), fb2_u_3) dX10_notes_78 ?_ rfl
    refine ⟨?_, ?_⟩
    · first | exact hcp.trans (push_some (by omega) (by omega)) | exact hcp.trans (push_full (by omega) hc (by omega) (by omega))
    · omega
  · have c_1 : dn = 30 := n_eq_of (a := dn) (b := 30) (by omega) (by omega) c_1
    refine J_iconst (pc := 9) X 0 dX10_notes_9 (by decide) ?_
    refine J_istore_n (pc := 10) X [(1, .int 0), (0, .ref q)] dX10_notes_10 (by decide) rfl ?_
    have L_11 : ∀ (n_11 : Nat) (i : Nat) (cur : Nat → Int32) (hi : i ≤ 406) (hc : cur = shf ps i), (406 - i) < n_11 → JJ p0 l e0 ({ frames := 1, cells := 0, slots := 0, locals := 24 }) s0 m0 ar0 be0 me0 c0 A0 G 2 0 0 (QV be0 ar0 s0 A0 G (tys3 cI cC cZ) (S := Nat × (Nat → Int32)) (fun (u : Nat × (Nat → Int32)) => u.2 = pushF dn nw ps ∧ ((dn < 30 ∧ u.1 = dn + 1) ∨ (dn = 30 ∧ u.1 = 30))) (fun (u : Nat × (Nat → Int32)) => [(q, .inr (10, [.ref qtx, .int (nI ln), .int fa, .ref qlw, .ref qgp, .ref qhm, .ref qpcs, .ref qdl, .ref qdg, .ref qdh, .ref qdp, .int dr, .int tl, .ref qnw, .ref qps, .int (nI u.1), .ref qim, .ref qisd, .ref qkp, .int sd, .ref qfd, .int (nI fn), .ref qbk, .int (nI en), .int (nI at_), .int (nI wr), .int pl, .int yd, .int wy, .int pce_, .ref qal, .ref qco])), (qnw, .inl (cI, 14, .inl nw)), (qps, .inl (cI, 420, .inl u.2))])) [(q, .inr (10, [.ref qtx, .int (nI ln), .int fa, .ref qlw, .ref qgp, .ref qhm, .ref qpcs, .ref qdl, .ref qdg, .ref qdh, .ref qdp, .int dr, .int tl, .ref qnw, .ref qps, .int (nI dn), .ref qim, .ref qisd, .ref qkp, .int sd, .ref qfd, .int (nI fn), .ref qbk, .int (nI en), .int (nI at_), .int (nI wr), .int pl, .int yd, .int wy, .int pce_, .ref qal, .ref qco])), (qnw, .inl (cI, 14, .inl nw)), (qps, .inl (cI, 420, .inl cur))] 11 [(0, .ref q), (1, .int (nI i))] [] := by
      intro n_11
      induction n_11 with
      | zero => intro i cur hi hc hm_11; exact absurd hm_11 (Nat.not_lt_zero _)
      | succ n_11 ih_11 =>
        intro i cur hi hc hm_11
        refine J_iload_n (pc := 11) X 1 dX10_notes_11 rfl ?_
        refine J_sipush (pc := 12) X 406 dX10_notes_12 (by decide) ?_
        refine J_icmp_ge (pc := 15) X 39 dX10_notes_15 (by decide) (fun c_5 => ?_) (fun c_5 => ?_)
        · have c_5 : 406 ≤ i := n_le_of (a := 406) (b := i) (by omega) (by omega) c_5
          refine J_aload_n (pc := 39) X 0 dX10_notes_39 rfl ?_
          refine J_dup (pc := 40) X dX10_notes_40 rfl ?_
          refine J_get (pc := 41) X clX10 0 15 rfl (by decide) g904 rfl dX10_notes_41 ?_
          refine J_iconst (pc := 44) X 1 dX10_notes_44 (by decide) ?_
          refine J_isub (pc := 45) X dX10_notes_45 ?_
          refine J_top (y := nI (dn - 1)) (n_sub (x := dn) (y := 1) rfl rfl (by omega) (by omega)) ?_
          refine J_put (pc := 46) X clX10 0 15 [(q, .inr (10, [.ref qtx, .int (nI ln), .int fa, .ref qlw, .ref qgp, .ref qhm, .ref qpcs, .ref qdl, .ref qdg, .ref qdh, .ref qdp, .int dr, .int tl, .ref qnw, .ref qps, .int (nI (dn - 1)), .ref qim, .ref qisd, .ref qkp, .int sd, .ref qfd, .int (nI fn), .ref qbk, .int (nI en), .int (nI at_), .int (nI wr), .int pl, .int yd, .int wy, .int pce_, .ref qal, .ref qco])), (qnw, .inl (cI, 14, .inl nw)), (qps, .inl (cI, 420, .inl cur))] rfl (by decide) g904 rfl rfl rfl (Nat.le_of_ble_eq_true rfl) rfl dX10_notes_46 ?_
          refine J_aload_n (pc := 49) X 0 dX10_notes_49 rfl ?_
          refine J_get (pc := 50) X clX10 0 13 rfl (by decide) g902 rfl dX10_notes_50 ?_
          refine J_iconst (pc := 53) X 0 dX10_notes_53 (by decide) ?_
          refine J_aload_n (pc := 54) X 0 dX10_notes_54 rfl ?_
          refine J_get (pc := 55) X clX10 0 14 rfl (by decide) g903 rfl dX10_notes_55 ?_
          refine J_bipush (pc := 58) X 14 dX10_notes_58 (by decide) ?_
          refine J_aload_n (pc := 60) X 0 dX10_notes_60 rfl ?_
          refine J_get (pc := 61) X clX10 0 15 rfl (by decide) g904 rfl dX10_notes_61 ?_
          refine J_imul (pc := 64) X dX10_notes_64 ?_
          refine J_top (y := nI (14 * dn - 14)) (n_mul (x := 14) (y := dn - 1) rfl rfl (by omega)) ?_
          refine J_callSV (pc := 65) (As := [.ref qnw, .int 0, .ref qps, .int (nI (14 * dn - 14))]) (rest := []) X mtX10_copies g1111 [1, 2] [0] [0, 1, 2] (fun u => [(q, .inr (10, [.ref qtx, .int (nI ln), .int fa, .ref qlw, .ref qgp, .ref qhm, .ref qpcs, .ref qdl, .ref qdg, .ref qdh, .ref qdp, .int dr, .int tl, .ref qnw, .ref qps, .int (nI (dn - 1)), .ref qim, .ref qisd, .ref qkp, .int sd, .ref qfd, .int (nI fn), .ref qbk, .int (nI en), .int (nI at_), .int (nI wr), .int pl, .int yd, .int wy, .int pce_, .ref qal, .ref qco])), (qnw, .inl (cI, 14, .inl nw)), (qps, .inl (cI, 420, .inl u))]) (kX10_copies l G cI cC cZ qnw qps 14 420 nw cur 0 (14 * dn - 14) (by first | assumption | omega) (by first | assumption | omega) (by first | assumption | omega) (by first | assumption | omega)) ⟨Nat.le_of_ble_eq_true rfl, Nat.le_of_ble_eq_true rfl⟩ rfl rfl rfl (by decide) (wr := [(q, .inr (10, [.ref qtx, .int (nI ln), .int fa, .ref qlw, .ref qgp, .ref qhm, .ref qpcs, .ref qdl, .ref qdg, .ref qdh, .ref qdp, .int dr, .int tl, .ref qnw, .ref qps, .int (nI (dn - 1)), .ref qim, .ref qisd, .ref qkp, .int sd, .ref qfd, .int (nI fn), .ref qbk, .int (nI en), .int (nI at_), .int (nI wr), .int pl, .int yd, .int wy, .int pce_, .ref qal, .ref qco]))]) rfl (by decide) (by decide) (fun _ => rfl) (by decide) rfl rfl (Nat.le_of_ble_eq_true rfl) (Nat.zero_le _) (Nat.zero_le _) dX10_notes_65 (fun u_7 w_8 => ?_)
          obtain ⟨fb2_u_7, rfl⟩ : ∃ z, z = u_7 := ⟨_, rfl⟩
          try dsimp only at w_8
          have hcp := w_8
          refine J_aload_n (pc := 68) X 0 dX10_notes_68 rfl ?_
          refine J_dup (pc := 69) X dX10_notes_69 rfl ?_
          refine J_get (pc := 70) X clX10 0 15 rfl (by decide) g904 rfl dX10_notes_70 ?_
          refine J_iconst (pc := 73) X 1 dX10_notes_73 (by decide) ?_
          refine J_iadd (pc := 74) X dX10_notes_74 ?_
          refine J_top (y := nI dn) (n_add (x := dn - 1) (y := 1) rfl rfl (by omega)) ?_
          refine J_put (pc := 75) X clX10 0 15 [(q, .inr (10, [.ref qtx, .int (nI ln), .int fa, .ref qlw, .ref qgp, .ref qhm, .ref qpcs, .ref qdl, .ref qdg, .ref qdh, .ref qdp, .int dr, .int tl, .ref qnw, .ref qps, .int (nI dn), .ref qim, .ref qisd, .ref qkp, .int sd, .ref qfd, .int (nI fn), .ref qbk, .int (nI en), .int (nI at_), .int (nI wr), .int pl, .int yd, .int wy, .int pce_, .ref qal, .ref qco])), (qnw, .inl (cI, 14, .inl nw)), (qps, .inl (cI, 420, .inl fb2_u_7))] rfl (by decide) g904 rfl rfl rfl (Nat.le_of_ble_eq_true rfl) rfl dX10_notes_75 ?_
          refine J_vret (pc := 78) X hr (dn, fb2_u_7) dX10_notes_78 ?_ rfl
          refine ⟨?_, ?_⟩
          · first | exact hcp.trans (push_some (by omega) (by omega)) | exact hcp.trans (push_full (by omega) hc (by omega) (by omega))
          · omega
        · have c_5 : i < 406 := n_nle_of (a := 406) (b := i) (by omega) (by omega) c_5
          refine J_aload_n (pc := 18) X 0 dX10_notes_18 rfl ?_
          refine J_get (pc := 19) X clX10 0 14 rfl (by decide) g903 rfl dX10_notes_19 ?_
          refine J_iload_n (pc := 22) X 1 dX10_notes_22 rfl ?_
          refine J_aload_n (pc := 23) X 0 dX10_notes_23 rfl ?_
          refine J_get (pc := 24) X clX10 0 14 rfl (by decide) g903 rfl dX10_notes_24 ?_
          refine J_iload_n (pc := 27) X 1 dX10_notes_27 rfl ?_
          refine J_bipush (pc := 28) X 14 dX10_notes_28 (by decide) ?_
          refine J_iadd (pc := 30) X dX10_notes_30 ?_
          refine J_top (y := nI (i + 14)) (n_add (x := i) (y := 14) rfl rfl (by omega)) ?_
          refine J_iald (pc := 31) X 2 0 (i + 14) rfl rfl rfl (by omega) (by decide) dX10_notes_31 ?_
          refine J_iast (pc := 32) X 2 0 i [(q, .inr (10, [.ref qtx, .int (nI ln), .int fa, .ref qlw, .ref qgp, .ref qhm, .ref qpcs, .ref qdl, .ref qdg, .ref qdh, .ref qdp, .int dr, .int tl, .ref qnw, .ref qps, .int (nI dn), .ref qim, .ref qisd, .ref qkp, .int sd, .ref qfd, .int (nI fn), .ref qbk, .int (nI en), .int (nI at_), .int (nI wr), .int pl, .int yd, .int wy, .int pce_, .ref qal, .ref qco])), (qnw, .inl (cI, 14, .inl nw)), (qps, .inl (cI, 420, .inl (upd cur i (cur (i + 14)))))] rfl rfl rfl (by omega) (by decide) rfl dX10_notes_32 ?_
          refine J_iinc (pc := 33) X (nI (i + 1)) 1 [(1, .int (nI (i + 1))), (0, .ref q)] dX10_notes_33 rfl (n_add (x := i) (y := 1) rfl rfl (by omega)) (by decide) rfl ?_
          refine J_goto (pc := 36) X 11 dX10_notes_36 (by decide) ?_
          refine J_loc [1, 0] (lv2 := [(0, .ref q), (1, .int (nI (i + 1)))]) rfl ?_
          exact ih_11  (i + 1) (upd cur i (cur (i + 14))) (by first | assumption | omega | simp_all) (by rw [hc, shf_at]; exact shf_step) (by omega)
    refine J_loc [1, 0] (lv2 := [(0, .ref q), (1, .int 0)]) rfl ?_
    exact L_11 _  0 ps (by first | assumption | omega | simp_all) shf_0.symm (Nat.lt_succ_self _)
