set_option maxRecDepth 100000 in
set_option maxHeartbeats 600000 in
theorem kX10_farthest (l : Launch) (G : va_G) (cI cC cZ : ClassId) (q : Nat) (qtx : Nat) (qlw : Nat) (qgp : Nat) (qhm : Nat) (qpcs : Nat) (qdl : Nat) (qdg : Nat) (qdh : Nat) (qdp : Nat) (qnw : Nat) (qps : Nat) (qim : Nat) (qisd : Nat) (qkp : Nat) (qfd : Nat) (qbk : Nat) (qal : Nat) (qco : Nat) (ln : Nat) (fa : Int32) (dr : Int32) (dn : Nat) (sd : Int32) (fn : Nat) (en : Nat) (at_ : Nat) (wr : Nat) (pl : Int32) (yd : Int32) (wy : Int32) (pce_ : Int32) (tl : Int32) (lw : Nat → Int32) (gp : Nat → Int32) (nw : Nat → Int32) (P : Nat) (gr : Int32) (wd : Nat) (g : Nat) (wk : Nat) (hs : Nat) (a : Nat) (v : Int32) (hPl : P ≤ 60) (hg : g ≤ 8) (hwk : wk ≤ 4) (hwd : wd ≤ 50) (hl0 : lw 0 = nI P) (hl1 : lw 1 = gr) (hl2 : lw 2 = nI wd) (hl3 : lw 3 = nI g) (hl4 : lw 4 = nI wk) (hP0 : 0 < g → 0 < P) (hhs : (g = 0 ∧ hs = 0) ∨ (0 < g ∧ hs = g + 1)) (ha : a < hs) : CI l G (tys3 cI cC cZ) yX10_farthest cX10_farthest 6 (some .int) ({ frames := 5, cells := 0, slots := 0, locals := 117 }) [.ref q, .int (nI a), .int v] [(q, .inr (10, [.ref qtx, .int (nI ln), .int fa, .ref qlw, .ref qgp, .ref qhm, .ref qpcs, .ref qdl, .ref qdg, .ref qdh, .ref qdp, .int dr, .int tl, .ref qnw, .ref qps, .int (nI dn), .ref qim, .ref qisd, .ref qkp, .int sd, .ref qfd, .int (nI fn), .ref qbk, .int (nI en), .int (nI at_), .int (nI wr), .int pl, .int yd, .int wy, .int pce_, .ref qal, .ref qco])), (qlw, .inl (cI, 5, .inl lw)), (qgp, .inl (cI, 8, .inl gp)), (qnw, .inl (cI, 14, .inl nw))] (S := Int32 × Int32 × Int32 × Int32) (fun (r : Int32) (u : Int32 × Int32 × Int32 × Int32) => r = faTo (fun k9 t9 => yG P (gp k9) gr t9) (nw 1) v (nw 0) a hs) (fun (u : Int32 × Int32 × Int32 × Int32) => [(q, .inr (10, [.ref qtx, .int (nI ln), .int fa, .ref qlw, .ref qgp, .ref qhm, .ref qpcs, .ref qdl, .ref qdg, .ref qdh, .ref qdp, .int dr, .int tl, .ref qnw, .ref qps, .int (nI dn), .ref qim, .ref qisd, .ref qkp, .int sd, .ref qfd, .int (nI fn), .ref qbk, .int (nI en), .int (nI at_), .int (nI wr), .int u.1, .int u.2.1, .int u.2.2.1, .int u.2.2.2, .ref qal, .ref qco])), (qlw, .inl (cI, 5, .inl lw)), (qgp, .inl (cI, 8, .inl gp)), (qnw, .inl (cI, 14, .inl nw))]) := by
  refine CI.intro (by decide) (Nat.le_of_ble_eq_true rfl) ?_
  intro p0 e0 s0 m0 ar0 be0 me0 c0 A0 X hr
  refine J_iconst (pc := 0) X 0 dX10_farthest_0 (by decide) ?_
  refine J_istore_n (pc := 1) X [(3, .int 0), (0, .ref q), (1, .int (nI a)), (2, .int v)] dX10_farthest_1 (by decide) rfl ?_
  refine J_iconst (pc := 2) X 0 dX10_farthest_2 (by decide) ?_
  refine J_istore (pc := 3) X [(4, .int 0), (3, .int 0), (0, .ref q), (1, .int (nI a)), (2, .int v)] dX10_farthest_3 (by decide) rfl ?_
  have L_5 : ∀ (n_5 : Nat) (b : Nat) (m_ : Int32) (plx : Int32) (ydx : Int32) (wyx : Int32) (pcx : Int32) (hb9 : b ≤ hs) (hm : m_ = faTo (fun k9 t9 => yG P (gp k9) gr t9) (nw 1) v (nw 0) a b), (hs - b) < n_5 → JJ p0 l e0 ({ frames := 5, cells := 0, slots := 0, locals := 117 }) s0 m0 ar0 be0 me0 c0 A0 G 6 0 0 (QI be0 ar0 s0 A0 G (tys3 cI cC cZ) (S := Int32 × Int32 × Int32 × Int32) (fun (r : Int32) (u : Int32 × Int32 × Int32 × Int32) => r = faTo (fun k9 t9 => yG P (gp k9) gr t9) (nw 1) v (nw 0) a hs) (fun (u : Int32 × Int32 × Int32 × Int32) => [(q, .inr (10, [.ref qtx, .int (nI ln), .int fa, .ref qlw, .ref qgp, .ref qhm, .ref qpcs, .ref qdl, .ref qdg, .ref qdh, .ref qdp, .int dr, .int tl, .ref qnw, .ref qps, .int (nI dn), .ref qim, .ref qisd, .ref qkp, .int sd, .ref qfd, .int (nI fn), .ref qbk, .int (nI en), .int (nI at_), .int (nI wr), .int u.1, .int u.2.1, .int u.2.2.1, .int u.2.2.2, .ref qal, .ref qco])), (qlw, .inl (cI, 5, .inl lw)), (qgp, .inl (cI, 8, .inl gp)), (qnw, .inl (cI, 14, .inl nw))])) [(q, .inr (10, [.ref qtx, .int (nI ln), .int fa, .ref qlw, .ref qgp, .ref qhm, .ref qpcs, .ref qdl, .ref qdg, .ref qdh, .ref qdp, .int dr, .int tl, .ref qnw, .ref qps, .int (nI dn), .ref qim, .ref qisd, .ref qkp, .int sd, .ref qfd, .int (nI fn), .ref qbk, .int (nI en), .int (nI at_), .int (nI wr), .int plx, .int ydx, .int wyx, .int pcx, .ref qal, .ref qco])), (qlw, .inl (cI, 5, .inl lw)), (qgp, .inl (cI, 8, .inl gp)), (qnw, .inl (cI, 14, .inl nw))] 5 [(0, .ref q), (1, .int (nI a)), (2, .int v), (3, .int m_), (4, .int (nI b))] [] := by
    intro n_5
    induction n_5 with
    | zero => intro b m_ plx ydx wyx pcx hb9 hm hm_5; exact absurd hm_5 (Nat.not_lt_zero _)
    | succ n_5 ih_5 =>
      intro b m_ plx ydx wyx pcx hb9 hm hm_5
      refine J_iload (pc := 5) X 4 dX10_farthest_5 rfl ?_
      refine J_aload_n (pc := 7) X 0 dX10_farthest_7 rfl ?_
      refine J_callR (pc := 8) (As := []) (rest := [.int (nI b)]) X mtX10_houses g1054 [0, 1] 0 (kX10_houses l G cI cC cZ q qtx qlw qgp qhm qpcs qdl qdg qdh qdp qnw qps qim qisd qkp qfd qbk qal qco ln fa dr dn sd fn en at_ wr plx ydx wyx pcx tl lw P gr wd g wk hs (by first | assumption | omega) (by first | assumption | omega) (by first | assumption | omega) (by first | assumption | omega) (by first | assumption | omega) (by first | assumption | omega) (by first | assumption | omega) (by first | assumption | omega) (by first | assumption | omega) (by first | assumption | omega)) ⟨Nat.le_of_ble_eq_true rfl, Nat.le_of_ble_eq_true rfl⟩ rfl rfl rfl (by decide) rfl rfl rfl rfl rfl (Nat.le_of_ble_eq_true rfl) (Nat.zero_le _) (Nat.zero_le _) dX10_farthest_8 (fun r_1 u_2 w_3 => ?_)
      try dsimp only at w_3
      subst w_3
      refine J_icmp_ge (pc := 11) X 83 dX10_farthest_11 (by decide) (fun c_4 => ?_) (fun c_4 => ?_)
      · have c_4 : hs ≤ b := n_le_of (a := hs) (b := b) (by omega) (by omega) c_4
        refine J_iload_n (pc := 83) X 3 dX10_farthest_83 rfl ?_
        refine J_iret (pc := 84) X hr (plx, ydx, wyx, pcx) dX10_farthest_84 ?_ rfl
        exact hm.trans (congrArg (faTo (fun k9 t9 => yG P (gp k9) gr t9) (nw 1) v (nw 0) a) (by omega))
      · have c_4 : b < hs := n_nle_of (a := hs) (b := b) (by omega) (by omega) c_4
        refine J_iload (pc := 14) X 4 dX10_farthest_14 rfl ?_
        refine J_iload_n (pc := 16) X 1 dX10_farthest_16 rfl ?_
        refine J_icmp_ne (pc := 17) X 24 dX10_farthest_17 (by decide) (fun c_5 => ?_) (fun c_5 => ?_)
        · have c_5 : ¬ b = a := n_ne_of (a := b) (b := a) (by omega) (by omega) c_5
          refine J_aload_n (pc := 24) X 0 dX10_farthest_24 rfl ?_
          refine J_iload_n (pc := 25) X 1 dX10_farthest_25 rfl ?_
          refine J_iload (pc := 26) X 4 dX10_farthest_26 rfl ?_
          refine J_iload_n (pc := 28) X 2 dX10_farthest_28 rfl ?_
          refine J_aload_n (pc := 29) X 0 dX10_farthest_29 rfl ?_
          refine J_get (pc := 30) X clX10 0 13 rfl (by decide) g902 rfl dX10_farthest_30 ?_
          refine J_iconst (pc := 33) X 0 dX10_farthest_33 (by decide) ?_
          refine J_iald (pc := 34) X 3 0 0 rfl rfl rfl (by decide) (by decide) dX10_farthest_34 ?_
          refine J_aload_n (pc := 35) X 0 dX10_farthest_35 rfl ?_
          refine J_get (pc := 36) X clX10 0 13 rfl (by decide) g902 rfl dX10_farthest_36 ?_
          refine J_iconst (pc := 39) X 1 dX10_farthest_39 (by decide) ?_
          refine J_iald (pc := 40) X 3 0 1 rfl rfl rfl (by decide) (by decide) dX10_farthest_40 ?_
          refine J_sipush (pc := 41) X 300 dX10_farthest_41 (by decide) ?_
          refine J_callI (pc := 44) (As := [.int (nI a), .int (nI b), .int v, .int (nw 0), .int (nw 1), .int 300]) (rest := []) X mtX10_takesBy g1179 [0, 1, 2] [3] [1, 2, 3, 0] 0 (fun u => [(q, .inr (10, [.ref qtx, .int (nI ln), .int fa, .ref qlw, .ref qgp, .ref qhm, .ref qpcs, .ref qdl, .ref qdg, .ref qdh, .ref qdp, .int dr, .int tl, .ref qnw, .ref qps, .int (nI dn), .ref qim, .ref qisd, .ref qkp, .int sd, .ref qfd, .int (nI fn), .ref qbk, .int (nI en), .int (nI at_), .int (nI wr), .int u.1, .int u.2.1, .int u.2.2.1, .int u.2.2.2, .ref qal, .ref qco])), (qlw, .inl (cI, 5, .inl lw)), (qgp, .inl (cI, 8, .inl gp)), (qnw, .inl (cI, 14, .inl nw))]) (kX10_takesBy l G cI cC cZ q qtx qlw qgp qhm qpcs qdl qdg qdh qdp qnw qps qim qisd qkp qfd qbk qal qco ln fa dr dn sd fn en at_ wr plx ydx wyx pcx tl lw gp P gr wd g wk a b v (nw 0) (nw 1) 300 (by first | assumption | omega) (by first | assumption | omega) (by first | assumption | omega) (by first | assumption | omega) (by first | assumption | omega) (by first | assumption | omega) (by first | assumption | omega) (by first | assumption | omega) (by first | assumption | omega) (by first | assumption | omega) (by first | assumption | omega) (by first | assumption | omega) (by first | assumption | omega) (by first | assumption | omega)) ⟨Nat.le_of_ble_eq_true rfl, Nat.le_of_ble_eq_true rfl⟩ rfl rfl rfl (by decide) (wr := [(qnw, .inl (cI, 14, .inl nw))]) rfl (by decide) (by decide) (fun _ => rfl) (by decide) rfl rfl rfl rfl rfl (Nat.le_of_ble_eq_true rfl) (Nat.zero_le _) (Nat.zero_le _) dX10_farthest_44 (fun r_6 u_7 w_8 => ?_)
          obtain ⟨plx_u_7, ydx_u_7, wyx_u_7, pcx_u_7⟩ := u_7
          try dsimp only at w_8
          try dsimp only at w_8
          subst w_8
          refine J_istore (pc := 47) X [(5, .int (rT (wT (fun k9 t9 => yG P (gp k9) gr t9) (nw 1) v (nw 0) b 300 a 0 0))), (0, .ref q), (1, .int (nI a)), (2, .int v), (3, .int m_), (4, .int (nI b))] dX10_farthest_47 (by decide) rfl ?_
          refine J_iload (pc := 49) X 0 dX10_farthest_49 rfl ?_
          refine J_iconst (pc := 51) X (-1) dX10_farthest_51 (by decide) ?_
          refine J_icmp_eq (pc := 52) X 60 dX10_farthest_52 (by decide) (fun c_9 => ?_) (fun c_9 => ?_)
          · skip
            refine J_iconst (pc := 60) X (-1) dX10_farthest_60 (by decide) ?_
            refine J_goto (pc := 61) X 76 dX10_farthest_61 (by decide) ?_
            refine J_istore_n (pc := 76) X [(3, .int (-1)), (5, .int (rT (wT (fun k9 t9 => yG P (gp k9) gr t9) (nw 1) v (nw 0) b 300 a 0 0))), (0, .ref q), (1, .int (nI a)), (2, .int v), (4, .int (nI b))] dX10_farthest_76 (by decide) rfl ?_
            refine J_iinc (pc := 77) X (nI (b + 1)) 5 [(4, .int (nI (b + 1))), (3, .int (-1)), (5, .int (rT (wT (fun k9 t9 => yG P (gp k9) gr t9) (nw 1) v (nw 0) b 300 a 0 0))), (0, .ref q), (1, .int (nI a)), (2, .int v)] dX10_farthest_77 rfl (n_add (x := b) (y := 1) rfl rfl (by omega)) (by decide) rfl ?_
            refine J_goto (pc := 80) X 5 dX10_farthest_80 (by decide) ?_
            refine J_loc [3, 4, 5, 1, 0] (lv2 := [(0, .ref q), (1, .int (nI a)), (2, .int v), (3, .int (-1)), (4, .int (nI (b + 1)))]) rfl ?_
            exact ih_5  (b + 1) (-1) plx_u_7 ydx_u_7 wyx_u_7 pcx_u_7 (by first | assumption | omega | simp_all) (by have z := fa_step (its := (rT (wT (fun k9 t9 => yG P (gp k9) gr t9) (nw 1) v (nw 0) b 300 a 0 0))) hm ((if_neg (show ¬ b = a from by omega)).symm); rw [← z]; first | exact (if_pos (Or.inl (by assumption))).symm | exact (if_pos (Or.inr (by assumption))).symm | (rw [if_neg (fun z9 => z9.elim (by assumption) (by assumption))]; first | exact (if_pos (by assumption)).symm | exact (if_neg (by assumption)).symm)) (by omega)
          · skip
            refine J_iload_n (pc := 55) X 4 dX10_farthest_55 rfl ?_
            refine J_iconst (pc := 56) X (-1) dX10_farthest_56 (by decide) ?_
            refine J_icmp_ne (pc := 57) X 64 dX10_farthest_57 (by decide) (fun c_10 => ?_) (fun c_10 => ?_)
            · skip
              refine J_iload (pc := 64) X 0 dX10_farthest_64 rfl ?_
              refine J_iload_n (pc := 66) X 4 dX10_farthest_66 rfl ?_
              refine J_icmp_le (pc := 67) X 75 dX10_farthest_67 (by decide) (fun c_11 => ?_) (fun c_11 => ?_)
              · have c_11 := Int32.not_lt.mpr c_11
                refine J_iload_n (pc := 75) X 4 dX10_farthest_75 rfl ?_
                refine J_istore_n (pc := 76) X [(3, .int m_), (5, .int (rT (wT (fun k9 t9 => yG P (gp k9) gr t9) (nw 1) v (nw 0) b 300 a 0 0))), (0, .ref q), (1, .int (nI a)), (2, .int v), (4, .int (nI b))] dX10_farthest_76 (by decide) rfl ?_
                refine J_iinc (pc := 77) X (nI (b + 1)) 5 [(4, .int (nI (b + 1))), (3, .int m_), (5, .int (rT (wT (fun k9 t9 => yG P (gp k9) gr t9) (nw 1) v (nw 0) b 300 a 0 0))), (0, .ref q), (1, .int (nI a)), (2, .int v)] dX10_farthest_77 rfl (n_add (x := b) (y := 1) rfl rfl (by omega)) (by decide) rfl ?_
                refine J_goto (pc := 80) X 5 dX10_farthest_80 (by decide) ?_
                refine J_loc [3, 4, 5, 1, 0] (lv2 := [(0, .ref q), (1, .int (nI a)), (2, .int v), (3, .int m_), (4, .int (nI (b + 1)))]) rfl ?_
                exact ih_5  (b + 1) m_ plx_u_7 ydx_u_7 wyx_u_7 pcx_u_7 (by first | assumption | omega | simp_all) (by have z := fa_step (its := (rT (wT (fun k9 t9 => yG P (gp k9) gr t9) (nw 1) v (nw 0) b 300 a 0 0))) hm ((if_neg (show ¬ b = a from by omega)).symm); rw [← z]; first | exact (if_pos (Or.inl (by assumption))).symm | exact (if_pos (Or.inr (by assumption))).symm | (rw [if_neg (fun z9 => z9.elim (by assumption) (by assumption))]; first | exact (if_pos (by assumption)).symm | exact (if_neg (by assumption)).symm)) (by omega)
              · have c_11 := Int32.not_le.mp c_11
                refine J_iload (pc := 70) X 0 dX10_farthest_70 rfl ?_
                refine J_goto (pc := 72) X 76 dX10_farthest_72 (by decide) ?_
                refine J_istore_n (pc := 76) X [(3, .int (rT (wT (fun k9 t9 => yG P (gp k9) gr t9) (nw 1) v (nw 0) b 300 a 0 0))), (5, .int (rT (wT (fun k9 t9 => yG P (gp k9) gr t9) (nw 1) v (nw 0) b 300 a 0 0))), (0, .ref q), (1, .int (nI a)), (2, .int v), (4, .int (nI b))] dX10_farthest_76 (by decide) rfl ?_
                refine J_iinc (pc := 77) X (nI (b + 1)) 5 [(4, .int (nI (b + 1))), (3, .int (rT (wT (fun k9 t9 => yG P (gp k9) gr t9) (nw 1) v (nw 0) b 300 a 0 0))), (5, .int (rT (wT (fun k9 t9 => yG P (gp k9) gr t9) (nw 1) v (nw 0) b 300 a 0 0))), (0, .ref q), (1, .int (nI a)), (2, .int v)] dX10_farthest_77 rfl (n_add (x := b) (y := 1) rfl rfl (by omega)) (by decide) rfl ?_
                refine J_goto (pc := 80) X 5 dX10_farthest_80 (by decide) ?_
                refine J_loc [3, 4, 5, 1, 0] (lv2 := [(0, .ref q), (1, .int (nI a)), (2, .int v), (3, .int (rT (wT (fun k9 t9 => yG P (gp k9) gr t9) (nw 1) v (nw 0) b 300 a 0 0))), (4, .int (nI (b + 1)))]) rfl ?_
                exact ih_5  (b + 1) (rT (wT (fun k9 t9 => yG P (gp k9) gr t9) (nw 1) v (nw 0) b 300 a 0 0)) plx_u_7 ydx_u_7 wyx_u_7 pcx_u_7 (by first | assumption | omega | simp_all) (by have z := fa_step (its := (rT (wT (fun k9 t9 => yG P (gp k9) gr t9) (nw 1) v (nw 0) b 300 a 0 0))) hm ((if_neg (show ¬ b = a from by omega)).symm); rw [← z]; first | exact (if_pos (Or.inl (by assumption))).symm | exact (if_pos (Or.inr (by assumption))).symm | (rw [if_neg (fun z9 => z9.elim (by assumption) (by assumption))]; first | exact (if_pos (by assumption)).symm | exact (if_neg (by assumption)).symm)) (by omega)
            · skip
              refine J_iconst (pc := 60) X (-1) dX10_farthest_60 (by decide) ?_
              refine J_goto (pc := 61) X 76 dX10_farthest_61 (by decide) ?_
              refine J_istore_n (pc := 76) X [(3, .int (-1)), (5, .int (rT (wT (fun k9 t9 => yG P (gp k9) gr t9) (nw 1) v (nw 0) b 300 a 0 0))), (0, .ref q), (1, .int (nI a)), (2, .int v), (4, .int (nI b))] dX10_farthest_76 (by decide) rfl ?_
              refine J_iinc (pc := 77) X (nI (b + 1)) 5 [(4, .int (nI (b + 1))), (3, .int (-1)), (5, .int (rT (wT (fun k9 t9 => yG P (gp k9) gr t9) (nw 1) v (nw 0) b 300 a 0 0))), (0, .ref q), (1, .int (nI a)), (2, .int v)] dX10_farthest_77 rfl (n_add (x := b) (y := 1) rfl rfl (by omega)) (by decide) rfl ?_
              refine J_goto (pc := 80) X 5 dX10_farthest_80 (by decide) ?_
              refine J_loc [3, 4, 5, 1, 0] (lv2 := [(0, .ref q), (1, .int (nI a)), (2, .int v), (3, .int (-1)), (4, .int (nI (b + 1)))]) rfl ?_
              exact ih_5  (b + 1) (-1) plx_u_7 ydx_u_7 wyx_u_7 pcx_u_7 (by first | assumption | omega | simp_all) (by have z := fa_step (its := (rT (wT (fun k9 t9 => yG P (gp k9) gr t9) (nw 1) v (nw 0) b 300 a 0 0))) hm ((if_neg (show ¬ b = a from by omega)).symm); rw [← z]; first | exact (if_pos (Or.inl (by assumption))).symm | exact (if_pos (Or.inr (by assumption))).symm | (rw [if_neg (fun z9 => z9.elim (by assumption) (by assumption))]; first | exact (if_pos (by assumption)).symm | exact (if_neg (by assumption)).symm)) (by omega)
        · have c_5 : b = a := n_eq_of (a := b) (b := a) (by omega) (by omega) c_5
          refine J_iconst (pc := 20) X 0 dX10_farthest_20 (by decide) ?_
          refine J_goto (pc := 21) X 47 dX10_farthest_21 (by decide) ?_
          refine J_istore (pc := 47) X [(5, .int 0), (0, .ref q), (1, .int (nI a)), (2, .int v), (3, .int m_), (4, .int (nI b))] dX10_farthest_47 (by decide) rfl ?_
          refine J_iload (pc := 49) X 0 dX10_farthest_49 rfl ?_
          refine J_iconst (pc := 51) X (-1) dX10_farthest_51 (by decide) ?_
          refine J_icmp_eq (pc := 52) X 60 dX10_farthest_52 (by decide) (fun c_12 => ?_) (fun c_12 => ?_)
          · skip
            refine J_iconst (pc := 60) X (-1) dX10_farthest_60 (by decide) ?_
            refine J_goto (pc := 61) X 76 dX10_farthest_61 (by decide) ?_
            refine J_istore_n (pc := 76) X [(3, .int (-1)), (5, .int 0), (0, .ref q), (1, .int (nI a)), (2, .int v), (4, .int (nI b))] dX10_farthest_76 (by decide) rfl ?_
            refine J_iinc (pc := 77) X (nI (b + 1)) 5 [(4, .int (nI (b + 1))), (3, .int (-1)), (5, .int 0), (0, .ref q), (1, .int (nI a)), (2, .int v)] dX10_farthest_77 rfl (n_add (x := b) (y := 1) rfl rfl (by omega)) (by decide) rfl ?_
            refine J_goto (pc := 80) X 5 dX10_farthest_80 (by decide) ?_
            refine J_loc [3, 4, 5, 1, 0] (lv2 := [(0, .ref q), (1, .int (nI a)), (2, .int v), (3, .int (-1)), (4, .int (nI (b + 1)))]) rfl ?_
            exact ih_5  (b + 1) (-1) plx ydx wyx pcx (by first | assumption | omega | simp_all) (by have z := fa_step (its := 0) hm ((if_pos (show b = a from by omega)).symm); rw [← z]; first | exact (if_pos (Or.inl (by assumption))).symm | exact (if_pos (Or.inr (by assumption))).symm | (rw [if_neg (fun z9 => z9.elim (by assumption) (by assumption))]; first | exact (if_pos (by assumption)).symm | exact (if_neg (by assumption)).symm)) (by omega)
          · skip
            refine J_iload_n (pc := 55) X 4 dX10_farthest_55 rfl ?_
            refine J_iconst (pc := 56) X (-1) dX10_farthest_56 (by decide) ?_
            refine J_icmp_ne (pc := 57) X 64 dX10_farthest_57 (by decide) (fun c_13 => ?_) (fun c_13 => ?_)
            · skip
              refine J_iload (pc := 64) X 0 dX10_farthest_64 rfl ?_
              refine J_iload_n (pc := 66) X 4 dX10_farthest_66 rfl ?_
              refine J_icmp_le (pc := 67) X 75 dX10_farthest_67 (by decide) (fun c_14 => ?_) (fun c_14 => ?_)
              · have c_14 := Int32.not_lt.mpr c_14
                refine J_iload_n (pc := 75) X 4 dX10_farthest_75 rfl ?_
                refine J_istore_n (pc := 76) X [(3, .int m_), (5, .int 0), (0, .ref q), (1, .int (nI a)), (2, .int v), (4, .int (nI b))] dX10_farthest_76 (by decide) rfl ?_
                refine J_iinc (pc := 77) X (nI (b + 1)) 5 [(4, .int (nI (b + 1))), (3, .int m_), (5, .int 0), (0, .ref q), (1, .int (nI a)), (2, .int v)] dX10_farthest_77 rfl (n_add (x := b) (y := 1) rfl rfl (by omega)) (by decide) rfl ?_
                refine J_goto (pc := 80) X 5 dX10_farthest_80 (by decide) ?_
                refine J_loc [3, 4, 5, 1, 0] (lv2 := [(0, .ref q), (1, .int (nI a)), (2, .int v), (3, .int m_), (4, .int (nI (b + 1)))]) rfl ?_
                exact ih_5  (b + 1) m_ plx ydx wyx pcx (by first | assumption | omega | simp_all) (by have z := fa_step (its := 0) hm ((if_pos (show b = a from by omega)).symm); rw [← z]; first | exact (if_pos (Or.inl (by assumption))).symm | exact (if_pos (Or.inr (by assumption))).symm | (rw [if_neg (fun z9 => z9.elim (by assumption) (by assumption))]; first | exact (if_pos (by assumption)).symm | exact (if_neg (by assumption)).symm)) (by omega)
              · have c_14 := Int32.not_le.mp c_14
                refine J_iload (pc := 70) X 0 dX10_farthest_70 rfl ?_
                refine J_goto (pc := 72) X 76 dX10_farthest_72 (by decide) ?_
                refine J_istore_n (pc := 76) X [(3, .int 0), (5, .int 0), (0, .ref q), (1, .int (nI a)), (2, .int v), (4, .int (nI b))] dX10_farthest_76 (by decide) rfl ?_
                refine J_iinc (pc := 77) X (nI (b + 1)) 5 [(4, .int (nI (b + 1))), (3, .int 0), (5, .int 0), (0, .ref q), (1, .int (nI a)), (2, .int v)] dX10_farthest_77 rfl (n_add (x := b) (y := 1) rfl rfl (by omega)) (by decide) rfl ?_
                refine J_goto (pc := 80) X 5 dX10_farthest_80 (by decide) ?_
                refine J_loc [3, 4, 5, 1, 0] (lv2 := [(0, .ref q), (1, .int (nI a)), (2, .int v), (3, .int 0), (4, .int (nI (b + 1)))]) rfl ?_
                exact ih_5  (b + 1) 0 plx ydx wyx pcx (by first | assumption | omega | simp_all) (by have z := fa_step (its := 0) hm ((if_pos (show b = a from by omega)).symm); rw [← z]; first | exact (if_pos (Or.inl (by assumption))).symm | exact (if_pos (Or.inr (by assumption))).symm | (rw [if_neg (fun z9 => z9.elim (by assumption) (by assumption))]; first | exact (if_pos (by assumption)).symm | exact (if_neg (by assumption)).symm)) (by omega)
            · skip
              refine J_iconst (pc := 60) X (-1) dX10_farthest_60 (by decide) ?_
              refine J_goto (pc := 61) X 76 dX10_farthest_61 (by decide) ?_
              refine J_istore_n (pc := 76) X [(3, .int (-1)), (5, .int 0), (0, .ref q), (1, .int (nI a)), (2, .int v), (4, .int (nI b))] dX10_farthest_76 (by decide) rfl ?_
              refine J_iinc (pc := 77) X (nI (b + 1)) 5 [(4, .int (nI (b + 1))), (3, .int (-1)), (5, .int 0), (0, .ref q), (1, .int (nI a)), (2, .int v)] dX10_farthest_77 rfl (n_add (x := b) (y := 1) rfl rfl (by omega)) (by decide) rfl ?_
              refine J_goto (pc := 80) X 5 dX10_farthest_80 (by decide) ?_
              refine J_loc [3, 4, 5, 1, 0] (lv2 := [(0, .ref q), (1, .int (nI a)), (2, .int v), (3, .int (-1)), (4, .int (nI (b + 1)))]) rfl ?_
              exact ih_5  (b + 1) (-1) plx ydx wyx pcx (by first | assumption | omega | simp_all) (by have z := fa_step (its := 0) hm ((if_pos (show b = a from by omega)).symm); rw [← z]; first | exact (if_pos (Or.inl (by assumption))).symm | exact (if_pos (Or.inr (by assumption))).symm | (rw [if_neg (fun z9 => z9.elim (by assumption) (by assumption))]; first | exact (if_pos (by assumption)).symm | exact (if_neg (by assumption)).symm)) (by omega)
  refine J_loc [2, 3, 4, 1, 0] (lv2 := [(0, .ref q), (1, .int (nI a)), (2, .int v), (3, .int 0), (4, .int 0)]) rfl ?_
  exact L_5 _  0 0 pl yd wy pce_ (by first | assumption | omega | simp_all) rfl (Nat.lt_succ_self _)
set_option maxRecDepth 100000 in
set_option maxHeartbeats 600000 in
theorem kX10_doctor (l : Launch) (G : va_G) (cI cC cZ : ClassId) (q : Nat) (qtx : Nat) (qlw : Nat) (qgp : Nat) (qhm : Nat) (qpcs : Nat) (qdl : Nat) (qdg : Nat) (qdh : Nat) (qdp : Nat) (qnw : Nat) (qps : Nat) (qim : Nat) (qisd : Nat) (qkp : Nat) (qfd : Nat) (qbk : Nat) (qal : Nat) (qco : Nat) (ln : Nat) (fa : Int32) (dr : Int32) (dn : Nat) (sd : Int32) (fn : Nat) (en : Nat) (at_ : Nat) (wr : Nat) (pl : Int32) (yd : Int32) (wy : Int32) (pce_ : Int32) (tl : Int32) (lw : Nat → Int32) (gp : Nat → Int32) (nw : Nat → Int32) (P : Nat) (gr : Int32) (wd : Nat) (g : Nat) (wk : Nat) (hs : Nat) (v : Int32) (what : Int32) (hPl : P ≤ 60) (hg : g ≤ 8) (hwk : wk ≤ 4) (hwd : wd ≤ 50) (hl0 : lw 0 = nI P) (hl1 : lw 1 = gr) (hl2 : lw 2 = nI wd) (hl3 : lw 3 = nI g) (hl4 : lw 4 = nI wk) (hP0 : 0 < g → 0 < P) (hhs : (g = 0 ∧ hs = 0) ∨ (0 < g ∧ hs = g + 1)) : CI l G (tys3 cI cC cZ) yX10_doctor cX10_doctor 8 (some .int) ({ frames := 6, cells := 0, slots := 0, locals := 142 }) [.ref q, .int v, .int what] [(q, .inr (10, [.ref qtx, .int (nI ln), .int fa, .ref qlw, .ref qgp, .ref qhm, .ref qpcs, .ref qdl, .ref qdg, .ref qdh, .ref qdp, .int dr, .int tl, .ref qnw, .ref qps, .int (nI dn), .ref qim, .ref qisd, .ref qkp, .int sd, .ref qfd, .int (nI fn), .ref qbk, .int (nI en), .int (nI at_), .int (nI wr), .int pl, .int yd, .int wy, .int pce_, .ref qal, .ref qco])), (qlw, .inl (cI, 5, .inl lw)), (qgp, .inl (cI, 8, .inl gp)), (qnw, .inl (cI, 14, .inl nw))] (S := Int32 × Int32 × Int32 × Int32) (fun (r : Int32) (u : Int32 × Int32 × Int32 × Int32) => r = spDoctor hs (fun k9 t9 => yG P (gp k9) gr t9) (nw 1) (nw 0) v what) (fun (u : Int32 × Int32 × Int32 × Int32) => [(q, .inr (10, [.ref qtx, .int (nI ln), .int fa, .ref qlw, .ref qgp, .ref qhm, .ref qpcs, .ref qdl, .ref qdg, .ref qdh, .ref qdp, .int dr, .int tl, .ref qnw, .ref qps, .int (nI dn), .ref qim, .ref qisd, .ref qkp, .int sd, .ref qfd, .int (nI fn), .ref qbk, .int (nI en), .int (nI at_), .int (nI wr), .int u.1, .int u.2.1, .int u.2.2.1, .int u.2.2.2, .ref qal, .ref qco])), (qlw, .inl (cI, 5, .inl lw)), (qgp, .inl (cI, 8, .inl gp)), (qnw, .inl (cI, 14, .inl nw))]) := by
  refine CI.intro (by decide) (Nat.le_of_ble_eq_true rfl) ?_
  intro p0 e0 s0 m0 ar0 be0 me0 c0 A0 X hr
  refine J_iload_n (pc := 0) X 1 dX10_doctor_0 rfl ?_
  refine J_iconst (pc := 1) X 1 dX10_doctor_1 (by decide) ?_
  refine J_bipush (pc := 2) X 40 dX10_doctor_2 (by decide) ?_
  refine J_callS (pc := 4) (As := [.int v, .int 1, .int 40]) (rest := []) X mtX10_in g990 [] (kX10_in l G cI cC cZ v 1 40 ) ⟨Nat.le_of_ble_eq_true rfl, Nat.le_of_ble_eq_true rfl⟩ rfl rfl rfl (by decide) rfl rfl (Nat.le_of_ble_eq_true rfl) (Nat.zero_le _) (Nat.zero_le _) dX10_doctor_4 (fun r_1 u_2 w_3 => ?_)
  try dsimp only at w_3
  subst w_3
  refine J_bif_eq (pc := 7) X 19 dX10_doctor_7 (by decide) (fun c_4 => ?_) (fun c_4 => ?_)
  · skip
    refine J_ldc (pc := 19) X g993 dX10_doctor_19 ?_
    refine J_iret (pc := 21) X hr (pl, yd, wy, pce_) dX10_doctor_21 ?_ rfl
    first | exact (if_neg (fun z => absurd z.1 (by assumption))).symm | exact (if_neg (fun z => absurd z.2 (by assumption))).symm
  · skip
    refine J_iload_n (pc := 10) X 2 dX10_doctor_10 rfl ?_
    refine J_iconst (pc := 11) X 0 dX10_doctor_11 (by decide) ?_
    refine J_iconst (pc := 12) X 1 dX10_doctor_12 (by decide) ?_
    refine J_callS (pc := 13) (As := [.int what, .int 0, .int 1]) (rest := []) X mtX10_in g990 [] (kX10_in l G cI cC cZ what 0 1 ) ⟨Nat.le_of_ble_eq_true rfl, Nat.le_of_ble_eq_true rfl⟩ rfl rfl rfl (by decide) rfl rfl (Nat.le_of_ble_eq_true rfl) (Nat.zero_le _) (Nat.zero_le _) dX10_doctor_13 (fun r_5 u_6 w_7 => ?_)
    try dsimp only at w_7
    subst w_7
    refine J_bif_ne (pc := 16) X 22 dX10_doctor_16 (by decide) (fun c_8 => ?_) (fun c_8 => ?_)
    · skip
      refine J_iconst (pc := 22) X (-1) dX10_doctor_22 (by decide) ?_
      refine J_istore_n (pc := 23) X [(3, .int (-1)), (0, .ref q), (1, .int v), (2, .int what)] dX10_doctor_23 (by decide) rfl ?_
      refine J_iconst (pc := 24) X (-1) dX10_doctor_24 (by decide) ?_
      refine J_istore (pc := 25) X [(4, .int (-1)), (3, .int (-1)), (0, .ref q), (1, .int v), (2, .int what)] dX10_doctor_25 (by decide) rfl ?_
      refine J_iconst (pc := 27) X 0 dX10_doctor_27 (by decide) ?_
      refine J_istore (pc := 28) X [(5, .int 0), (4, .int (-1)), (3, .int (-1)), (0, .ref q), (1, .int v), (2, .int what)] dX10_doctor_28 (by decide) rfl ?_
      have L_30 : ∀ (n_30 : Nat) (a_ : Nat) (be : Int32) (le_ : Int32) (plx : Int32) (ydx : Int32) (wyx : Int32) (pcx : Int32) (ha_ : a_ ≤ hs) (hdc : (be, le_) = dcTo (fun a9 => faTo (fun k9 t9 => yG P (gp k9) gr t9) (nw 1) v (nw 0) a9 hs) a_), (hs - a_) < n_30 → JJ p0 l e0 ({ frames := 6, cells := 0, slots := 0, locals := 142 }) s0 m0 ar0 be0 me0 c0 A0 G 8 0 0 (QI be0 ar0 s0 A0 G (tys3 cI cC cZ) (S := Int32 × Int32 × Int32 × Int32) (fun (r : Int32) (u : Int32 × Int32 × Int32 × Int32) => r = spDoctor hs (fun k9 t9 => yG P (gp k9) gr t9) (nw 1) (nw 0) v what) (fun (u : Int32 × Int32 × Int32 × Int32) => [(q, .inr (10, [.ref qtx, .int (nI ln), .int fa, .ref qlw, .ref qgp, .ref qhm, .ref qpcs, .ref qdl, .ref qdg, .ref qdh, .ref qdp, .int dr, .int tl, .ref qnw, .ref qps, .int (nI dn), .ref qim, .ref qisd, .ref qkp, .int sd, .ref qfd, .int (nI fn), .ref qbk, .int (nI en), .int (nI at_), .int (nI wr), .int u.1, .int u.2.1, .int u.2.2.1, .int u.2.2.2, .ref qal, .ref qco])), (qlw, .inl (cI, 5, .inl lw)), (qgp, .inl (cI, 8, .inl gp)), (qnw, .inl (cI, 14, .inl nw))])) [(q, .inr (10, [.ref qtx, .int (nI ln), .int fa, .ref qlw, .ref qgp, .ref qhm, .ref qpcs, .ref qdl, .ref qdg, .ref qdh, .ref qdp, .int dr, .int tl, .ref qnw, .ref qps, .int (nI dn), .ref qim, .ref qisd, .ref qkp, .int sd, .ref qfd, .int (nI fn), .ref qbk, .int (nI en), .int (nI at_), .int (nI wr), .int plx, .int ydx, .int wyx, .int pcx, .ref qal, .ref qco])), (qlw, .inl (cI, 5, .inl lw)), (qgp, .inl (cI, 8, .inl gp)), (qnw, .inl (cI, 14, .inl nw))] 30 [(0, .ref q), (1, .int v), (2, .int what), (3, .int be), (4, .int le_), (5, .int (nI a_))] [] := by
        intro n_30
        induction n_30 with
        | zero => intro a_ be le_ plx ydx wyx pcx ha_ hdc hm_30; exact absurd hm_30 (Nat.not_lt_zero _)
        | succ n_30 ih_30 =>
          intro a_ be le_ plx ydx wyx pcx ha_ hdc hm_30
          refine J_iload (pc := 30) X 5 dX10_doctor_30 rfl ?_
          refine J_aload_n (pc := 32) X 0 dX10_doctor_32 rfl ?_
          refine J_callR (pc := 33) (As := []) (rest := [.int (nI a_)]) X mtX10_houses g1054 [0, 1] 0 (kX10_houses l G cI cC cZ q qtx qlw qgp qhm qpcs qdl qdg qdh qdp qnw qps qim qisd qkp qfd qbk qal qco ln fa dr dn sd fn en at_ wr plx ydx wyx pcx tl lw P gr wd g wk hs (by first | assumption | omega) (by first | assumption | omega) (by first | assumption | omega) (by first | assumption | omega) (by first | assumption | omega) (by first | assumption | omega) (by first | assumption | omega) (by first | assumption | omega) (by first | assumption | omega) (by first | assumption | omega)) ⟨Nat.le_of_ble_eq_true rfl, Nat.le_of_ble_eq_true rfl⟩ rfl rfl rfl (by decide) rfl rfl rfl rfl rfl (Nat.le_of_ble_eq_true rfl) (Nat.zero_le _) (Nat.zero_le _) dX10_doctor_33 (fun r_9 u_10 w_11 => ?_)
          try dsimp only at w_11
          subst w_11
          refine J_icmp_ge (pc := 36) X 105 dX10_doctor_36 (by decide) (fun c_12 => ?_) (fun c_12 => ?_)
          · have c_12 : hs ≤ a_ := n_le_of (a := hs) (b := a_) (by omega) (by omega) c_12
            refine J_iload_n (pc := 105) X 2 dX10_doctor_105 rfl ?_
            refine J_if_ne (pc := 106) X 113 dX10_doctor_106 (by decide) (fun c_13 => ?_) (fun c_13 => ?_)
            · skip
              refine J_iload (pc := 113) X 4 dX10_doctor_113 rfl ?_
              refine J_iret (pc := 115) X hr (plx, ydx, wyx, pcx) dX10_doctor_115 ?_ rfl
              have e9 : (be, le_) = dcTo (fun a9 => faTo (fun k9 t9 => yG P (gp k9) gr t9) (nw 1) v (nw 0) a9 hs) hs := by rw [hdc, show a_ = hs from by omega]
              rw [spDoctor, if_pos ⟨by assumption, by assumption⟩, ← e9]
              first | exact (if_pos (by assumption)).symm | exact (if_neg (by assumption)).symm
            · skip
              refine J_iload_n (pc := 109) X 3 dX10_doctor_109 rfl ?_
              refine J_goto (pc := 110) X 115 dX10_doctor_110 (by decide) ?_
              refine J_iret (pc := 115) X hr (plx, ydx, wyx, pcx) dX10_doctor_115 ?_ rfl
              have e9 : (be, le_) = dcTo (fun a9 => faTo (fun k9 t9 => yG P (gp k9) gr t9) (nw 1) v (nw 0) a9 hs) hs := by rw [hdc, show a_ = hs from by omega]
              rw [spDoctor, if_pos ⟨by assumption, by assumption⟩, ← e9]
              first | exact (if_pos (by assumption)).symm | exact (if_neg (by assumption)).symm
          · have c_12 : a_ < hs := n_nle_of (a := hs) (b := a_) (by omega) (by omega) c_12
            refine J_aload_n (pc := 39) X 0 dX10_doctor_39 rfl ?_
            refine J_iload (pc := 40) X 5 dX10_doctor_40 rfl ?_
            refine J_iload_n (pc := 42) X 1 dX10_doctor_42 rfl ?_
            refine J_callI (pc := 43) (As := [.int (nI a_), .int v]) (rest := []) X mtX10_farthest g1210 [0, 1, 2, 3] [] [0, 1, 2, 3] 0 (fun u => [(q, .inr (10, [.ref qtx, .int (nI ln), .int fa, .ref qlw, .ref qgp, .ref qhm, .ref qpcs, .ref qdl, .ref qdg, .ref qdh, .ref qdp, .int dr, .int tl, .ref qnw, .ref qps, .int (nI dn), .ref qim, .ref qisd, .ref qkp, .int sd, .ref qfd, .int (nI fn), .ref qbk, .int (nI en), .int (nI at_), .int (nI wr), .int u.1, .int u.2.1, .int u.2.2.1, .int u.2.2.2, .ref qal, .ref qco])), (qlw, .inl (cI, 5, .inl lw)), (qgp, .inl (cI, 8, .inl gp)), (qnw, .inl (cI, 14, .inl nw))]) (kX10_farthest l G cI cC cZ q qtx qlw qgp qhm qpcs qdl qdg qdh qdp qnw qps qim qisd qkp qfd qbk qal qco ln fa dr dn sd fn en at_ wr plx ydx wyx pcx tl lw gp nw P gr wd g wk hs a_ v (by first | assumption | omega) (by first | assumption | omega) (by first | assumption | omega) (by first | assumption | omega) (by first | assumption | omega) (by first | assumption | omega) (by first | assumption | omega) (by first | assumption | omega) (by first | assumption | omega) (by first | assumption | omega) (by first | assumption | omega) (by first | assumption | omega)) ⟨Nat.le_of_ble_eq_true rfl, Nat.le_of_ble_eq_true rfl⟩ rfl rfl rfl (by decide) (wr := []) rfl (by decide) (by decide) (fun _ => rfl) (by decide) rfl rfl rfl rfl rfl (Nat.le_of_ble_eq_true rfl) (Nat.zero_le _) (Nat.zero_le _) dX10_doctor_43 (fun r_14 u_15 w_16 => ?_)
            obtain ⟨plx_u_15, ydx_u_15, wyx_u_15, pcx_u_15⟩ := u_15
            try dsimp only at w_16
            try dsimp only at w_16
            subst w_16
            refine J_istore (pc := 46) X [(6, .int (faTo (fun k9 t9 => yG P (gp k9) gr t9) (nw 1) v (nw 0) a_ hs)), (0, .ref q), (1, .int v), (2, .int what), (3, .int be), (4, .int le_), (5, .int (nI a_))] dX10_doctor_46 (by decide) rfl ?_
            refine J_iload (pc := 48) X 0 dX10_doctor_48 rfl ?_
            refine J_iconst (pc := 50) X (-1) dX10_doctor_50 (by decide) ?_
            refine J_icmp_eq (pc := 51) X 70 dX10_doctor_51 (by decide) (fun c_17 => ?_) (fun c_17 => ?_)
            · skip
              refine J_iconst (pc := 70) X 0 dX10_doctor_70 (by decide) ?_
              refine J_istore (pc := 71) X [(7, .int 0), (6, .int (faTo (fun k9 t9 => yG P (gp k9) gr t9) (nw 1) v (nw 0) a_ hs)), (0, .ref q), (1, .int v), (2, .int what), (3, .int be), (4, .int le_), (5, .int (nI a_))] dX10_doctor_71 (by decide) rfl ?_
              refine J_iload (pc := 73) X 0 dX10_doctor_73 rfl ?_
              refine J_if_eq (pc := 75) X 83 dX10_doctor_75 (by decide) (fun c_18 => ?_) (fun c_18 => ?_)
              · have c_18 : 0 = 0 := n_eq_of (a := 0) (b := 0) (by omega) (by omega) c_18
                refine J_iload_n (pc := 83) X 5 dX10_doctor_83 rfl ?_
                refine J_istore_n (pc := 84) X [(3, .int be), (7, .int 0), (6, .int (faTo (fun k9 t9 => yG P (gp k9) gr t9) (nw 1) v (nw 0) a_ hs)), (0, .ref q), (1, .int v), (2, .int what), (4, .int le_), (5, .int (nI a_))] dX10_doctor_84 (by decide) rfl ?_
                refine J_iload (pc := 85) X 1 dX10_doctor_85 rfl ?_
                refine J_if_eq (pc := 87) X 95 dX10_doctor_87 (by decide) (fun c_19 => ?_) (fun c_19 => ?_)
                · have c_19 : 0 = 0 := n_eq_of (a := 0) (b := 0) (by omega) (by omega) c_19
                  refine J_iload (pc := 95) X 6 dX10_doctor_95 rfl ?_
                  refine J_istore (pc := 97) X [(4, .int le_), (3, .int be), (7, .int 0), (6, .int (faTo (fun k9 t9 => yG P (gp k9) gr t9) (nw 1) v (nw 0) a_ hs)), (0, .ref q), (1, .int v), (2, .int what), (5, .int (nI a_))] dX10_doctor_97 (by decide) rfl ?_
                  refine J_iinc (pc := 99) X (nI (a_ + 1)) 7 [(5, .int (nI (a_ + 1))), (4, .int le_), (3, .int be), (7, .int 0), (6, .int (faTo (fun k9 t9 => yG P (gp k9) gr t9) (nw 1) v (nw 0) a_ hs)), (0, .ref q), (1, .int v), (2, .int what)] dX10_doctor_99 rfl (n_add (x := a_) (y := 1) rfl rfl (by omega)) (by decide) rfl ?_
                  refine J_goto (pc := 102) X 30 dX10_doctor_102 (by decide) ?_
                  refine J_loc [5, 6, 7, 2, 1, 0] (lv2 := [(0, .ref q), (1, .int v), (2, .int what), (3, .int be), (4, .int le_), (5, .int (nI (a_ + 1)))]) rfl ?_
                  exact ih_30  (a_ + 1) be le_ plx_u_15 ydx_u_15 wyx_u_15 pcx_u_15 (by first | assumption | omega | simp_all) (by first | exact dc_in (f := (fun a9 => faTo (fun k9 t9 => yG P (gp k9) gr t9) (nw 1) v (nw 0) a9 hs)) hdc (by assumption) (Or.inl (by assumption)) | exact dc_in (f := (fun a9 => faTo (fun k9 t9 => yG P (gp k9) gr t9) (nw 1) v (nw 0) a9 hs)) hdc (by assumption) (Or.inr (by assumption)) | exact dc_out (f := (fun a9 => faTo (fun k9 t9 => yG P (gp k9) gr t9) (nw 1) v (nw 0) a9 hs)) hdc (fun z9 => z9.1 (by assumption)) | exact dc_out (f := (fun a9 => faTo (fun k9 t9 => yG P (gp k9) gr t9) (nw 1) v (nw 0) a9 hs)) hdc (fun z9 => z9.2.elim (by assumption) (by assumption))) (by omega)
                · have c_19 : ¬ 0 = 0 := n_ne_of (a := 0) (b := 0) (by omega) (by omega) c_19
                  exfalso; omega
              · have c_18 : ¬ 0 = 0 := n_ne_of (a := 0) (b := 0) (by omega) (by omega) c_18
                exfalso; omega
            · skip
              refine J_iload_n (pc := 54) X 4 dX10_doctor_54 rfl ?_
              refine J_iconst (pc := 55) X (-1) dX10_doctor_55 (by decide) ?_
              refine J_icmp_eq (pc := 56) X 66 dX10_doctor_56 (by decide) (fun c_20 => ?_) (fun c_20 => ?_)
              · skip
                refine J_iconst (pc := 66) X 1 dX10_doctor_66 (by decide) ?_
                refine J_goto (pc := 67) X 71 dX10_doctor_67 (by decide) ?_
                refine J_istore (pc := 71) X [(7, .int 1), (6, .int (faTo (fun k9 t9 => yG P (gp k9) gr t9) (nw 1) v (nw 0) a_ hs)), (0, .ref q), (1, .int v), (2, .int what), (3, .int be), (4, .int le_), (5, .int (nI a_))] dX10_doctor_71 (by decide) rfl ?_
                refine J_iload (pc := 73) X 0 dX10_doctor_73 rfl ?_
                refine J_if_eq (pc := 75) X 83 dX10_doctor_75 (by decide) (fun c_21 => ?_) (fun c_21 => ?_)
                · have c_21 : 1 = 0 := n_eq_of (a := 1) (b := 0) (by omega) (by omega) c_21
                  exfalso; omega
                · have c_21 : ¬ 1 = 0 := n_ne_of (a := 1) (b := 0) (by omega) (by omega) c_21
                  refine J_iload (pc := 78) X 7 dX10_doctor_78 rfl ?_
                  refine J_goto (pc := 80) X 84 dX10_doctor_80 (by decide) ?_
                  refine J_istore_n (pc := 84) X [(3, .int (nI a_)), (7, .int 1), (6, .int (faTo (fun k9 t9 => yG P (gp k9) gr t9) (nw 1) v (nw 0) a_ hs)), (0, .ref q), (1, .int v), (2, .int what), (4, .int le_), (5, .int (nI a_))] dX10_doctor_84 (by decide) rfl ?_
                  refine J_iload (pc := 85) X 1 dX10_doctor_85 rfl ?_
                  refine J_if_eq (pc := 87) X 95 dX10_doctor_87 (by decide) (fun c_22 => ?_) (fun c_22 => ?_)
                  · have c_22 : 1 = 0 := n_eq_of (a := 1) (b := 0) (by omega) (by omega) c_22
                    exfalso; omega
                  · have c_22 : ¬ 1 = 0 := n_ne_of (a := 1) (b := 0) (by omega) (by omega) c_22
                    refine J_iload (pc := 90) X 2 dX10_doctor_90 rfl ?_
                    refine J_goto (pc := 92) X 97 dX10_doctor_92 (by decide) ?_
                    refine J_istore (pc := 97) X [(4, .int (faTo (fun k9 t9 => yG P (gp k9) gr t9) (nw 1) v (nw 0) a_ hs)), (3, .int (nI a_)), (7, .int 1), (6, .int (faTo (fun k9 t9 => yG P (gp k9) gr t9) (nw 1) v (nw 0) a_ hs)), (0, .ref q), (1, .int v), (2, .int what), (5, .int (nI a_))] dX10_doctor_97 (by decide) rfl ?_
                    refine J_iinc (pc := 99) X (nI (a_ + 1)) 7 [(5, .int (nI (a_ + 1))), (4, .int (faTo (fun k9 t9 => yG P (gp k9) gr t9) (nw 1) v (nw 0) a_ hs)), (3, .int (nI a_)), (7, .int 1), (6, .int (faTo (fun k9 t9 => yG P (gp k9) gr t9) (nw 1) v (nw 0) a_ hs)), (0, .ref q), (1, .int v), (2, .int what)] dX10_doctor_99 rfl (n_add (x := a_) (y := 1) rfl rfl (by omega)) (by decide) rfl ?_
                    refine J_goto (pc := 102) X 30 dX10_doctor_102 (by decide) ?_
                    refine J_loc [5, 6, 7, 2, 1, 0] (lv2 := [(0, .ref q), (1, .int v), (2, .int what), (3, .int (nI a_)), (4, .int (faTo (fun k9 t9 => yG P (gp k9) gr t9) (nw 1) v (nw 0) a_ hs)), (5, .int (nI (a_ + 1)))]) rfl ?_
                    exact ih_30  (a_ + 1) (nI a_) (faTo (fun k9 t9 => yG P (gp k9) gr t9) (nw 1) v (nw 0) a_ hs) plx_u_15 ydx_u_15 wyx_u_15 pcx_u_15 (by first | assumption | omega | simp_all) (by first | exact dc_in (f := (fun a9 => faTo (fun k9 t9 => yG P (gp k9) gr t9) (nw 1) v (nw 0) a9 hs)) hdc (by assumption) (Or.inl (by assumption)) | exact dc_in (f := (fun a9 => faTo (fun k9 t9 => yG P (gp k9) gr t9) (nw 1) v (nw 0) a9 hs)) hdc (by assumption) (Or.inr (by assumption)) | exact dc_out (f := (fun a9 => faTo (fun k9 t9 => yG P (gp k9) gr t9) (nw 1) v (nw 0) a9 hs)) hdc (fun z9 => z9.1 (by assumption)) | exact dc_out (f := (fun a9 => faTo (fun k9 t9 => yG P (gp k9) gr t9) (nw 1) v (nw 0) a9 hs)) hdc (fun z9 => z9.2.elim (by assumption) (by assumption))) (by omega)
              · skip
                refine J_iload (pc := 59) X 0 dX10_doctor_59 rfl ?_
                refine J_iload (pc := 61) X 5 dX10_doctor_61 rfl ?_
                refine J_icmp_ge (pc := 63) X 70 dX10_doctor_63 (by decide) (fun c_23 => ?_) (fun c_23 => ?_)
                · have c_23 := Int32.not_lt.mpr c_23
                  refine J_iconst (pc := 70) X 0 dX10_doctor_70 (by decide) ?_
                  refine J_istore (pc := 71) X [(7, .int 0), (6, .int (faTo (fun k9 t9 => yG P (gp k9) gr t9) (nw 1) v (nw 0) a_ hs)), (0, .ref q), (1, .int v), (2, .int what), (3, .int be), (4, .int le_), (5, .int (nI a_))] dX10_doctor_71 (by decide) rfl ?_
                  refine J_iload (pc := 73) X 0 dX10_doctor_73 rfl ?_
                  refine J_if_eq (pc := 75) X 83 dX10_doctor_75 (by decide) (fun c_24 => ?_) (fun c_24 => ?_)
                  · have c_24 : 0 = 0 := n_eq_of (a := 0) (b := 0) (by omega) (by omega) c_24
                    refine J_iload_n (pc := 83) X 5 dX10_doctor_83 rfl ?_
                    refine J_istore_n (pc := 84) X [(3, .int be), (7, .int 0), (6, .int (faTo (fun k9 t9 => yG P (gp k9) gr t9) (nw 1) v (nw 0) a_ hs)), (0, .ref q), (1, .int v), (2, .int what), (4, .int le_), (5, .int (nI a_))] dX10_doctor_84 (by decide) rfl ?_
                    refine J_iload (pc := 85) X 1 dX10_doctor_85 rfl ?_
                    refine J_if_eq (pc := 87) X 95 dX10_doctor_87 (by decide) (fun c_25 => ?_) (fun c_25 => ?_)
                    · have c_25 : 0 = 0 := n_eq_of (a := 0) (b := 0) (by omega) (by omega) c_25
                      refine J_iload (pc := 95) X 6 dX10_doctor_95 rfl ?_
                      refine J_istore (pc := 97) X [(4, .int le_), (3, .int be), (7, .int 0), (6, .int (faTo (fun k9 t9 => yG P (gp k9) gr t9) (nw 1) v (nw 0) a_ hs)), (0, .ref q), (1, .int v), (2, .int what), (5, .int (nI a_))] dX10_doctor_97 (by decide) rfl ?_
                      refine J_iinc (pc := 99) X (nI (a_ + 1)) 7 [(5, .int (nI (a_ + 1))), (4, .int le_), (3, .int be), (7, .int 0), (6, .int (faTo (fun k9 t9 => yG P (gp k9) gr t9) (nw 1) v (nw 0) a_ hs)), (0, .ref q), (1, .int v), (2, .int what)] dX10_doctor_99 rfl (n_add (x := a_) (y := 1) rfl rfl (by omega)) (by decide) rfl ?_
                      refine J_goto (pc := 102) X 30 dX10_doctor_102 (by decide) ?_
                      refine J_loc [5, 6, 7, 2, 1, 0] (lv2 := [(0, .ref q), (1, .int v), (2, .int what), (3, .int be), (4, .int le_), (5, .int (nI (a_ + 1)))]) rfl ?_
                      exact ih_30  (a_ + 1) be le_ plx_u_15 ydx_u_15 wyx_u_15 pcx_u_15 (by first | assumption | omega | simp_all) (by first | exact dc_in (f := (fun a9 => faTo (fun k9 t9 => yG P (gp k9) gr t9) (nw 1) v (nw 0) a9 hs)) hdc (by assumption) (Or.inl (by assumption)) | exact dc_in (f := (fun a9 => faTo (fun k9 t9 => yG P (gp k9) gr t9) (nw 1) v (nw 0) a9 hs)) hdc (by assumption) (Or.inr (by assumption)) | exact dc_out (f := (fun a9 => faTo (fun k9 t9 => yG P (gp k9) gr t9) (nw 1) v (nw 0) a9 hs)) hdc (fun z9 => z9.1 (by assumption)) | exact dc_out (f := (fun a9 => faTo (fun k9 t9 => yG P (gp k9) gr t9) (nw 1) v (nw 0) a9 hs)) hdc (fun z9 => z9.2.elim (by assumption) (by assumption))) (by omega)
                    · have c_25 : ¬ 0 = 0 := n_ne_of (a := 0) (b := 0) (by omega) (by omega) c_25
                      exfalso; omega
                  · have c_24 : ¬ 0 = 0 := n_ne_of (a := 0) (b := 0) (by omega) (by omega) c_24
                    exfalso; omega
                · have c_23 := Int32.not_le.mp c_23
                  refine J_iconst (pc := 66) X 1 dX10_doctor_66 (by decide) ?_
                  refine J_goto (pc := 67) X 71 dX10_doctor_67 (by decide) ?_
                  refine J_istore (pc := 71) X [(7, .int 1), (6, .int (faTo (fun k9 t9 => yG P (gp k9) gr t9) (nw 1) v (nw 0) a_ hs)), (0, .ref q), (1, .int v), (2, .int what), (3, .int be), (4, .int le_), (5, .int (nI a_))] dX10_doctor_71 (by decide) rfl ?_
                  refine J_iload (pc := 73) X 0 dX10_doctor_73 rfl ?_
                  refine J_if_eq (pc := 75) X 83 dX10_doctor_75 (by decide) (fun c_26 => ?_) (fun c_26 => ?_)
                  · have c_26 : 1 = 0 := n_eq_of (a := 1) (b := 0) (by omega) (by omega) c_26
                    exfalso; omega
                  · have c_26 : ¬ 1 = 0 := n_ne_of (a := 1) (b := 0) (by omega) (by omega) c_26
                    refine J_iload (pc := 78) X 7 dX10_doctor_78 rfl ?_
                    refine J_goto (pc := 80) X 84 dX10_doctor_80 (by decide) ?_
                    refine J_istore_n (pc := 84) X [(3, .int (nI a_)), (7, .int 1), (6, .int (faTo (fun k9 t9 => yG P (gp k9) gr t9) (nw 1) v (nw 0) a_ hs)), (0, .ref q), (1, .int v), (2, .int what), (4, .int le_), (5, .int (nI a_))] dX10_doctor_84 (by decide) rfl ?_
                    refine J_iload (pc := 85) X 1 dX10_doctor_85 rfl ?_
                    refine J_if_eq (pc := 87) X 95 dX10_doctor_87 (by decide) (fun c_27 => ?_) (fun c_27 => ?_)
                    · have c_27 : 1 = 0 := n_eq_of (a := 1) (b := 0) (by omega) (by omega) c_27
                      exfalso; omega
                    · have c_27 : ¬ 1 = 0 := n_ne_of (a := 1) (b := 0) (by omega) (by omega) c_27
                      refine J_iload (pc := 90) X 2 dX10_doctor_90 rfl ?_
                      refine J_goto (pc := 92) X 97 dX10_doctor_92 (by decide) ?_
                      refine J_istore (pc := 97) X [(4, .int (faTo (fun k9 t9 => yG P (gp k9) gr t9) (nw 1) v (nw 0) a_ hs)), (3, .int (nI a_)), (7, .int 1), (6, .int (faTo (fun k9 t9 => yG P (gp k9) gr t9) (nw 1) v (nw 0) a_ hs)), (0, .ref q), (1, .int v), (2, .int what), (5, .int (nI a_))] dX10_doctor_97 (by decide) rfl ?_
                      refine J_iinc (pc := 99) X (nI (a_ + 1)) 7 [(5, .int (nI (a_ + 1))), (4, .int (faTo (fun k9 t9 => yG P (gp k9) gr t9) (nw 1) v (nw 0) a_ hs)), (3, .int (nI a_)), (7, .int 1), (6, .int (faTo (fun k9 t9 => yG P (gp k9) gr t9) (nw 1) v (nw 0) a_ hs)), (0, .ref q), (1, .int v), (2, .int what)] dX10_doctor_99 rfl (n_add (x := a_) (y := 1) rfl rfl (by omega)) (by decide) rfl ?_
                      refine J_goto (pc := 102) X 30 dX10_doctor_102 (by decide) ?_
                      refine J_loc [5, 6, 7, 2, 1, 0] (lv2 := [(0, .ref q), (1, .int v), (2, .int what), (3, .int (nI a_)), (4, .int (faTo (fun k9 t9 => yG P (gp k9) gr t9) (nw 1) v (nw 0) a_ hs)), (5, .int (nI (a_ + 1)))]) rfl ?_
                      exact ih_30  (a_ + 1) (nI a_) (faTo (fun k9 t9 => yG P (gp k9) gr t9) (nw 1) v (nw 0) a_ hs) plx_u_15 ydx_u_15 wyx_u_15 pcx_u_15 (by first | assumption | omega | simp_all) (by first | exact dc_in (f := (fun a9 => faTo (fun k9 t9 => yG P (gp k9) gr t9) (nw 1) v (nw 0) a9 hs)) hdc (by assumption) (Or.inl (by assumption)) | exact dc_in (f := (fun a9 => faTo (fun k9 t9 => yG P (gp k9) gr t9) (nw 1) v (nw 0) a9 hs)) hdc (by assumption) (Or.inr (by assumption)) | exact dc_out (f := (fun a9 => faTo (fun k9 t9 => yG P (gp k9) gr t9) (nw 1) v (nw 0) a9 hs)) hdc (fun z9 => z9.1 (by assumption)) | exact dc_out (f := (fun a9 => faTo (fun k9 t9 => yG P (gp k9) gr t9) (nw 1) v (nw 0) a9 hs)) hdc (fun z9 => z9.2.elim (by assumption) (by assumption))) (by omega)
      refine J_loc [3, 4, 5, 2, 1, 0] (lv2 := [(0, .ref q), (1, .int v), (2, .int what), (3, .int (-1)), (4, .int (-1)), (5, .int 0)]) rfl ?_
      exact L_30 _  0 (-1) (-1) pl yd wy pce_ (by first | assumption | omega | simp_all) rfl (Nat.lt_succ_self _)
    · skip
      refine J_ldc (pc := 19) X g993 dX10_doctor_19 ?_
      refine J_iret (pc := 21) X hr (pl, yd, wy, pce_) dX10_doctor_21 ?_ rfl
      first | exact (if_neg (fun z => absurd z.1 (by assumption))).symm | exact (if_neg (fun z => absurd z.2 (by assumption))).symm
set_option maxRecDepth 100000 in
set_option maxHeartbeats 600000 in
theorem kX10_beat (l : Launch) (G : va_G) (cI cC cZ : ClassId) (q : Nat) (qtx : Nat) (qlw : Nat) (qgp : Nat) (qhm : Nat) (qpcs : Nat) (qdl : Nat) (qdg : Nat) (qdh : Nat) (qdp : Nat) (qnw : Nat) (qps : Nat) (qim : Nat) (qisd : Nat) (qkp : Nat) (qfd : Nat) (qbk : Nat) (qal : Nat) (qco : Nat) (ln : Nat) (fa : Int32) (dr : Int32) (dn : Nat) (sd : Int32) (fn : Nat) (en : Nat) (at_ : Nat) (wr : Nat) (pl : Int32) (yd : Int32) (wy : Int32) (pce_ : Int32) (tl : Int32) (lw : Nat → Int32) (gp : Nat → Int32) (nw : Nat → Int32) (P : Nat) (gr : Int32) (wd : Nat) (g : Nat) (wk : Nat) (hs : Nat) (v : Int32) (hPl : P ≤ 60) (hg : g ≤ 8) (hwk : wk ≤ 4) (hwd : wd ≤ 50) (hl0 : lw 0 = nI P) (hl1 : lw 1 = gr) (hl2 : lw 2 = nI wd) (hl3 : lw 3 = nI g) (hl4 : lw 4 = nI wk) (hP0 : 0 < g → 0 < P) (hhs : (g = 0 ∧ hs = 0) ∨ (0 < g ∧ hs = g + 1)) : CI l G (tys3 cI cC cZ) yX10_beat cX10_beat 3 (some .int) ({ frames := 4, cells := 0, slots := 0, locals := 90 }) [.ref q, .int v] [(q, .inr (10, [.ref qtx, .int (nI ln), .int fa, .ref qlw, .ref qgp, .ref qhm, .ref qpcs, .ref qdl, .ref qdg, .ref qdh, .ref qdp, .int dr, .int tl, .ref qnw, .ref qps, .int (nI dn), .ref qim, .ref qisd, .ref qkp, .int sd, .ref qfd, .int (nI fn), .ref qbk, .int (nI en), .int (nI at_), .int (nI wr), .int pl, .int yd, .int wy, .int pce_, .ref qal, .ref qco])), (qlw, .inl (cI, 5, .inl lw)), (qgp, .inl (cI, 8, .inl gp)), (qnw, .inl (cI, 14, .inl nw))] (S := Int32 × Int32 × Int32 × Int32) (fun (r : Int32) (u : Int32 × Int32 × Int32 × Int32) => r = spBeat g (fun k9 t9 => yG P (gp k9) gr t9) (nw 1) (nw 0) v) (fun (u : Int32 × Int32 × Int32 × Int32) => [(q, .inr (10, [.ref qtx, .int (nI ln), .int fa, .ref qlw, .ref qgp, .ref qhm, .ref qpcs, .ref qdl, .ref qdg, .ref qdh, .ref qdp, .int dr, .int tl, .ref qnw, .ref qps, .int (nI dn), .ref qim, .ref qisd, .ref qkp, .int sd, .ref qfd, .int (nI fn), .ref qbk, .int (nI en), .int (nI at_), .int (nI wr), .int u.1, .int u.2.1, .int u.2.2.1, .int u.2.2.2, .ref qal, .ref qco])), (qlw, .inl (cI, 5, .inl lw)), (qgp, .inl (cI, 8, .inl gp)), (qnw, .inl (cI, 14, .inl nw))]) := by
  refine CI.intro (by decide) (Nat.le_of_ble_eq_true rfl) ?_
  intro p0 e0 s0 m0 ar0 be0 me0 c0 A0 X hr
  refine J_iload_n (pc := 0) X 1 dX10_beat_0 rfl ?_
  refine J_iconst (pc := 1) X 1 dX10_beat_1 (by decide) ?_
  refine J_bipush (pc := 2) X 40 dX10_beat_2 (by decide) ?_
  refine J_callS (pc := 4) (As := [.int v, .int 1, .int 40]) (rest := []) X mtX10_in g990 [] (kX10_in l G cI cC cZ v 1 40 ) ⟨Nat.le_of_ble_eq_true rfl, Nat.le_of_ble_eq_true rfl⟩ rfl rfl rfl (by decide) rfl rfl (Nat.le_of_ble_eq_true rfl) (Nat.zero_le _) (Nat.zero_le _) dX10_beat_4 (fun r_1 u_2 w_3 => ?_)
  try dsimp only at w_3
  subst w_3
  refine J_bif_ne (pc := 7) X 13 dX10_beat_7 (by decide) (fun c_4 => ?_) (fun c_4 => ?_)
  · skip
    have hv9 := c_4
    refine J_aload_n (pc := 13) X 0 dX10_beat_13 rfl ?_
    refine J_callR (pc := 14) (As := []) (rest := []) X mtX10_houses g1054 [0, 1] 0 (kX10_houses l G cI cC cZ q qtx qlw qgp qhm qpcs qdl qdg qdh qdp qnw qps qim qisd qkp qfd qbk qal qco ln fa dr dn sd fn en at_ wr pl yd wy pce_ tl lw P gr wd g wk hs (by first | assumption | omega) (by first | assumption | omega) (by first | assumption | omega) (by first | assumption | omega) (by first | assumption | omega) (by first | assumption | omega) (by first | assumption | omega) (by first | assumption | omega) (by first | assumption | omega) (by first | assumption | omega)) ⟨Nat.le_of_ble_eq_true rfl, Nat.le_of_ble_eq_true rfl⟩ rfl rfl rfl (by decide) rfl rfl rfl rfl rfl (Nat.le_of_ble_eq_true rfl) (Nat.zero_le _) (Nat.zero_le _) dX10_beat_14 (fun r_5 u_6 w_7 => ?_)
    try dsimp only at w_7
    subst w_7
    refine J_if_ne (pc := 17) X 23 dX10_beat_17 (by decide) (fun c_8 => ?_) (fun c_8 => ?_)
    · have c_8 : ¬ hs = 0 := n_ne_of (a := hs) (b := 0) (by omega) (by omega) c_8
      refine J_aload_n (pc := 23) X 0 dX10_beat_23 rfl ?_
      refine J_iconst (pc := 24) X 0 dX10_beat_24 (by decide) ?_
      refine J_iconst (pc := 25) X 2 dX10_beat_25 (by decide) ?_
      refine J_iload_n (pc := 26) X 1 dX10_beat_26 rfl ?_
      refine J_callV (pc := 27) (As := [.int 0, .int 2, .int v]) (rest := []) X mtX10_setsOut g1183 [0] [1, 2, 3] [3, 0, 1, 2] 0 (fun u => [(q, .inr (10, [.ref qtx, .int (nI ln), .int fa, .ref qlw, .ref qgp, .ref qhm, .ref qpcs, .ref qdl, .ref qdg, .ref qdh, .ref qdp, .int dr, .int tl, .ref qnw, .ref qps, .int (nI dn), .ref qim, .ref qisd, .ref qkp, .int sd, .ref qfd, .int (nI fn), .ref qbk, .int (nI en), .int (nI at_), .int (nI wr), .int 0, .int 0, .int 2, .int v, .ref qal, .ref qco])), (qlw, .inl (cI, 5, .inl lw)), (qgp, .inl (cI, 8, .inl gp)), (qnw, .inl (cI, 14, .inl nw))]) (kX10_setsOut l G cI cC cZ q qtx qlw qgp qhm qpcs qdl qdg qdh qdp qnw qps qim qisd qkp qfd qbk qal qco ln fa dr dn sd fn en at_ wr pl yd wy pce_ tl 0 2 v ) ⟨Nat.le_of_ble_eq_true rfl, Nat.le_of_ble_eq_true rfl⟩ rfl rfl rfl (by decide) (wr := [(qlw, .inl (cI, 5, .inl lw)), (qgp, .inl (cI, 8, .inl gp)), (qnw, .inl (cI, 14, .inl nw))]) rfl (by decide) (by decide) (fun _ => rfl) (by decide) rfl rfl rfl rfl rfl (Nat.le_of_ble_eq_true rfl) (Nat.zero_le _) (Nat.zero_le _) dX10_beat_27 (fun u_10 w_11 => ?_)
      try dsimp only at w_11
      refine J_iconst (pc := 30) X 1 dX10_beat_30 (by decide) ?_
      refine J_istore_n (pc := 31) X [(2, .int 1), (0, .ref q), (1, .int v)] dX10_beat_31 (by decide) rfl ?_
      have L_32 : ∀ (n_32 : Nat) (m : Nat) (pos : Nat) (y : Int32) (wx : Int32) (hm : m ≤ 600) (hpk : posOk g pos) (hy0 : pos < 100 → y = 0) (hbi : btI (fun k9 t9 => yG P (gp k9) gr t9) (nw 1) v (nw 0) g pos y wx m), (600 - m) < n_32 → JJ p0 l e0 ({ frames := 4, cells := 0, slots := 0, locals := 90 }) s0 m0 ar0 be0 me0 c0 A0 G 3 0 0 (QI be0 ar0 s0 A0 G (tys3 cI cC cZ) (S := Int32 × Int32 × Int32 × Int32) (fun (r : Int32) (u : Int32 × Int32 × Int32 × Int32) => r = spBeat g (fun k9 t9 => yG P (gp k9) gr t9) (nw 1) (nw 0) v) (fun (u : Int32 × Int32 × Int32 × Int32) => [(q, .inr (10, [.ref qtx, .int (nI ln), .int fa, .ref qlw, .ref qgp, .ref qhm, .ref qpcs, .ref qdl, .ref qdg, .ref qdh, .ref qdp, .int dr, .int tl, .ref qnw, .ref qps, .int (nI dn), .ref qim, .ref qisd, .ref qkp, .int sd, .ref qfd, .int (nI fn), .ref qbk, .int (nI en), .int (nI at_), .int (nI wr), .int u.1, .int u.2.1, .int u.2.2.1, .int u.2.2.2, .ref qal, .ref qco])), (qlw, .inl (cI, 5, .inl lw)), (qgp, .inl (cI, 8, .inl gp)), (qnw, .inl (cI, 14, .inl nw))])) [(q, .inr (10, [.ref qtx, .int (nI ln), .int fa, .ref qlw, .ref qgp, .ref qhm, .ref qpcs, .ref qdl, .ref qdg, .ref qdh, .ref qdp, .int dr, .int tl, .ref qnw, .ref qps, .int (nI dn), .ref qim, .ref qisd, .ref qkp, .int sd, .ref qfd, .int (nI fn), .ref qbk, .int (nI en), .int (nI at_), .int (nI wr), .int (nI pos), .int y, .int wx, .int v, .ref qal, .ref qco])), (qlw, .inl (cI, 5, .inl lw)), (qgp, .inl (cI, 8, .inl gp)), (qnw, .inl (cI, 14, .inl nw))] 32 [(0, .ref q), (1, .int v), (2, .int (nI (m + 1)))] [] := by
        intro n_32
        induction n_32 with
        | zero => intro m pos y wx hm hpk hy0 hbi hm_32; exact absurd hm_32 (Nat.not_lt_zero _)
        | succ n_32 ih_32 =>
          intro m pos y wx hm hpk hy0 hbi hm_32
          refine J_iload_n (pc := 32) X 2 dX10_beat_32 rfl ?_
          refine J_sipush (pc := 33) X 601 dX10_beat_33 (by decide) ?_
          refine J_icmp_ge (pc := 36) X 106 dX10_beat_36 (by decide) (fun c_12 => ?_) (fun c_12 => ?_)
          · have c_12 : 601 ≤ m + 1 := n_le_of (a := 601) (b := m + 1) (by omega) (by omega) c_12
            refine J_iconst (pc := 106) X (-1) dX10_beat_106 (by decide) ?_
            refine J_iret (pc := 107) X hr ((nI pos), y, wx, v) dX10_beat_107 ?_ rfl
            rw [spBeat, if_pos hv9, if_neg (by omega)]
            exact bt_out hbi (by omega)
          · have c_12 : m + 1 < 601 := n_nle_of (a := 601) (b := m + 1) (by omega) (by omega) c_12
            refine J_aload_n (pc := 39) X 0 dX10_beat_39 rfl ?_
            refine J_aload_n (pc := 40) X 0 dX10_beat_40 rfl ?_
            refine J_get (pc := 41) X clX10 0 13 rfl (by decide) g902 rfl dX10_beat_41 ?_
            refine J_iconst (pc := 44) X 0 dX10_beat_44 (by decide) ?_
            refine J_iald (pc := 45) X 3 0 0 rfl rfl rfl (by decide) (by decide) dX10_beat_45 ?_
            refine J_iload_n (pc := 46) X 2 dX10_beat_46 rfl ?_
            refine J_iadd (pc := 47) X dX10_beat_47 ?_
            refine J_iconst (pc := 48) X 1 dX10_beat_48 (by decide) ?_
            refine J_isub (pc := 49) X dX10_beat_49 ?_
            refine J_top (y := nw 0 + nI m) (by rw [show nI (m + 1) = nI m + 1 from nI_succ m, ← Int32.add_assoc, Int32.add_sub_cancel]) ?_
            refine J_aload_n (pc := 50) X 0 dX10_beat_50 rfl ?_
            refine J_get (pc := 51) X clX10 0 13 rfl (by decide) g902 rfl dX10_beat_51 ?_
            refine J_iconst (pc := 54) X 1 dX10_beat_54 (by decide) ?_
            refine J_iald (pc := 55) X 3 0 1 rfl rfl rfl (by decide) (by decide) dX10_beat_55 ?_
            refine J_callV (pc := 56) (As := [.int (nw 0 + nI m), .int (nw 1)]) (rest := []) X mtX10_walks g1135 [0, 1, 2] [3] [1, 2, 3, 0] 0 (fun u => [(q, .inr (10, [.ref qtx, .int (nI ln), .int fa, .ref qlw, .ref qgp, .ref qhm, .ref qpcs, .ref qdl, .ref qdg, .ref qdh, .ref qdp, .int dr, .int tl, .ref qnw, .ref qps, .int (nI dn), .ref qim, .ref qisd, .ref qkp, .int sd, .ref qfd, .int (nI fn), .ref qbk, .int (nI en), .int (nI at_), .int (nI wr), .int (nI u.1), .int u.2.1, .int u.2.2, .int v, .ref qal, .ref qco])), (qlw, .inl (cI, 5, .inl lw)), (qgp, .inl (cI, 8, .inl gp)), (qnw, .inl (cI, 14, .inl nw))]) (kX10_walks l G cI cC cZ q qtx qlw qgp qhm qpcs qdl qdg qdh qdp qnw qps qim qisd qkp qfd qbk qal qco ln fa dr dn sd fn en at_ wr tl lw gp P gr wd g wk pos y wx v (nw 0 + nI m) (nw 1) (by first | assumption | omega) (by first | assumption | omega) (by first | assumption | omega) (by first | assumption | omega) (by first | assumption | omega) (by first | assumption | omega) (by first | assumption | omega) (by first | assumption | omega) (by first | assumption | omega) (by first | assumption | omega) hpk) ⟨Nat.le_of_ble_eq_true rfl, Nat.le_of_ble_eq_true rfl⟩ rfl rfl rfl (by decide) (wr := [(qnw, .inl (cI, 14, .inl nw))]) rfl (by decide) (by decide) (fun _ => rfl) (by decide) rfl rfl rfl rfl rfl (Nat.le_of_ble_eq_true rfl) (Nat.zero_le _) (Nat.zero_le _) dX10_beat_56 (fun u_14 w_15 => ?_)
            obtain ⟨pos2_u_14, y2_u_14, w2_u_14⟩ := u_14
            try dsimp only at w_15
            have hst := bt_step hg hpk hy0 hbi (by omega) w_15; have hpl2 := posOk_lt hg hst.1
            refine J_aload_n (pc := 59) X 0 dX10_beat_59 rfl ?_
            refine J_get (pc := 60) X clX10 0 28 rfl (by decide) g917 rfl dX10_beat_60 ?_
            refine J_if_ne (pc := 63) X 75 dX10_beat_63 (by decide) (fun c_16 => ?_) (fun c_16 => ?_)
            · skip
              refine J_aload_n (pc := 75) X 0 dX10_beat_75 rfl ?_
              refine J_aload_n (pc := 76) X 0 dX10_beat_76 rfl ?_
              refine J_get (pc := 77) X clX10 0 26 rfl (by decide) g915 rfl dX10_beat_77 ?_
              refine J_aload_n (pc := 80) X 0 dX10_beat_80 rfl ?_
              refine J_get (pc := 81) X clX10 0 3 rfl (by decide) g892 rfl dX10_beat_81 ?_
              refine J_iconst (pc := 84) X 3 dX10_beat_84 (by decide) ?_
              refine J_iald (pc := 85) X 1 0 3 rfl rfl rfl (by decide) (by decide) dX10_beat_85 ?_
              refine J_top (y := nI g) hl3 ?_
              refine J_icmp_ne (pc := 86) X 93 dX10_beat_86 (by decide) (fun c_17 => ?_) (fun c_17 => ?_)
              · have c_17 : ¬ pos2_u_14 = g := n_ne_of (a := pos2_u_14) (b := g) (by omega) (by omega) c_17
                refine J_aload_n (pc := 93) X 0 dX10_beat_93 rfl ?_
                refine J_get (pc := 94) X clX10 0 28 rfl (by decide) g917 rfl dX10_beat_94 ?_
                refine J_put (pc := 97) X clX10 0 28 [(q, .inr (10, [.ref qtx, .int (nI ln), .int fa, .ref qlw, .ref qgp, .ref qhm, .ref qpcs, .ref qdl, .ref qdg, .ref qdh, .ref qdp, .int dr, .int tl, .ref qnw, .ref qps, .int (nI dn), .ref qim, .ref qisd, .ref qkp, .int sd, .ref qfd, .int (nI fn), .ref qbk, .int (nI en), .int (nI at_), .int (nI wr), .int (nI pos2_u_14), .int y2_u_14, .int w2_u_14, .int v, .ref qal, .ref qco])), (qlw, .inl (cI, 5, .inl lw)), (qgp, .inl (cI, 8, .inl gp)), (qnw, .inl (cI, 14, .inl nw))] rfl (by decide) g917 rfl rfl rfl (Nat.le_of_ble_eq_true rfl) rfl dX10_beat_97 ?_
                refine J_iinc (pc := 100) X (nI (m + 2)) 2 [(2, .int (nI (m + 2))), (0, .ref q), (1, .int v)] dX10_beat_100 rfl (n_add (x := m + 1) (y := 1) rfl rfl (by omega)) (by decide) rfl ?_
                refine J_goto (pc := 103) X 32 dX10_beat_103 (by decide) ?_
                refine J_loc [1, 2, 0] (lv2 := [(0, .ref q), (1, .int v), (2, .int (nI (m + 2)))]) rfl ?_
                exact ih_32  (m + 1) pos2_u_14 y2_u_14 w2_u_14 (by first | assumption | omega | simp_all) hst.1 hst.2.1 (by rcases hst.2.2 with ⟨z1, z2, z3⟩ | ⟨z1, z2, z3⟩ <;> first | exact z2 (by omega) | (rw [z1]; exact z3 (by omega)) | exact z3 (by omega) | exact absurd z1 (by assumption) | (exfalso; omega)) (by omega)
              · have c_17 : pos2_u_14 = g := n_eq_of (a := pos2_u_14) (b := g) (by omega) (by omega) c_17
                refine J_iconst (pc := 89) X 0 dX10_beat_89 (by decide) ?_
                refine J_goto (pc := 90) X 97 dX10_beat_90 (by decide) ?_
                refine J_put (pc := 97) X clX10 0 28 [(q, .inr (10, [.ref qtx, .int (nI ln), .int fa, .ref qlw, .ref qgp, .ref qhm, .ref qpcs, .ref qdl, .ref qdg, .ref qdh, .ref qdp, .int dr, .int tl, .ref qnw, .ref qps, .int (nI dn), .ref qim, .ref qisd, .ref qkp, .int sd, .ref qfd, .int (nI fn), .ref qbk, .int (nI en), .int (nI at_), .int (nI wr), .int (nI pos2_u_14), .int y2_u_14, .int 0, .int v, .ref qal, .ref qco])), (qlw, .inl (cI, 5, .inl lw)), (qgp, .inl (cI, 8, .inl gp)), (qnw, .inl (cI, 14, .inl nw))] rfl (by decide) g917 rfl rfl rfl (Nat.le_of_ble_eq_true rfl) rfl dX10_beat_97 ?_
                refine J_iinc (pc := 100) X (nI (m + 2)) 2 [(2, .int (nI (m + 2))), (0, .ref q), (1, .int v)] dX10_beat_100 rfl (n_add (x := m + 1) (y := 1) rfl rfl (by omega)) (by decide) rfl ?_
                refine J_goto (pc := 103) X 32 dX10_beat_103 (by decide) ?_
                refine J_loc [1, 2, 0] (lv2 := [(0, .ref q), (1, .int v), (2, .int (nI (m + 2)))]) rfl ?_
                exact ih_32  (m + 1) pos2_u_14 y2_u_14 0 (by first | assumption | omega | simp_all) hst.1 hst.2.1 (by rcases hst.2.2 with ⟨z1, z2, z3⟩ | ⟨z1, z2, z3⟩ <;> first | exact z2 (by omega) | (rw [z1]; exact z3 (by omega)) | exact z3 (by omega) | exact absurd z1 (by assumption) | (exfalso; omega)) (by omega)
            · skip
              refine J_aload_n (pc := 66) X 0 dX10_beat_66 rfl ?_
              refine J_get (pc := 67) X clX10 0 26 rfl (by decide) g915 rfl dX10_beat_67 ?_
              refine J_if_ne (pc := 70) X 75 dX10_beat_70 (by decide) (fun c_18 => ?_) (fun c_18 => ?_)
              · have c_18 : ¬ pos2_u_14 = 0 := n_ne_of (a := pos2_u_14) (b := 0) (by omega) (by omega) c_18
                refine J_aload_n (pc := 75) X 0 dX10_beat_75 rfl ?_
                refine J_aload_n (pc := 76) X 0 dX10_beat_76 rfl ?_
                refine J_get (pc := 77) X clX10 0 26 rfl (by decide) g915 rfl dX10_beat_77 ?_
                refine J_aload_n (pc := 80) X 0 dX10_beat_80 rfl ?_
                refine J_get (pc := 81) X clX10 0 3 rfl (by decide) g892 rfl dX10_beat_81 ?_
                refine J_iconst (pc := 84) X 3 dX10_beat_84 (by decide) ?_
                refine J_iald (pc := 85) X 1 0 3 rfl rfl rfl (by decide) (by decide) dX10_beat_85 ?_
                refine J_top (y := nI g) hl3 ?_
                refine J_icmp_ne (pc := 86) X 93 dX10_beat_86 (by decide) (fun c_19 => ?_) (fun c_19 => ?_)
                · have c_19 : ¬ pos2_u_14 = g := n_ne_of (a := pos2_u_14) (b := g) (by omega) (by omega) c_19
                  refine J_aload_n (pc := 93) X 0 dX10_beat_93 rfl ?_
                  refine J_get (pc := 94) X clX10 0 28 rfl (by decide) g917 rfl dX10_beat_94 ?_
                  refine J_put (pc := 97) X clX10 0 28 [(q, .inr (10, [.ref qtx, .int (nI ln), .int fa, .ref qlw, .ref qgp, .ref qhm, .ref qpcs, .ref qdl, .ref qdg, .ref qdh, .ref qdp, .int dr, .int tl, .ref qnw, .ref qps, .int (nI dn), .ref qim, .ref qisd, .ref qkp, .int sd, .ref qfd, .int (nI fn), .ref qbk, .int (nI en), .int (nI at_), .int (nI wr), .int (nI pos2_u_14), .int y2_u_14, .int w2_u_14, .int v, .ref qal, .ref qco])), (qlw, .inl (cI, 5, .inl lw)), (qgp, .inl (cI, 8, .inl gp)), (qnw, .inl (cI, 14, .inl nw))] rfl (by decide) g917 rfl rfl rfl (Nat.le_of_ble_eq_true rfl) rfl dX10_beat_97 ?_
                  refine J_iinc (pc := 100) X (nI (m + 2)) 2 [(2, .int (nI (m + 2))), (0, .ref q), (1, .int v)] dX10_beat_100 rfl (n_add (x := m + 1) (y := 1) rfl rfl (by omega)) (by decide) rfl ?_
                  refine J_goto (pc := 103) X 32 dX10_beat_103 (by decide) ?_
                  refine J_loc [1, 2, 0] (lv2 := [(0, .ref q), (1, .int v), (2, .int (nI (m + 2)))]) rfl ?_
                  exact ih_32  (m + 1) pos2_u_14 y2_u_14 w2_u_14 (by first | assumption | omega | simp_all) hst.1 hst.2.1 (by rcases hst.2.2 with ⟨z1, z2, z3⟩ | ⟨z1, z2, z3⟩ <;> first | exact z2 (by omega) | (rw [z1]; exact z3 (by omega)) | exact z3 (by omega) | exact absurd z1 (by assumption) | (exfalso; omega)) (by omega)
                · have c_19 : pos2_u_14 = g := n_eq_of (a := pos2_u_14) (b := g) (by omega) (by omega) c_19
                  refine J_iconst (pc := 89) X 0 dX10_beat_89 (by decide) ?_
                  refine J_goto (pc := 90) X 97 dX10_beat_90 (by decide) ?_
                  refine J_put (pc := 97) X clX10 0 28 [(q, .inr (10, [.ref qtx, .int (nI ln), .int fa, .ref qlw, .ref qgp, .ref qhm, .ref qpcs, .ref qdl, .ref qdg, .ref qdh, .ref qdp, .int dr, .int tl, .ref qnw, .ref qps, .int (nI dn), .ref qim, .ref qisd, .ref qkp, .int sd, .ref qfd, .int (nI fn), .ref qbk, .int (nI en), .int (nI at_), .int (nI wr), .int (nI pos2_u_14), .int y2_u_14, .int 0, .int v, .ref qal, .ref qco])), (qlw, .inl (cI, 5, .inl lw)), (qgp, .inl (cI, 8, .inl gp)), (qnw, .inl (cI, 14, .inl nw))] rfl (by decide) g917 rfl rfl rfl (Nat.le_of_ble_eq_true rfl) rfl dX10_beat_97 ?_
                  refine J_iinc (pc := 100) X (nI (m + 2)) 2 [(2, .int (nI (m + 2))), (0, .ref q), (1, .int v)] dX10_beat_100 rfl (n_add (x := m + 1) (y := 1) rfl rfl (by omega)) (by decide) rfl ?_
                  refine J_goto (pc := 103) X 32 dX10_beat_103 (by decide) ?_
                  refine J_loc [1, 2, 0] (lv2 := [(0, .ref q), (1, .int v), (2, .int (nI (m + 2)))]) rfl ?_
                  exact ih_32  (m + 1) pos2_u_14 y2_u_14 0 (by first | assumption | omega | simp_all) hst.1 hst.2.1 (by rcases hst.2.2 with ⟨z1, z2, z3⟩ | ⟨z1, z2, z3⟩ <;> first | exact z2 (by omega) | (rw [z1]; exact z3 (by omega)) | exact z3 (by omega) | exact absurd z1 (by assumption) | (exfalso; omega)) (by omega)
              · have c_18 : pos2_u_14 = 0 := n_eq_of (a := pos2_u_14) (b := 0) (by omega) (by omega) c_18
                refine J_iload_n (pc := 73) X 2 dX10_beat_73 rfl ?_
                refine J_iret (pc := 74) X hr ((nI pos2_u_14), y2_u_14, w2_u_14, v) dX10_beat_74 ?_ rfl
                rw [spBeat, if_pos hv9, if_neg (by omega)]
                rcases hst.2.2 with ⟨z1, z2, z3⟩ | ⟨z1, z2, z3⟩
                · exact absurd (z1.symm.trans (show _ = (0 : Int32) from by assumption)) (by decide)
                · exact z2 (by omega)
      refine J_loc [1, 2, 0] (lv2 := [(0, .ref q), (1, .int v), (2, .int 1)]) rfl ?_
      exact L_32 _  0 0 0 2 (by first | assumption | omega | simp_all) (Or.inl (Nat.zero_le g)) (fun _ => rfl) (Or.inl ⟨rfl, by show 0 < g; omega, rfl⟩) (Nat.lt_succ_self _)
    · have c_8 : hs = 0 := n_eq_of (a := hs) (b := 0) (by omega) (by omega) c_8
      refine J_ldc (pc := 20) X g1106 dX10_beat_20 ?_
      refine J_iret (pc := 22) X hr (pl, yd, wy, pce_) dX10_beat_22 ?_ rfl
      rw [spBeat, if_pos (by assumption), if_pos (by omega)]
  · skip
    refine J_ldc (pc := 10) X g993 dX10_beat_10 ?_
    refine J_iret (pc := 12) X hr (pl, yd, wy, pce_) dX10_beat_12 ?_ rfl
    exact (if_neg (by assumption)).symm
