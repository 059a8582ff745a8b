set_option maxRecDepth 100000 in
set_option maxHeartbeats 600000 in
theorem kX10_readsGaps (l : Launch) (G : va_G) (cI cC cZ : ClassId) (q : Nat) (qtx : Nat) (qlw : Nat) (qgp : Nat) (qhm : Nat) (qpcs : Nat) (qdl : Nat) (qdg : Nat) (qdh : Nat) (qdp : Nat) (qnw : Nat) (qps : Nat) (qim : Nat) (qisd : Nat) (qkp : Nat) (qfd : Nat) (qbk : Nat) (qal : Nat) (qco : Nat) (ln : Nat) (fa : Int32) (dr : Int32) (dn : Nat) (sd : Int32) (fn : Nat) (en : Nat) (at_ : Nat) (pl : Int32) (yd : Int32) (wy : Int32) (pce_ : Int32) (tl : Int32) (tx : Nat → Int32) (dl : Nat → Int32) (dg : Nat → Int32) (g : Nat) (hln : ln ≤ 200) (hat : at_ < ln) (hd3 : dl 3 = nI g) (hg : g ≤ 8) : CV l G (tys3 cI cC cZ) yX10_readsGaps cX10_readsGaps 1 ({ frames := 3, cells := 0, slots := 0, locals := 64 }) [.ref q] [(q, .inr (10, [.ref qtx, .int (nI ln), .int fa, .ref qlw, .ref qgp, .ref qhm, .ref qpcs, .ref qdl, .ref qdg, .ref qdh, .ref qdp, .int dr, .int tl, .ref qnw, .ref qps, .int (nI dn), .ref qim, .ref qisd, .ref qkp, .int sd, .ref qfd, .int (nI fn), .ref qbk, .int (nI en), .int (nI at_), .int 0, .int pl, .int yd, .int wy, .int pce_, .ref qal, .ref qco])), (qtx, .inl (cI, 200, .inl tx)), (qdl, .inl (cI, 5, .inl dl)), (qdg, .inl (cI, 8, .inl dg))] (S := Nat × Nat × Nat × (Nat → Int32) × (Nat → Int32)) (fun (u : Nat × Nat × Nat × (Nat → Int32) × (Nat → Int32)) => (u.1, u.2.1, u.2.2.1, u.2.2.2.1) = rdGaps tx ln at_ g dg ∧ u.2.2.2.2 = upd dl 3 (nI u.2.2.1) ∧ u.1 ≤ ln ∧ u.2.1 ≤ 4 ∧ u.2.2.1 ≤ 8) (fun (u : Nat × Nat × Nat × (Nat → Int32) × (Nat → Int32)) => [(q, .inr (10, [.ref qtx, .int (nI ln), .int fa, .ref qlw, .ref qgp, .ref qhm, .ref qpcs, .ref qdl, .ref qdg, .ref qdh, .ref qdp, .int dr, .int tl, .ref qnw, .ref qps, .int (nI dn), .ref qim, .ref qisd, .ref qkp, .int sd, .ref qfd, .int (nI fn), .ref qbk, .int (nI en), .int (nI u.1), .int (nI u.2.1), .int pl, .int yd, .int wy, .int pce_, .ref qal, .ref qco])), (qtx, .inl (cI, 200, .inl tx)), (qdl, .inl (cI, 5, .inl u.2.2.2.2)), (qdg, .inl (cI, 8, .inl u.2.2.2.1))]) := by
  refine CV.intro (by decide) (Nat.le_of_ble_eq_true rfl) ?_
  intro p0 e0 s0 m0 ar0 be0 me0 c0 A0 X hr
  refine J_aload_n (pc := 0) X 0 dX10_readsGaps_0 rfl ?_
  refine J_get (pc := 1) X clX10 0 7 rfl (by decide) g896 rfl dX10_readsGaps_1 ?_
  refine J_iconst (pc := 4) X 3 dX10_readsGaps_4 (by decide) ?_
  refine J_iald (pc := 5) X 2 0 3 rfl rfl rfl (by decide) (by decide) dX10_readsGaps_5 ?_
  refine J_top (y := nI g) hd3 ?_
  refine J_if_le (pc := 6) X 15 dX10_readsGaps_6 (by decide) (fun c_1 => ?_) (fun c_1 => ?_)
  · have c_1 : g ≤ 0 := n_le_of (a := g) (b := 0) (by omega) (by omega) c_1
    refine J_aload_n (pc := 15) X 0 dX10_readsGaps_15 rfl ?_
    refine J_dup (pc := 16) X dX10_readsGaps_16 rfl ?_
    refine J_get (pc := 17) X clX10 0 24 rfl (by decide) g913 rfl dX10_readsGaps_17 ?_
    refine J_iconst (pc := 20) X 1 dX10_readsGaps_20 (by decide) ?_
    refine J_iadd (pc := 21) X dX10_readsGaps_21 ?_
    refine J_top (y := nI (at_ + 1)) (n_add (x := at_) (y := 1) rfl rfl (by omega)) ?_
    refine J_put (pc := 22) X clX10 0 24 [(q, .inr (10, [.ref qtx, .int (nI ln), .int fa, .ref qlw, .ref qgp, .ref qhm, .ref qpcs, .ref qdl, .ref qdg, .ref qdh, .ref qdp, .int dr, .int tl, .ref qnw, .ref qps, .int (nI dn), .ref qim, .ref qisd, .ref qkp, .int sd, .ref qfd, .int (nI fn), .ref qbk, .int (nI en), .int (nI (at_ + 1)), .int 0, .int pl, .int yd, .int wy, .int pce_, .ref qal, .ref qco])), (qtx, .inl (cI, 200, .inl tx)), (qdl, .inl (cI, 5, .inl dl)), (qdg, .inl (cI, 8, .inl dg))] rfl (by decide) g913 rfl rfl rfl (Nat.le_of_ble_eq_true rfl) rfl dX10_readsGaps_22 ?_
    refine J_aload_n (pc := 25) X 0 dX10_readsGaps_25 rfl ?_
    refine J_get (pc := 26) X clX10 0 8 rfl (by decide) g897 rfl dX10_readsGaps_26 ?_
    refine J_iconst (pc := 29) X 0 dX10_readsGaps_29 (by decide) ?_
    refine J_aload_n (pc := 30) X 0 dX10_readsGaps_30 rfl ?_
    refine J_iconst (pc := 31) X 1 dX10_readsGaps_31 (by decide) ?_
    refine J_bipush (pc := 32) X 60 dX10_readsGaps_32 (by decide) ?_
    refine J_callI (pc := 34) (As := [.int 1, .int 60]) (rest := [.int 0, .ref qdg]) X mtX10_number g1019 [0, 1] [2, 3] [2, 3, 0, 1] 0 (fun u => [(q, .inr (10, [.ref qtx, .int (nI ln), .int fa, .ref qlw, .ref qgp, .ref qhm, .ref qpcs, .ref qdl, .ref qdg, .ref qdh, .ref qdp, .int dr, .int tl, .ref qnw, .ref qps, .int (nI dn), .ref qim, .ref qisd, .ref qkp, .int sd, .ref qfd, .int (nI fn), .ref qbk, .int (nI en), .int (nI u.1), .int (nI u.2), .int pl, .int yd, .int wy, .int pce_, .ref qal, .ref qco])), (qtx, .inl (cI, 200, .inl tx)), (qdl, .inl (cI, 5, .inl dl)), (qdg, .inl (cI, 8, .inl dg))]) (kX10_number l G cI cC cZ q qtx qlw qgp qhm qpcs qdl qdg qdh qdp qnw qps qim qisd qkp qfd qbk qal qco ln fa dr dn sd fn en (at_ + 1) 0 pl yd wy pce_ tl tx 1 60 (by first | assumption | omega) (by first | assumption | omega) (by first | assumption | omega)) ⟨Nat.le_of_ble_eq_true rfl, Nat.le_of_ble_eq_true rfl⟩ rfl rfl rfl (by decide) (wr := [(qdl, .inl (cI, 5, .inl dl)), (qdg, .inl (cI, 8, .inl dg))]) rfl (by decide) (by decide) (fun _ => rfl) (by decide) rfl rfl rfl rfl rfl (Nat.le_of_ble_eq_true rfl) (Nat.zero_le _) (Nat.zero_le _) dX10_readsGaps_34 (fun v1 u_2 w_3 => ?_)
    obtain ⟨a1, e1⟩ := u_2
    try dsimp only at w_3
    obtain ⟨hn1, hb1, hc1⟩ := w_3
    refine J_iast (pc := 37) X 3 0 0 [(q, .inr (10, [.ref qtx, .int (nI ln), .int fa, .ref qlw, .ref qgp, .ref qhm, .ref qpcs, .ref qdl, .ref qdg, .ref qdh, .ref qdp, .int dr, .int tl, .ref qnw, .ref qps, .int (nI dn), .ref qim, .ref qisd, .ref qkp, .int sd, .ref qfd, .int (nI fn), .ref qbk, .int (nI en), .int (nI a1), .int (nI e1), .int pl, .int yd, .int wy, .int pce_, .ref qal, .ref qco])), (qtx, .inl (cI, 200, .inl tx)), (qdl, .inl (cI, 5, .inl dl)), (qdg, .inl (cI, 8, .inl (upd dg 0 v1)))] rfl rfl rfl (by decide) (by decide) rfl dX10_readsGaps_37 ?_
    refine J_aload_n (pc := 38) X 0 dX10_readsGaps_38 rfl ?_
    refine J_get (pc := 39) X clX10 0 7 rfl (by decide) g896 rfl dX10_readsGaps_39 ?_
    refine J_iconst (pc := 42) X 3 dX10_readsGaps_42 (by decide) ?_
    refine J_iconst (pc := 43) X 1 dX10_readsGaps_43 (by decide) ?_
    refine J_iast (pc := 44) X 2 0 3 [(q, .inr (10, [.ref qtx, .int (nI ln), .int fa, .ref qlw, .ref qgp, .ref qhm, .ref qpcs, .ref qdl, .ref qdg, .ref qdh, .ref qdp, .int dr, .int tl, .ref qnw, .ref qps, .int (nI dn), .ref qim, .ref qisd, .ref qkp, .int sd, .ref qfd, .int (nI fn), .ref qbk, .int (nI en), .int (nI a1), .int (nI e1), .int pl, .int yd, .int wy, .int pce_, .ref qal, .ref qco])), (qtx, .inl (cI, 200, .inl tx)), (qdl, .inl (cI, 5, .inl (upd dl 3 1))), (qdg, .inl (cI, 8, .inl (upd dg 0 v1)))] rfl rfl rfl (by decide) (by decide) rfl dX10_readsGaps_44 ?_
    refine J_aload_n (pc := 45) X 0 dX10_readsGaps_45 rfl ?_
    refine J_callV (pc := 46) (As := []) (rest := []) X mtX10_skips g999 [0, 1] [2, 3] [2, 3, 0, 1] 0 (fun u => [(q, .inr (10, [.ref qtx, .int (nI ln), .int fa, .ref qlw, .ref qgp, .ref qhm, .ref qpcs, .ref qdl, .ref qdg, .ref qdh, .ref qdp, .int dr, .int tl, .ref qnw, .ref qps, .int (nI dn), .ref qim, .ref qisd, .ref qkp, .int sd, .ref qfd, .int (nI fn), .ref qbk, .int (nI en), .int (nI u), .int (nI e1), .int pl, .int yd, .int wy, .int pce_, .ref qal, .ref qco])), (qtx, .inl (cI, 200, .inl tx)), (qdl, .inl (cI, 5, .inl (upd dl 3 1))), (qdg, .inl (cI, 8, .inl (upd dg 0 v1)))]) (kX10_skips l G cI cC cZ q qtx qlw qgp qhm qpcs qdl qdg qdh qdp qnw qps qim qisd qkp qfd qbk qal qco ln fa dr dn sd fn en a1 e1 pl yd wy pce_ tl tx (by first | assumption | omega) (by first | assumption | omega) (by first | assumption | omega)) ⟨Nat.le_of_ble_eq_true rfl, Nat.le_of_ble_eq_true rfl⟩ rfl rfl rfl (by decide) (wr := [(qdl, .inl (cI, 5, .inl (upd dl 3 1))), (qdg, .inl (cI, 8, .inl (upd dg 0 v1)))]) rfl (by decide) (by decide) (fun _ => rfl) (by decide) rfl rfl rfl rfl rfl (Nat.le_of_ble_eq_true rfl) (Nat.zero_le _) (Nat.zero_le _) dX10_readsGaps_46 (fun u_5 w_6 => ?_)
    obtain ⟨i1, rfl⟩ : ∃ z, z = u_5 := ⟨_, rfl⟩
    try dsimp only at w_6
    obtain ⟨hk1, hk2⟩ := w_6
    have L_49 : ∀ (n_49 : Nat) (i : Nat) (w : Nat) (k : Nat) (dgx : Nat → Int32) (hi : i ≤ ln) (hw : w ≤ 4) (hk : k ≤ 8) (hk0 : 1 ≤ k) (hgl : gpL tx ln (9 - k) i w k dgx = gpL tx ln 8 i1 e1 1 (upd dg 0 v1)), (2 * (9 - k) - w) < n_49 → JJ p0 l e0 ({ frames := 3, cells := 0, slots := 0, locals := 64 }) s0 m0 ar0 be0 me0 c0 A0 G 1 0 0 (QV be0 ar0 s0 A0 G (tys3 cI cC cZ) (S := Nat × Nat × Nat × (Nat → Int32) × (Nat → Int32)) (fun (u : Nat × Nat × Nat × (Nat → Int32) × (Nat → Int32)) => (u.1, u.2.1, u.2.2.1, u.2.2.2.1) = rdGaps tx ln at_ g dg ∧ u.2.2.2.2 = upd dl 3 (nI u.2.2.1) ∧ u.1 ≤ ln ∧ u.2.1 ≤ 4 ∧ u.2.2.1 ≤ 8) (fun (u : Nat × Nat × Nat × (Nat → Int32) × (Nat → Int32)) => [(q, .inr (10, [.ref qtx, .int (nI ln), .int fa, .ref qlw, .ref qgp, .ref qhm, .ref qpcs, .ref qdl, .ref qdg, .ref qdh, .ref qdp, .int dr, .int tl, .ref qnw, .ref qps, .int (nI dn), .ref qim, .ref qisd, .ref qkp, .int sd, .ref qfd, .int (nI fn), .ref qbk, .int (nI en), .int (nI u.1), .int (nI u.2.1), .int pl, .int yd, .int wy, .int pce_, .ref qal, .ref qco])), (qtx, .inl (cI, 200, .inl tx)), (qdl, .inl (cI, 5, .inl u.2.2.2.2)), (qdg, .inl (cI, 8, .inl u.2.2.2.1))])) [(q, .inr (10, [.ref qtx, .int (nI ln), .int fa, .ref qlw, .ref qgp, .ref qhm, .ref qpcs, .ref qdl, .ref qdg, .ref qdh, .ref qdp, .int dr, .int tl, .ref qnw, .ref qps, .int (nI dn), .ref qim, .ref qisd, .ref qkp, .int sd, .ref qfd, .int (nI fn), .ref qbk, .int (nI en), .int (nI i), .int (nI w), .int pl, .int yd, .int wy, .int pce_, .ref qal, .ref qco])), (qtx, .inl (cI, 200, .inl tx)), (qdl, .inl (cI, 5, .inl (upd dl 3 (nI k)))), (qdg, .inl (cI, 8, .inl dgx))] 49 [(0, .ref q)] [] := by
      intro n_49
      induction n_49 with
      | zero => intro i w k dgx hi hw hk hk0 hgl hm_49; exact absurd hm_49 (Nat.not_lt_zero _)
      | succ n_49 ih_49 =>
        intro i w k dgx hi hw hk hk0 hgl hm_49
        refine J_aload_n (pc := 49) X 0 dX10_readsGaps_49 rfl ?_
        refine J_get (pc := 50) X clX10 0 25 rfl (by decide) g914 rfl dX10_readsGaps_50 ?_
        refine J_if_ne (pc := 53) X 129 dX10_readsGaps_53 (by decide) (fun c_7 => ?_) (fun c_7 => ?_)
        · have c_7 : ¬ w = 0 := n_ne_of (a := w) (b := 0) (by omega) (by omega) c_7
          refine J_aload_n (pc := 129) X 0 dX10_readsGaps_129 rfl ?_
          refine J_bipush (pc := 130) X 59 dX10_readsGaps_130 (by decide) ?_
          refine J_callV (pc := 132) (As := [.int 59]) (rest := []) X mtX10_word g1023 [0, 1] [2, 3] [2, 3, 0, 1] 0 (fun u => [(q, .inr (10, [.ref qtx, .int (nI ln), .int fa, .ref qlw, .ref qgp, .ref qhm, .ref qpcs, .ref qdl, .ref qdg, .ref qdh, .ref qdp, .int dr, .int tl, .ref qnw, .ref qps, .int (nI dn), .ref qim, .ref qisd, .ref qkp, .int sd, .ref qfd, .int (nI fn), .ref qbk, .int (nI en), .int (nI u.1), .int (nI u.2), .int pl, .int yd, .int wy, .int pce_, .ref qal, .ref qco])), (qtx, .inl (cI, 200, .inl tx)), (qdl, .inl (cI, 5, .inl (upd dl 3 (nI k)))), (qdg, .inl (cI, 8, .inl dgx))]) (kX10_word l G cI cC cZ q qtx qlw qgp qhm qpcs qdl qdg qdh qdp qnw qps qim qisd qkp qfd qbk qal qco ln fa dr dn sd fn en i w pl yd wy pce_ tl tx 59 (by first | assumption | omega) (by first | assumption | omega) (by first | assumption | omega) (by decide)) ⟨Nat.le_of_ble_eq_true rfl, Nat.le_of_ble_eq_true rfl⟩ rfl rfl rfl (by decide) (wr := [(qdl, .inl (cI, 5, .inl (upd dl 3 (nI k)))), (qdg, .inl (cI, 8, .inl dgx))]) rfl (by decide) (by decide) (fun _ => rfl) (by decide) rfl rfl rfl rfl rfl (Nat.le_of_ble_eq_true rfl) (Nat.zero_le _) (Nat.zero_le _) dX10_readsGaps_132 (fun u_9 w_10 => ?_)
          obtain ⟨a4, e4⟩ := u_9
          try dsimp only at w_10
          obtain ⟨hn4, hb4, hc4⟩ := w_10
          refine J_vret (pc := 135) X hr (a4, e4, k, dgx, (upd dl 3 (nI k))) dX10_readsGaps_135 ?_ rfl
          have hz := gp_stop hgl (by first | (intro z; exact absurd z.1 (by omega)) | (intro z; exact absurd z.2 (by assumption)))
          exact ⟨rdGaps_t (by omega) hn1 hk1 hz.symm hn4, rfl, by omega, by omega, by omega⟩
        · have c_7 : w = 0 := n_eq_of (a := w) (b := 0) (by omega) (by omega) c_7
          refine J_aload_n (pc := 56) X 0 dX10_readsGaps_56 rfl ?_
          refine J_callR (pc := 57) (As := []) (rest := []) X mtX10_look g1003 [0, 1] 0 (kX10_look l G cI cC cZ q qtx qlw qgp qhm qpcs qdl qdg qdh qdp qnw qps qim qisd qkp qfd qbk qal qco ln fa dr dn sd fn en i w pl yd wy pce_ tl tx (by first | assumption | omega) (by first | assumption | omega)) ⟨Nat.le_of_ble_eq_true rfl, Nat.le_of_ble_eq_true rfl⟩ rfl rfl rfl (by decide) rfl rfl rfl rfl rfl (Nat.le_of_ble_eq_true rfl) (Nat.zero_le _) (Nat.zero_le _) dX10_readsGaps_57 (fun r_11 u_12 w_13 => ?_)
          try dsimp only at w_13
          subst w_13
          refine J_bipush (pc := 60) X 44 dX10_readsGaps_60 (by decide) ?_
          refine J_icmp_ne (pc := 62) X 129 dX10_readsGaps_62 (by decide) (fun c_14 => ?_) (fun c_14 => ?_)
          · skip
            refine J_aload_n (pc := 129) X 0 dX10_readsGaps_129 rfl ?_
            refine J_bipush (pc := 130) X 59 dX10_readsGaps_130 (by decide) ?_
            refine J_callV (pc := 132) (As := [.int 59]) (rest := []) X mtX10_word g1023 [0, 1] [2, 3] [2, 3, 0, 1] 0 (fun u => [(q, .inr (10, [.ref qtx, .int (nI ln), .int fa, .ref qlw, .ref qgp, .ref qhm, .ref qpcs, .ref qdl, .ref qdg, .ref qdh, .ref qdp, .int dr, .int tl, .ref qnw, .ref qps, .int (nI dn), .ref qim, .ref qisd, .ref qkp, .int sd, .ref qfd, .int (nI fn), .ref qbk, .int (nI en), .int (nI u.1), .int (nI u.2), .int pl, .int yd, .int wy, .int pce_, .ref qal, .ref qco])), (qtx, .inl (cI, 200, .inl tx)), (qdl, .inl (cI, 5, .inl (upd dl 3 (nI k)))), (qdg, .inl (cI, 8, .inl dgx))]) (kX10_word l G cI cC cZ q qtx qlw qgp qhm qpcs qdl qdg qdh qdp qnw qps qim qisd qkp qfd qbk qal qco ln fa dr dn sd fn en i w pl yd wy pce_ tl tx 59 (by first | assumption | omega) (by first | assumption | omega) (by first | assumption | omega) (by decide)) ⟨Nat.le_of_ble_eq_true rfl, Nat.le_of_ble_eq_true rfl⟩ rfl rfl rfl (by decide) (wr := [(qdl, .inl (cI, 5, .inl (upd dl 3 (nI k)))), (qdg, .inl (cI, 8, .inl dgx))]) rfl (by decide) (by decide) (fun _ => rfl) (by decide) rfl rfl rfl rfl rfl (Nat.le_of_ble_eq_true rfl) (Nat.zero_le _) (Nat.zero_le _) dX10_readsGaps_132 (fun u_16 w_17 => ?_)
            obtain ⟨a4, e4⟩ := u_16
            try dsimp only at w_17
            obtain ⟨hn4, hb4, hc4⟩ := w_17
            refine J_vret (pc := 135) X hr (a4, e4, k, dgx, (upd dl 3 (nI k))) dX10_readsGaps_135 ?_ rfl
            have hz := gp_stop hgl (by first | (intro z; exact absurd z.1 (by omega)) | (intro z; exact absurd z.2 (by assumption)))
            exact ⟨rdGaps_t (by omega) hn1 hk1 hz.symm hn4, rfl, by omega, by omega, by omega⟩
          · skip
            refine J_aload_n (pc := 65) X 0 dX10_readsGaps_65 rfl ?_
            refine J_get (pc := 66) X clX10 0 7 rfl (by decide) g896 rfl dX10_readsGaps_66 ?_
            refine J_iconst (pc := 69) X 3 dX10_readsGaps_69 (by decide) ?_
            refine J_iald (pc := 70) X 2 0 3 rfl rfl rfl (by decide) (by decide) dX10_readsGaps_70 ?_
            refine J_top (y := nI k) upd_s ?_
            refine J_bipush (pc := 71) X 8 dX10_readsGaps_71 (by decide) ?_
            refine J_icmp_ne (pc := 73) X 84 dX10_readsGaps_73 (by decide) (fun c_18 => ?_) (fun c_18 => ?_)
            · have c_18 : ¬ k = 8 := n_ne_of (a := k) (b := 8) (by omega) (by omega) c_18
              have hlt9 := lk_lt (tx := tx) c_14 (by decide)
              refine J_aload_n (pc := 84) X 0 dX10_readsGaps_84 rfl ?_
              refine J_dup (pc := 85) X dX10_readsGaps_85 rfl ?_
              refine J_get (pc := 86) X clX10 0 24 rfl (by decide) g913 rfl dX10_readsGaps_86 ?_
              refine J_iconst (pc := 89) X 1 dX10_readsGaps_89 (by decide) ?_
              refine J_iadd (pc := 90) X dX10_readsGaps_90 ?_
              refine J_top (y := nI (i + 1)) (n_add (x := i) (y := 1) rfl rfl (by omega)) ?_
              refine J_put (pc := 91) X clX10 0 24 [(q, .inr (10, [.ref qtx, .int (nI ln), .int fa, .ref qlw, .ref qgp, .ref qhm, .ref qpcs, .ref qdl, .ref qdg, .ref qdh, .ref qdp, .int dr, .int tl, .ref qnw, .ref qps, .int (nI dn), .ref qim, .ref qisd, .ref qkp, .int sd, .ref qfd, .int (nI fn), .ref qbk, .int (nI en), .int (nI (i + 1)), .int (nI w), .int pl, .int yd, .int wy, .int pce_, .ref qal, .ref qco])), (qtx, .inl (cI, 200, .inl tx)), (qdl, .inl (cI, 5, .inl (upd dl 3 (nI k)))), (qdg, .inl (cI, 8, .inl dgx))] rfl (by decide) g913 rfl rfl rfl (Nat.le_of_ble_eq_true rfl) rfl dX10_readsGaps_91 ?_
              refine J_aload_n (pc := 94) X 0 dX10_readsGaps_94 rfl ?_
              refine J_get (pc := 95) X clX10 0 8 rfl (by decide) g897 rfl dX10_readsGaps_95 ?_
              refine J_aload_n (pc := 98) X 0 dX10_readsGaps_98 rfl ?_
              refine J_get (pc := 99) X clX10 0 7 rfl (by decide) g896 rfl dX10_readsGaps_99 ?_
              refine J_iconst (pc := 102) X 3 dX10_readsGaps_102 (by decide) ?_
              refine J_iald (pc := 103) X 2 0 3 rfl rfl rfl (by decide) (by decide) dX10_readsGaps_103 ?_
              refine J_top (y := nI k) upd_s ?_
              refine J_aload_n (pc := 104) X 0 dX10_readsGaps_104 rfl ?_
              refine J_iconst (pc := 105) X 1 dX10_readsGaps_105 (by decide) ?_
              refine J_bipush (pc := 106) X 60 dX10_readsGaps_106 (by decide) ?_
              refine J_callI (pc := 108) (As := [.int 1, .int 60]) (rest := [.int (nI k), .ref qdg]) X mtX10_number g1019 [0, 1] [2, 3] [2, 3, 0, 1] 0 (fun u => [(q, .inr (10, [.ref qtx, .int (nI ln), .int fa, .ref qlw, .ref qgp, .ref qhm, .ref qpcs, .ref qdl, .ref qdg, .ref qdh, .ref qdp, .int dr, .int tl, .ref qnw, .ref qps, .int (nI dn), .ref qim, .ref qisd, .ref qkp, .int sd, .ref qfd, .int (nI fn), .ref qbk, .int (nI en), .int (nI u.1), .int (nI u.2), .int pl, .int yd, .int wy, .int pce_, .ref qal, .ref qco])), (qtx, .inl (cI, 200, .inl tx)), (qdl, .inl (cI, 5, .inl (upd dl 3 (nI k)))), (qdg, .inl (cI, 8, .inl dgx))]) (kX10_number l G cI cC cZ q qtx qlw qgp qhm qpcs qdl qdg qdh qdp qnw qps qim qisd qkp qfd qbk qal qco ln fa dr dn sd fn en (i + 1) w pl yd wy pce_ tl tx 1 60 (by first | assumption | omega) (by first | assumption | omega) (by first | assumption | omega)) ⟨Nat.le_of_ble_eq_true rfl, Nat.le_of_ble_eq_true rfl⟩ rfl rfl rfl (by decide) (wr := [(qdl, .inl (cI, 5, .inl (upd dl 3 (nI k)))), (qdg, .inl (cI, 8, .inl dgx))]) rfl (by decide) (by decide) (fun _ => rfl) (by decide) rfl rfl rfl rfl rfl (Nat.le_of_ble_eq_true rfl) (Nat.zero_le _) (Nat.zero_le _) dX10_readsGaps_108 (fun v2 u_19 w_20 => ?_)
              obtain ⟨a2, e2⟩ := u_19
              try dsimp only at w_20
              obtain ⟨hn2, hb2, hc2⟩ := w_20
              refine J_iast (pc := 111) X 3 0 k [(q, .inr (10, [.ref qtx, .int (nI ln), .int fa, .ref qlw, .ref qgp, .ref qhm, .ref qpcs, .ref qdl, .ref qdg, .ref qdh, .ref qdp, .int dr, .int tl, .ref qnw, .ref qps, .int (nI dn), .ref qim, .ref qisd, .ref qkp, .int sd, .ref qfd, .int (nI fn), .ref qbk, .int (nI en), .int (nI a2), .int (nI e2), .int pl, .int yd, .int wy, .int pce_, .ref qal, .ref qco])), (qtx, .inl (cI, 200, .inl tx)), (qdl, .inl (cI, 5, .inl (upd dl 3 (nI k)))), (qdg, .inl (cI, 8, .inl (upd dgx k v2)))] rfl rfl rfl (by omega) (by decide) rfl dX10_readsGaps_111 ?_
              refine J_aload_n (pc := 112) X 0 dX10_readsGaps_112 rfl ?_
              refine J_get (pc := 113) X clX10 0 7 rfl (by decide) g896 rfl dX10_readsGaps_113 ?_
              refine J_iconst (pc := 116) X 3 dX10_readsGaps_116 (by decide) ?_
              refine J_dup2 (pc := 117) X dX10_readsGaps_117 rfl rfl ?_
              refine J_iald (pc := 118) X 2 0 3 rfl rfl rfl (by decide) (by decide) dX10_readsGaps_118 ?_
              refine J_top (y := nI k) upd_s ?_
              refine J_iconst (pc := 119) X 1 dX10_readsGaps_119 (by decide) ?_
              refine J_iadd (pc := 120) X dX10_readsGaps_120 ?_
              refine J_top (y := nI (k + 1)) (n_add (x := k) (y := 1) rfl rfl (by omega)) ?_
              refine J_iast (pc := 121) X 2 0 3 [(q, .inr (10, [.ref qtx, .int (nI ln), .int fa, .ref qlw, .ref qgp, .ref qhm, .ref qpcs, .ref qdl, .ref qdg, .ref qdh, .ref qdp, .int dr, .int tl, .ref qnw, .ref qps, .int (nI dn), .ref qim, .ref qisd, .ref qkp, .int sd, .ref qfd, .int (nI fn), .ref qbk, .int (nI en), .int (nI a2), .int (nI e2), .int pl, .int yd, .int wy, .int pce_, .ref qal, .ref qco])), (qtx, .inl (cI, 200, .inl tx)), (qdl, .inl (cI, 5, .inl (upd (upd dl 3 (nI k)) 3 (nI (k + 1))))), (qdg, .inl (cI, 8, .inl (upd dgx k v2)))] rfl rfl rfl (by decide) (by decide) rfl dX10_readsGaps_121 ?_
              refine J_eq (ws2 := [(q, .inr (10, [.ref qtx, .int (nI ln), .int fa, .ref qlw, .ref qgp, .ref qhm, .ref qpcs, .ref qdl, .ref qdg, .ref qdh, .ref qdp, .int dr, .int tl, .ref qnw, .ref qps, .int (nI dn), .ref qim, .ref qisd, .ref qkp, .int sd, .ref qfd, .int (nI fn), .ref qbk, .int (nI en), .int (nI a2), .int (nI e2), .int pl, .int yd, .int wy, .int pce_, .ref qal, .ref qco])), (qtx, .inl (cI, 200, .inl tx)), (qdl, .inl (cI, 5, .inl (upd dl 3 (nI (k + 1))))), (qdg, .inl (cI, 8, .inl (upd dgx k v2)))]) ?_ rfl rfl ?_
              · rw [upd_upd]
              refine J_aload_n (pc := 122) X 0 dX10_readsGaps_122 rfl ?_
              refine J_callV (pc := 123) (As := []) (rest := []) X mtX10_skips g999 [0, 1] [2, 3] [2, 3, 0, 1] 0 (fun u => [(q, .inr (10, [.ref qtx, .int (nI ln), .int fa, .ref qlw, .ref qgp, .ref qhm, .ref qpcs, .ref qdl, .ref qdg, .ref qdh, .ref qdp, .int dr, .int tl, .ref qnw, .ref qps, .int (nI dn), .ref qim, .ref qisd, .ref qkp, .int sd, .ref qfd, .int (nI fn), .ref qbk, .int (nI en), .int (nI u), .int (nI e2), .int pl, .int yd, .int wy, .int pce_, .ref qal, .ref qco])), (qtx, .inl (cI, 200, .inl tx)), (qdl, .inl (cI, 5, .inl (upd dl 3 (nI (k + 1))))), (qdg, .inl (cI, 8, .inl (upd dgx k v2)))]) (kX10_skips l G cI cC cZ q qtx qlw qgp qhm qpcs qdl qdg qdh qdp qnw qps qim qisd qkp qfd qbk qal qco ln fa dr dn sd fn en a2 e2 pl yd wy pce_ tl tx (by first | assumption | omega) (by first | assumption | omega) (by first | assumption | omega)) ⟨Nat.le_of_ble_eq_true rfl, Nat.le_of_ble_eq_true rfl⟩ rfl rfl rfl (by decide) (wr := [(qdl, .inl (cI, 5, .inl (upd dl 3 (nI (k + 1))))), (qdg, .inl (cI, 8, .inl (upd dgx k v2)))]) rfl (by decide) (by decide) (fun _ => rfl) (by decide) rfl rfl rfl rfl rfl (Nat.le_of_ble_eq_true rfl) (Nat.zero_le _) (Nat.zero_le _) dX10_readsGaps_123 (fun u_22 w_23 => ?_)
              obtain ⟨i9, rfl⟩ : ∃ z, z = u_22 := ⟨_, rfl⟩
              try dsimp only at w_23
              obtain ⟨hk3, hk4⟩ := w_23
              refine J_goto (pc := 126) X 49 dX10_readsGaps_126 (by decide) ?_
              refine J_loc [0] (lv2 := [(0, .ref q)]) rfl ?_
              exact ih_49  i9 e2 (k + 1) (upd dgx k v2) (by first | assumption | omega | simp_all) (by first | assumption | omega | simp_all) (by first | assumption | omega | simp_all) (by first | assumption | omega | simp_all) (gp_go hgl (by omega) (by assumption) (by omega) (by rw [hn2, show w = 0 from by omega]) hk3) (by omega)
            · have c_18 : k = 8 := n_eq_of (a := k) (b := 8) (by omega) (by omega) c_18
              refine J_aload_n (pc := 76) X 0 dX10_readsGaps_76 rfl ?_
              refine J_iconst (pc := 77) X 1 dX10_readsGaps_77 (by decide) ?_
              refine J_callV (pc := 78) (As := [.int 1]) (rest := []) X mtX10_fails g1015 [0] [1, 2, 3] [3, 0, 1, 2] 0 (fun u => [(q, .inr (10, [.ref qtx, .int (nI ln), .int fa, .ref qlw, .ref qgp, .ref qhm, .ref qpcs, .ref qdl, .ref qdg, .ref qdh, .ref qdp, .int dr, .int tl, .ref qnw, .ref qps, .int (nI dn), .ref qim, .ref qisd, .ref qkp, .int sd, .ref qfd, .int (nI fn), .ref qbk, .int (nI en), .int (nI i), .int (nI u), .int pl, .int yd, .int wy, .int pce_, .ref qal, .ref qco])), (qtx, .inl (cI, 200, .inl tx)), (qdl, .inl (cI, 5, .inl (upd dl 3 (nI k)))), (qdg, .inl (cI, 8, .inl dgx))]) (kX10_fails l G cI cC cZ q qtx qlw qgp qhm qpcs qdl qdg qdh qdp qnw qps qim qisd qkp qfd qbk qal qco ln fa dr dn sd fn en i w pl yd wy pce_ tl 1 (by first | assumption | omega) (by first | assumption | omega)) ⟨Nat.le_of_ble_eq_true rfl, Nat.le_of_ble_eq_true rfl⟩ rfl rfl rfl (by decide) (wr := [(qtx, .inl (cI, 200, .inl tx)), (qdl, .inl (cI, 5, .inl (upd dl 3 (nI k)))), (qdg, .inl (cI, 8, .inl dgx))]) rfl (by decide) (by decide) (fun _ => rfl) (by decide) rfl rfl rfl rfl rfl (Nat.le_of_ble_eq_true rfl) (Nat.zero_le _) (Nat.zero_le _) dX10_readsGaps_78 (fun u_25 w_26 => ?_)
              obtain ⟨wr8, rfl⟩ : ∃ z, z = u_25 := ⟨_, rfl⟩
              try dsimp only at w_26
              have hfw := w_26
              have hw8 : wr8 = 1 := by omega
              refine J_goto (pc := 81) X 122 dX10_readsGaps_81 (by decide) ?_
              refine J_aload_n (pc := 122) X 0 dX10_readsGaps_122 rfl ?_
              refine J_callV (pc := 123) (As := []) (rest := []) X mtX10_skips g999 [0, 1] [2, 3] [2, 3, 0, 1] 0 (fun u => [(q, .inr (10, [.ref qtx, .int (nI ln), .int fa, .ref qlw, .ref qgp, .ref qhm, .ref qpcs, .ref qdl, .ref qdg, .ref qdh, .ref qdp, .int dr, .int tl, .ref qnw, .ref qps, .int (nI dn), .ref qim, .ref qisd, .ref qkp, .int sd, .ref qfd, .int (nI fn), .ref qbk, .int (nI en), .int (nI u), .int (nI wr8), .int pl, .int yd, .int wy, .int pce_, .ref qal, .ref qco])), (qtx, .inl (cI, 200, .inl tx)), (qdl, .inl (cI, 5, .inl (upd dl 3 (nI k)))), (qdg, .inl (cI, 8, .inl dgx))]) (kX10_skips l G cI cC cZ q qtx qlw qgp qhm qpcs qdl qdg qdh qdp qnw qps qim qisd qkp qfd qbk qal qco ln fa dr dn sd fn en i wr8 pl yd wy pce_ tl tx (by first | assumption | omega) (by first | assumption | omega) (by first | assumption | omega)) ⟨Nat.le_of_ble_eq_true rfl, Nat.le_of_ble_eq_true rfl⟩ rfl rfl rfl (by decide) (wr := [(qdl, .inl (cI, 5, .inl (upd dl 3 (nI k)))), (qdg, .inl (cI, 8, .inl dgx))]) rfl (by decide) (by decide) (fun _ => rfl) (by decide) rfl rfl rfl rfl rfl (Nat.le_of_ble_eq_true rfl) (Nat.zero_le _) (Nat.zero_le _) dX10_readsGaps_123 (fun u_28 w_29 => ?_)
              obtain ⟨i9, rfl⟩ : ∃ z, z = u_28 := ⟨_, rfl⟩
              try dsimp only at w_29
              obtain ⟨hk3, hk4⟩ := w_29
              refine J_goto (pc := 126) X 49 dX10_readsGaps_126 (by decide) ?_
              refine J_loc [0] (lv2 := [(0, .ref q)]) rfl ?_
              exact ih_49  i9 wr8 k dgx (by first | assumption | omega | simp_all) (by first | assumption | omega | simp_all) (by first | assumption | omega | simp_all) (by first | assumption | omega | simp_all) (by rw [skS_f (by omega)] at hk3; rw [hk3, hw8]; exact gp_8 hgl (by omega) (by assumption) (by omega)) (by omega)
    refine J_loc [0] (lv2 := [(0, .ref q)]) rfl ?_
    exact L_49 _  i1 e1 1 (upd dg 0 v1) (by first | assumption | omega | simp_all) (by first | assumption | omega | simp_all) (by first | assumption | omega | simp_all) (by first | assumption | omega | simp_all) rfl (Nat.lt_succ_self _)
  · have c_1 : 0 < g := n_nle_of (a := g) (b := 0) (by omega) (by omega) c_1
    refine J_aload_n (pc := 9) X 0 dX10_readsGaps_9 rfl ?_
    refine J_iconst (pc := 10) X 3 dX10_readsGaps_10 (by decide) ?_
    refine J_callV (pc := 11) (As := [.int 3]) (rest := []) X mtX10_fails g1015 [0] [1, 2, 3] [3, 0, 1, 2] 0 (fun u => [(q, .inr (10, [.ref qtx, .int (nI ln), .int fa, .ref qlw, .ref qgp, .ref qhm, .ref qpcs, .ref qdl, .ref qdg, .ref qdh, .ref qdp, .int dr, .int tl, .ref qnw, .ref qps, .int (nI dn), .ref qim, .ref qisd, .ref qkp, .int sd, .ref qfd, .int (nI fn), .ref qbk, .int (nI en), .int (nI at_), .int (nI u), .int pl, .int yd, .int wy, .int pce_, .ref qal, .ref qco])), (qtx, .inl (cI, 200, .inl tx)), (qdl, .inl (cI, 5, .inl dl)), (qdg, .inl (cI, 8, .inl dg))]) (kX10_fails l G cI cC cZ q qtx qlw qgp qhm qpcs qdl qdg qdh qdp qnw qps qim qisd qkp qfd qbk qal qco ln fa dr dn sd fn en at_ 0 pl yd wy pce_ tl 3 (by first | assumption | omega) (by first | assumption | omega)) ⟨Nat.le_of_ble_eq_true rfl, Nat.le_of_ble_eq_true rfl⟩ rfl rfl rfl (by decide) (wr := [(qtx, .inl (cI, 200, .inl tx)), (qdl, .inl (cI, 5, .inl dl)), (qdg, .inl (cI, 8, .inl dg))]) rfl (by decide) (by decide) (fun _ => rfl) (by decide) rfl rfl rfl rfl rfl (Nat.le_of_ble_eq_true rfl) (Nat.zero_le _) (Nat.zero_le _) dX10_readsGaps_11 (fun u_31 w_32 => ?_)
    obtain ⟨wr2, rfl⟩ : ∃ z, z = u_31 := ⟨_, rfl⟩
    try dsimp only at w_32
    have hfw := w_32
    refine J_vret (pc := 14) X hr (at_, wr2, g, dg, dl) dX10_readsGaps_14 ?_ rfl
    have hw3 : wr2 = 3 := by omega
    subst hw3
    exact ⟨(if_pos (by omega)).symm, by rw [← hd3]; exact (upd_id).symm, Nat.le_of_lt hat, Nat.le_of_ble_eq_true rfl, hg⟩
