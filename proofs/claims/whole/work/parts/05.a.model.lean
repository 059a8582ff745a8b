set_option maxRecDepth 100000 in
set_option maxHeartbeats 600000 in
theorem kX10_in (l : Launch) (G : va_G) (cI cC cZ : ClassId) (v : Int32) (lo : Int32) (hi : Int32) : CI l G (tys3 cI cC cZ) yX10_in cX10_in 3 (some .boolean) ({ frames := 0, cells := 0, slots := 0, locals := 0 }) [.int v, .int lo, .int hi] [] (S := Unit) (fun (r : Int32) (u : Unit) => r = bI (wIn v lo hi)) (fun _ => []) := by
  refine CI.intro (by decide) (Nat.le_of_ble_eq_true rfl) ?_
  intro p0 e0 s0 m0 ar0 be0 me0 c0 A0 X hr
  refine J_iload_n (pc := 0) X 0 dX10_in_0 rfl ?_
  refine J_iload_n (pc := 1) X 1 dX10_in_1 rfl ?_
  refine J_icmp_lt (pc := 2) X 14 dX10_in_2 (by decide) (fun c_1 => ?_) (fun c_1 => ?_)
  · skip
    refine J_iconst (pc := 14) X 0 dX10_in_14 (by decide) ?_
    refine J_zret (pc := 15) X hr () rfl dX10_in_15 ?_ rfl
    first | exact (bI_t (wIn_t (by assumption) (by assumption))).symm | exact (bI_f (wIn_f1 (by assumption))).symm | exact (bI_f (wIn_f2 (by assumption))).symm
  · skip
    refine J_iload_n (pc := 5) X 0 dX10_in_5 rfl ?_
    refine J_iload_n (pc := 6) X 2 dX10_in_6 rfl ?_
    refine J_icmp_gt (pc := 7) X 14 dX10_in_7 (by decide) (fun c_2 => ?_) (fun c_2 => ?_)
    · skip
      refine J_iconst (pc := 14) X 0 dX10_in_14 (by decide) ?_
      refine J_zret (pc := 15) X hr () rfl dX10_in_15 ?_ rfl
      first | exact (bI_t (wIn_t (by assumption) (by assumption))).symm | exact (bI_f (wIn_f1 (by assumption))).symm | exact (bI_f (wIn_f2 (by assumption))).symm
    · skip
      refine J_iconst (pc := 10) X 1 dX10_in_10 (by decide) ?_
      refine J_goto (pc := 11) X 15 dX10_in_11 (by decide) ?_
      refine J_zret (pc := 15) X hr () rfl dX10_in_15 ?_ rfl
      first | exact (bI_t (wIn_t (by assumption) (by assumption))).symm | exact (bI_f (wIn_f1 (by assumption))).symm | exact (bI_f (wIn_f2 (by assumption))).symm
set_option maxRecDepth 100000 in
set_option maxHeartbeats 600000 in
theorem kX10_has (l : Launch) (G : va_G) (cI cC cZ : ClassId) (set_ : Int32) (k : Nat) : CI l G (tys3 cI cC cZ) yX10_has cX10_has 2 (some .boolean) ({ frames := 0, cells := 0, slots := 0, locals := 0 }) [.int set_, .int (nI k)] [] (S := Unit) (fun (r : Int32) (u : Unit) => r = bI (hasR set_ k)) (fun _ => []) := by
  refine CI.intro (by decide) (Nat.le_of_ble_eq_true rfl) ?_
  intro p0 e0 s0 m0 ar0 be0 me0 c0 A0 X hr
  refine J_iload_n (pc := 0) X 0 dX10_has_0 rfl ?_
  refine J_iload_n (pc := 1) X 1 dX10_has_1 rfl ?_
  refine J_ishr (pc := 2) X dX10_has_2 ?_
  refine J_iconst (pc := 3) X 1 dX10_has_3 (by decide) ?_
  refine J_iand (pc := 4) X dX10_has_4 ?_
  refine J_iconst (pc := 5) X 1 dX10_has_5 (by decide) ?_
  refine J_icmp_ne (pc := 6) X 13 dX10_has_6 (by decide) (fun c_1 => ?_) (fun c_1 => ?_)
  · skip
    refine J_iconst (pc := 13) X 0 dX10_has_13 (by decide) ?_
    refine J_zret (pc := 14) X hr () rfl dX10_has_14 ?_ rfl
    first | exact (bI_t (by assumption)).symm | exact (bI_f (by assumption)).symm
  · skip
    refine J_iconst (pc := 9) X 1 dX10_has_9 (by decide) ?_
    refine J_goto (pc := 10) X 14 dX10_has_10 (by decide) ?_
    refine J_zret (pc := 14) X hr () rfl dX10_has_14 ?_ rfl
    first | exact (bI_t (by assumption)).symm | exact (bI_f (by assumption)).symm
set_option maxRecDepth 100000 in
set_option maxHeartbeats 600000 in
theorem kX10_ones (l : Launch) (G : va_G) (cI cC cZ : ClassId) (set_ : Int32) : CI l G (tys3 cI cC cZ) yX10_ones cX10_ones 3 (some .int) ({ frames := 0, cells := 0, slots := 0, locals := 0 }) [.int set_] [] (S := Unit) (fun (r : Int32) (u : Unit) => r = onesTo set_ 8) (fun _ => []) := by
  refine CI.intro (by decide) (Nat.le_of_ble_eq_true rfl) ?_
  intro p0 e0 s0 m0 ar0 be0 me0 c0 A0 X hr
  refine J_iconst (pc := 0) X 0 dX10_ones_0 (by decide) ?_
  refine J_istore_n (pc := 1) X [(1, .int 0), (0, .int set_)] dX10_ones_1 (by decide) rfl ?_
  refine J_iconst (pc := 2) X 0 dX10_ones_2 (by decide) ?_
  refine J_istore_n (pc := 3) X [(2, .int 0), (1, .int 0), (0, .int set_)] dX10_ones_3 (by decide) rfl ?_
  have L_4 : ∀ (n_4 : Nat) (i : Nat) (hi : i ≤ 8), (8 - i) < n_4 → JJ p0 l e0 ({ frames := 0, cells := 0, slots := 0, locals := 0 }) s0 m0 ar0 be0 me0 c0 A0 G 3 0 0 (QI be0 ar0 s0 A0 G (tys3 cI cC cZ) (S := Unit) (fun (r : Int32) (u : Unit) => r = onesTo set_ 8) (fun _ => [])) [] 4 [(0, .int set_), (1, .int (onesTo set_ i)), (2, .int (nI i))] [] := by
    intro n_4
    induction n_4 with
    | zero => intro i hi hm_4; exact absurd hm_4 (Nat.not_lt_zero _)
    | succ n_4 ih_4 =>
      intro i hi hm_4
      refine J_iload_n (pc := 4) X 2 dX10_ones_4 rfl ?_
      refine J_bipush (pc := 5) X 8 dX10_ones_5 (by decide) ?_
      refine J_icmp_ge (pc := 7) X 24 dX10_ones_7 (by decide) (fun c_1 => ?_) (fun c_1 => ?_)
      · have c_1 : 8 ≤ i := n_le_of (a := 8) (b := i) (by omega) (by omega) c_1
        refine J_iload_n (pc := 24) X 1 dX10_ones_24 rfl ?_
        refine J_iret (pc := 25) X hr () dX10_ones_25 ?_ rfl
        exact congrArg (onesTo set_) (by omega)
      · have c_1 : i < 8 := n_nle_of (a := 8) (b := i) (by omega) (by omega) c_1
        refine J_iload_n (pc := 10) X 1 dX10_ones_10 rfl ?_
        refine J_iload_n (pc := 11) X 0 dX10_ones_11 rfl ?_
        refine J_iload_n (pc := 12) X 2 dX10_ones_12 rfl ?_
        refine J_ishr (pc := 13) X dX10_ones_13 ?_
        refine J_iconst (pc := 14) X 1 dX10_ones_14 (by decide) ?_
        refine J_iand (pc := 15) X dX10_ones_15 ?_
        refine J_iadd (pc := 16) X dX10_ones_16 ?_
        refine J_istore_n (pc := 17) X [(1, .int ((onesTo set_ i) + ((set_ >>> ((nI i) &&& 31)) &&& 1))), (0, .int set_), (2, .int (nI i))] dX10_ones_17 (by decide) rfl ?_
        refine J_iinc (pc := 18) X (nI (i + 1)) 2 [(2, .int (nI (i + 1))), (1, .int ((onesTo set_ i) + ((set_ >>> ((nI i) &&& 31)) &&& 1))), (0, .int set_)] dX10_ones_18 rfl (n_add (x := i) (y := 1) rfl rfl (by omega)) (by decide) rfl ?_
        refine J_goto (pc := 21) X 4 dX10_ones_21 (by decide) ?_
        refine J_loc [2, 1, 0] (lv2 := [(0, .int set_), (1, .int (onesTo set_ (i + 1))), (2, .int (nI (i + 1)))]) rfl ?_
        exact ih_4  (i + 1) (by first | assumption | omega | simp_all) (by omega)
  refine J_loc [2, 1, 0] (lv2 := [(0, .int set_), (1, .int (onesTo set_ 0)), (2, .int 0)]) rfl ?_
  exact L_4 _  0 (by first | assumption | omega | simp_all) (Nat.lt_succ_self _)
set_option maxRecDepth 100000 in
set_option maxHeartbeats 600000 in
theorem kX10_lesser (l : Launch) (G : va_G) (cI cC cZ : ClassId) (a : Int32) (b : Int32) : CI l G (tys3 cI cC cZ) yX10_lesser cX10_lesser 2 (some .int) ({ frames := 0, cells := 0, slots := 0, locals := 0 }) [.int a, .int b] [] (S := Unit) (fun (r : Int32) (u : Unit) => r = mn a b) (fun _ => []) := by
  refine CI.intro (by decide) (Nat.le_of_ble_eq_true rfl) ?_
  intro p0 e0 s0 m0 ar0 be0 me0 c0 A0 X hr
  refine J_iload_n (pc := 0) X 0 dX10_lesser_0 rfl ?_
  refine J_iload_n (pc := 1) X 1 dX10_lesser_1 rfl ?_
  refine J_icmp_ge (pc := 2) X 9 dX10_lesser_2 (by decide) (fun c_1 => ?_) (fun c_1 => ?_)
  · have c_1 := Int32.not_lt.mpr c_1
    refine J_iload_n (pc := 9) X 1 dX10_lesser_9 rfl ?_
    refine J_iret (pc := 10) X hr () dX10_lesser_10 ?_ rfl
    first | exact mn_t (by assumption) | exact mn_f (by assumption)
  · have c_1 := Int32.not_le.mp c_1
    refine J_iload_n (pc := 5) X 0 dX10_lesser_5 rfl ?_
    refine J_goto (pc := 6) X 10 dX10_lesser_6 (by decide) ?_
    refine J_iret (pc := 10) X hr () dX10_lesser_10 ?_ rfl
    first | exact mn_t (by assumption) | exact mn_f (by assumption)
set_option maxRecDepth 100000 in
set_option maxHeartbeats 600000 in
theorem kX10_isStreet (l : Launch) (G : va_G) (cI cC cZ : ClassId) (q : Nat) (qtx : Nat) (qlw : Nat) (qgp : Nat) (qhm : Nat) (qpcs : Nat) (qdl : Nat) (qdg : Nat) (qdh : Nat) (qdp : Nat) (qnw : Nat) (qps : Nat) (qim : Nat) (qisd : Nat) (qkp : Nat) (qfd : Nat) (qbk : Nat) (qal : Nat) (qco : Nat) (ln : Nat) (fa : Int32) (dr : Int32) (dn : Nat) (sd : Int32) (fn : Nat) (en : Nat) (at_ : Nat) (wr : Nat) (pl : Int32) (yd : Int32) (wy : Int32) (pce_ : Int32) (tl : Int32) (lw : Nat → Int32) (P : Nat) (gr : Int32) (wd : Nat) (g : Nat) (wk : Nat) (hPl : P ≤ 60) (hg : g ≤ 8) (hwk : wk ≤ 4) (hwd : wd ≤ 50) (hl0 : lw 0 = nI P) (hl1 : lw 1 = gr) (hl2 : lw 2 = nI wd) (hl3 : lw 3 = nI g) (hl4 : lw 4 = nI wk) : CI l G (tys3 cI cC cZ) yX10_isStreet cX10_isStreet 1 (some .boolean) ({ frames := 0, cells := 0, slots := 0, locals := 0 }) [.ref q] [(q, .inr (10, [.ref qtx, .int (nI ln), .int fa, .ref qlw, .ref qgp, .ref qhm, .ref qpcs, .ref qdl, .ref qdg, .ref qdh, .ref qdp, .int dr, .int tl, .ref qnw, .ref qps, .int (nI dn), .ref qim, .ref qisd, .ref qkp, .int sd, .ref qfd, .int (nI fn), .ref qbk, .int (nI en), .int (nI at_), .int (nI wr), .int pl, .int yd, .int wy, .int pce_, .ref qal, .ref qco])), (qlw, .inl (cI, 5, .inl lw))] (S := Unit) (fun (r : Int32) (u : Unit) => r = bI (0 < P)) (fun _ => [(q, .inr (10, [.ref qtx, .int (nI ln), .int fa, .ref qlw, .ref qgp, .ref qhm, .ref qpcs, .ref qdl, .ref qdg, .ref qdh, .ref qdp, .int dr, .int tl, .ref qnw, .ref qps, .int (nI dn), .ref qim, .ref qisd, .ref qkp, .int sd, .ref qfd, .int (nI fn), .ref qbk, .int (nI en), .int (nI at_), .int (nI wr), .int pl, .int yd, .int wy, .int pce_, .ref qal, .ref qco])), (qlw, .inl (cI, 5, .inl lw))]) := by
  refine CI.intro (by decide) (Nat.le_of_ble_eq_true rfl) ?_
  intro p0 e0 s0 m0 ar0 be0 me0 c0 A0 X hr
  refine J_aload_n (pc := 0) X 0 dX10_isStreet_0 rfl ?_
  refine J_get (pc := 1) X clX10 0 3 rfl (by decide) g892 rfl dX10_isStreet_1 ?_
  refine J_iconst (pc := 4) X 0 dX10_isStreet_4 (by decide) ?_
  refine J_iald (pc := 5) X 1 0 0 rfl rfl rfl (by decide) (by decide) dX10_isStreet_5 ?_
  refine J_top (y := nI P) hl0 ?_
  refine J_if_le (pc := 6) X 13 dX10_isStreet_6 (by decide) (fun c_1 => ?_) (fun c_1 => ?_)
  · have c_1 : P ≤ 0 := n_le_of (a := P) (b := 0) (by omega) (by omega) c_1
    refine J_iconst (pc := 13) X 0 dX10_isStreet_13 (by decide) ?_
    refine J_zret (pc := 14) X hr () rfl dX10_isStreet_14 ?_ rfl
    first | exact (bI_t (by omega)).symm | exact (bI_f (by omega)).symm
  · have c_1 : 0 < P := n_nle_of (a := P) (b := 0) (by omega) (by omega) c_1
    refine J_iconst (pc := 9) X 1 dX10_isStreet_9 (by decide) ?_
    refine J_goto (pc := 10) X 14 dX10_isStreet_10 (by decide) ?_
    refine J_zret (pc := 14) X hr () rfl dX10_isStreet_14 ?_ rfl
    first | exact (bI_t (by omega)).symm | exact (bI_f (by omega)).symm
set_option maxRecDepth 100000 in
set_option maxHeartbeats 600000 in
theorem kX10_houses (l : Launch) (G : va_G) (cI cC cZ : ClassId) (q : Nat) (qtx : Nat) (qlw : Nat) (qgp : Nat) (qhm : Nat) (qpcs : Nat) (qdl : Nat) (qdg : Nat) (qdh : Nat) (qdp : Nat) (qnw : Nat) (qps : Nat) (qim : Nat) (qisd : Nat) (qkp : Nat) (qfd : Nat) (qbk : Nat) (qal : Nat) (qco : Nat) (ln : Nat) (fa : Int32) (dr : Int32) (dn : Nat) (sd : Int32) (fn : Nat) (en : Nat) (at_ : Nat) (wr : Nat) (pl : Int32) (yd : Int32) (wy : Int32) (pce_ : Int32) (tl : Int32) (lw : Nat → Int32) (P : Nat) (gr : Int32) (wd : Nat) (g : Nat) (wk : Nat) (hs : Nat) (hPl : P ≤ 60) (hg : g ≤ 8) (hwk : wk ≤ 4) (hwd : wd ≤ 50) (hl0 : lw 0 = nI P) (hl1 : lw 1 = gr) (hl2 : lw 2 = nI wd) (hl3 : lw 3 = nI g) (hl4 : lw 4 = nI wk) (hhs : (g = 0 ∧ hs = 0) ∨ (0 < g ∧ hs = g + 1)) : CI l G (tys3 cI cC cZ) yX10_houses cX10_houses 1 (some .int) ({ frames := 0, cells := 0, slots := 0, locals := 0 }) [.ref q] [(q, .inr (10, [.ref qtx, .int (nI ln), .int fa, .ref qlw, .ref qgp, .ref qhm, .ref qpcs, .ref qdl, .ref qdg, .ref qdh, .ref qdp, .int dr, .int tl, .ref qnw, .ref qps, .int (nI dn), .ref qim, .ref qisd, .ref qkp, .int sd, .ref qfd, .int (nI fn), .ref qbk, .int (nI en), .int (nI at_), .int (nI wr), .int pl, .int yd, .int wy, .int pce_, .ref qal, .ref qco])), (qlw, .inl (cI, 5, .inl lw))] (S := Unit) (fun (r : Int32) (u : Unit) => r = nI hs) (fun _ => [(q, .inr (10, [.ref qtx, .int (nI ln), .int fa, .ref qlw, .ref qgp, .ref qhm, .ref qpcs, .ref qdl, .ref qdg, .ref qdh, .ref qdp, .int dr, .int tl, .ref qnw, .ref qps, .int (nI dn), .ref qim, .ref qisd, .ref qkp, .int sd, .ref qfd, .int (nI fn), .ref qbk, .int (nI en), .int (nI at_), .int (nI wr), .int pl, .int yd, .int wy, .int pce_, .ref qal, .ref qco])), (qlw, .inl (cI, 5, .inl lw))]) := by
  refine CI.intro (by decide) (Nat.le_of_ble_eq_true rfl) ?_
  intro p0 e0 s0 m0 ar0 be0 me0 c0 A0 X hr
  refine J_aload_n (pc := 0) X 0 dX10_houses_0 rfl ?_
  refine J_get (pc := 1) X clX10 0 3 rfl (by decide) g892 rfl dX10_houses_1 ?_
  refine J_iconst (pc := 4) X 3 dX10_houses_4 (by decide) ?_
  refine J_iald (pc := 5) X 1 0 3 rfl rfl rfl (by decide) (by decide) dX10_houses_5 ?_
  refine J_top (y := nI g) hl3 ?_
  refine J_if_ne (pc := 6) X 13 dX10_houses_6 (by decide) (fun c_1 => ?_) (fun c_1 => ?_)
  · have c_1 : ¬ g = 0 := n_ne_of (a := g) (b := 0) (by omega) (by omega) c_1
    refine J_aload_n (pc := 13) X 0 dX10_houses_13 rfl ?_
    refine J_get (pc := 14) X clX10 0 3 rfl (by decide) g892 rfl dX10_houses_14 ?_
    refine J_iconst (pc := 17) X 3 dX10_houses_17 (by decide) ?_
    refine J_iald (pc := 18) X 1 0 3 rfl rfl rfl (by decide) (by decide) dX10_houses_18 ?_
    refine J_top (y := nI g) hl3 ?_
    refine J_iconst (pc := 19) X 1 dX10_houses_19 (by decide) ?_
    refine J_iadd (pc := 20) X dX10_houses_20 ?_
    refine J_top (y := nI (g + 1)) (n_add (x := g) (y := 1) rfl rfl (by omega)) ?_
    refine J_iret (pc := 21) X hr () dX10_houses_21 ?_ rfl
    first | (show nI 0 = nI hs; exact congrArg nI (by omega)) | exact congrArg nI (by omega)
  · have c_1 : g = 0 := n_eq_of (a := g) (b := 0) (by omega) (by omega) c_1
    refine J_iconst (pc := 9) X 0 dX10_houses_9 (by decide) ?_
    refine J_goto (pc := 10) X 21 dX10_houses_10 (by decide) ?_
    refine J_iret (pc := 21) X hr () dX10_houses_21 ?_ rfl
    first | (show nI 0 = nI hs; exact congrArg nI (by omega)) | exact congrArg nI (by omega)
set_option maxRecDepth 100000 in
set_option maxHeartbeats 600000 in
theorem kX10_isGap (l : Launch) (G : va_G) (cI cC cZ : ClassId) (q : Nat) (qtx : Nat) (qlw : Nat) (qgp : Nat) (qhm : Nat) (qpcs : Nat) (qdl : Nat) (qdg : Nat) (qdh : Nat) (qdp : Nat) (qnw : Nat) (qps : Nat) (qim : Nat) (qisd : Nat) (qkp : Nat) (qfd : Nat) (qbk : Nat) (qal : Nat) (qco : Nat) (ln : Nat) (fa : Int32) (dr : Int32) (dn : Nat) (sd : Int32) (fn : Nat) (en : Nat) (at_ : Nat) (wr : Nat) (pl : Int32) (yd : Int32) (wy : Int32) (pce_ : Int32) (tl : Int32) (lw : Nat → Int32) (P : Nat) (gr : Int32) (wd : Nat) (g : Nat) (wk : Nat) (k : Int32) (hPl : P ≤ 60) (hg : g ≤ 8) (hwk : wk ≤ 4) (hwd : wd ≤ 50) (hl0 : lw 0 = nI P) (hl1 : lw 1 = gr) (hl2 : lw 2 = nI wd) (hl3 : lw 3 = nI g) (hl4 : lw 4 = nI wk) : CI l G (tys3 cI cC cZ) yX10_isGap cX10_isGap 2 (some .boolean) ({ frames := 1, cells := 0, slots := 0, locals := 22 }) [.ref q, .int k] [(q, .inr (10, [.ref qtx, .int (nI ln), .int fa, .ref qlw, .ref qgp, .ref qhm, .ref qpcs, .ref qdl, .ref qdg, .ref qdh, .ref qdp, .int dr, .int tl, .ref qnw, .ref qps, .int (nI dn), .ref qim, .ref qisd, .ref qkp, .int sd, .ref qfd, .int (nI fn), .ref qbk, .int (nI en), .int (nI at_), .int (nI wr), .int pl, .int yd, .int wy, .int pce_, .ref qal, .ref qco])), (qlw, .inl (cI, 5, .inl lw))] (S := Unit) (fun (r : Int32) (u : Unit) => r = bI (inB k g)) (fun _ => [(q, .inr (10, [.ref qtx, .int (nI ln), .int fa, .ref qlw, .ref qgp, .ref qhm, .ref qpcs, .ref qdl, .ref qdg, .ref qdh, .ref qdp, .int dr, .int tl, .ref qnw, .ref qps, .int (nI dn), .ref qim, .ref qisd, .ref qkp, .int sd, .ref qfd, .int (nI fn), .ref qbk, .int (nI en), .int (nI at_), .int (nI wr), .int pl, .int yd, .int wy, .int pce_, .ref qal, .ref qco])), (qlw, .inl (cI, 5, .inl lw))]) := by
  refine CI.intro (by decide) (Nat.le_of_ble_eq_true rfl) ?_
  intro p0 e0 s0 m0 ar0 be0 me0 c0 A0 X hr
  refine J_iload_n (pc := 0) X 1 dX10_isGap_0 rfl ?_
  refine J_iconst (pc := 1) X 0 dX10_isGap_1 (by decide) ?_
  refine J_aload_n (pc := 2) X 0 dX10_isGap_2 rfl ?_
  refine J_get (pc := 3) X clX10 0 3 rfl (by decide) g892 rfl dX10_isGap_3 ?_
  refine J_iconst (pc := 6) X 3 dX10_isGap_6 (by decide) ?_
  refine J_iald (pc := 7) X 1 0 3 rfl rfl rfl (by decide) (by decide) dX10_isGap_7 ?_
  refine J_top (y := nI g) hl3 ?_
  refine J_iconst (pc := 8) X 1 dX10_isGap_8 (by decide) ?_
  refine J_isub (pc := 9) X dX10_isGap_9 ?_
  refine J_callS (pc := 10) (As := [.int k, .int 0, .int ((nI g) - 1)]) (rest := []) X mtX10_in g990 [] (kX10_in l G cI cC cZ k 0 ((nI g) - 1) ) ⟨Nat.le_of_ble_eq_true rfl, Nat.le_of_ble_eq_true rfl⟩ rfl rfl rfl (by decide) rfl rfl (Nat.le_of_ble_eq_true rfl) (Nat.zero_le _) (Nat.zero_le _) dX10_isGap_10 (fun r_1 u_2 w_3 => ?_)
  try dsimp only at w_3
  subst w_3
  refine J_zret (pc := 13) X hr () bI_nar dX10_isGap_13 ?_ rfl
  exact bI_congr (wIn_inB (by omega))
set_option maxRecDepth 100000 in
set_option maxHeartbeats 600000 in
theorem kX10_isWalker (l : Launch) (G : va_G) (cI cC cZ : ClassId) (q : Nat) (qtx : Nat) (qlw : Nat) (qgp : Nat) (qhm : Nat) (qpcs : Nat) (qdl : Nat) (qdg : Nat) (qdh : Nat) (qdp : Nat) (qnw : Nat) (qps : Nat) (qim : Nat) (qisd : Nat) (qkp : Nat) (qfd : Nat) (qbk : Nat) (qal : Nat) (qco : Nat) (ln : Nat) (fa : Int32) (dr : Int32) (dn : Nat) (sd : Int32) (fn : Nat) (en : Nat) (at_ : Nat) (wr : Nat) (pl : Int32) (yd : Int32) (wy : Int32) (pce_ : Int32) (tl : Int32) (lw : Nat → Int32) (P : Nat) (gr : Int32) (wd : Nat) (g : Nat) (wk : Nat) (k : Int32) (hPl : P ≤ 60) (hg : g ≤ 8) (hwk : wk ≤ 4) (hwd : wd ≤ 50) (hl0 : lw 0 = nI P) (hl1 : lw 1 = gr) (hl2 : lw 2 = nI wd) (hl3 : lw 3 = nI g) (hl4 : lw 4 = nI wk) : CI l G (tys3 cI cC cZ) yX10_isWalker cX10_isWalker 2 (some .boolean) ({ frames := 1, cells := 0, slots := 0, locals := 22 }) [.ref q, .int k] [(q, .inr (10, [.ref qtx, .int (nI ln), .int fa, .ref qlw, .ref qgp, .ref qhm, .ref qpcs, .ref qdl, .ref qdg, .ref qdh, .ref qdp, .int dr, .int tl, .ref qnw, .ref qps, .int (nI dn), .ref qim, .ref qisd, .ref qkp, .int sd, .ref qfd, .int (nI fn), .ref qbk, .int (nI en), .int (nI at_), .int (nI wr), .int pl, .int yd, .int wy, .int pce_, .ref qal, .ref qco])), (qlw, .inl (cI, 5, .inl lw))] (S := Unit) (fun (r : Int32) (u : Unit) => r = bI (inB k wk)) (fun _ => [(q, .inr (10, [.ref qtx, .int (nI ln), .int fa, .ref qlw, .ref qgp, .ref qhm, .ref qpcs, .ref qdl, .ref qdg, .ref qdh, .ref qdp, .int dr, .int tl, .ref qnw, .ref qps, .int (nI dn), .ref qim, .ref qisd, .ref qkp, .int sd, .ref qfd, .int (nI fn), .ref qbk, .int (nI en), .int (nI at_), .int (nI wr), .int pl, .int yd, .int wy, .int pce_, .ref qal, .ref qco])), (qlw, .inl (cI, 5, .inl lw))]) := by
  refine CI.intro (by decide) (Nat.le_of_ble_eq_true rfl) ?_
  intro p0 e0 s0 m0 ar0 be0 me0 c0 A0 X hr
  refine J_iload_n (pc := 0) X 1 dX10_isWalker_0 rfl ?_
  refine J_iconst (pc := 1) X 0 dX10_isWalker_1 (by decide) ?_
  refine J_aload_n (pc := 2) X 0 dX10_isWalker_2 rfl ?_
  refine J_get (pc := 3) X clX10 0 3 rfl (by decide) g892 rfl dX10_isWalker_3 ?_
  refine J_iconst (pc := 6) X 4 dX10_isWalker_6 (by decide) ?_
  refine J_iald (pc := 7) X 1 0 4 rfl rfl rfl (by decide) (by decide) dX10_isWalker_7 ?_
  refine J_top (y := nI wk) hl4 ?_
  refine J_iconst (pc := 8) X 1 dX10_isWalker_8 (by decide) ?_
  refine J_isub (pc := 9) X dX10_isWalker_9 ?_
  refine J_callS (pc := 10) (As := [.int k, .int 0, .int ((nI wk) - 1)]) (rest := []) X mtX10_in g990 [] (kX10_in l G cI cC cZ k 0 ((nI wk) - 1) ) ⟨Nat.le_of_ble_eq_true rfl, Nat.le_of_ble_eq_true rfl⟩ rfl rfl rfl (by decide) rfl rfl (Nat.le_of_ble_eq_true rfl) (Nat.zero_le _) (Nat.zero_le _) dX10_isWalker_10 (fun r_1 u_2 w_3 => ?_)
  try dsimp only at w_3
  subst w_3
  refine J_zret (pc := 13) X hr () bI_nar dX10_isWalker_13 ?_ rfl
  exact bI_congr (wIn_inB (by omega))
set_option maxRecDepth 100000 in
set_option maxHeartbeats 600000 in
theorem kX10_isHouse (l : Launch) (G : va_G) (cI cC cZ : ClassId) (q : Nat) (qtx : Nat) (qlw : Nat) (qgp : Nat) (qhm : Nat) (qpcs : Nat) (qdl : Nat) (qdg : Nat) (qdh : Nat) (qdp : Nat) (qnw : Nat) (qps : Nat) (qim : Nat) (qisd : Nat) (qkp : Nat) (qfd : Nat) (qbk : Nat) (qal : Nat) (qco : Nat) (ln : Nat) (fa : Int32) (dr : Int32) (dn : Nat) (sd : Int32) (fn : Nat) (en : Nat) (at_ : Nat) (wr : Nat) (pl : Int32) (yd : Int32) (wy : Int32) (pce_ : Int32) (tl : Int32) (lw : Nat → Int32) (P : Nat) (gr : Int32) (wd : Nat) (g : Nat) (wk : Nat) (k : Int32) (hs : Nat) (hPl : P ≤ 60) (hg : g ≤ 8) (hwk : wk ≤ 4) (hwd : wd ≤ 50) (hl0 : lw 0 = nI P) (hl1 : lw 1 = gr) (hl2 : lw 2 = nI wd) (hl3 : lw 3 = nI g) (hl4 : lw 4 = nI wk) (hhs : (g = 0 ∧ hs = 0) ∨ (0 < g ∧ hs = g + 1)) : CI l G (tys3 cI cC cZ) yX10_isHouse cX10_isHouse 2 (some .boolean) ({ frames := 1, cells := 0, slots := 0, locals := 22 }) [.ref q, .int k] [(q, .inr (10, [.ref qtx, .int (nI ln), .int fa, .ref qlw, .ref qgp, .ref qhm, .ref qpcs, .ref qdl, .ref qdg, .ref qdh, .ref qdp, .int dr, .int tl, .ref qnw, .ref qps, .int (nI dn), .ref qim, .ref qisd, .ref qkp, .int sd, .ref qfd, .int (nI fn), .ref qbk, .int (nI en), .int (nI at_), .int (nI wr), .int pl, .int yd, .int wy, .int pce_, .ref qal, .ref qco])), (qlw, .inl (cI, 5, .inl lw))] (S := Unit) (fun (r : Int32) (u : Unit) => r = bI (inB k hs)) (fun _ => [(q, .inr (10, [.ref qtx, .int (nI ln), .int fa, .ref qlw, .ref qgp, .ref qhm, .ref qpcs, .ref qdl, .ref qdg, .ref qdh, .ref qdp, .int dr, .int tl, .ref qnw, .ref qps, .int (nI dn), .ref qim, .ref qisd, .ref qkp, .int sd, .ref qfd, .int (nI fn), .ref qbk, .int (nI en), .int (nI at_), .int (nI wr), .int pl, .int yd, .int wy, .int pce_, .ref qal, .ref qco])), (qlw, .inl (cI, 5, .inl lw))]) := by
  refine CI.intro (by decide) (Nat.le_of_ble_eq_true rfl) ?_
  intro p0 e0 s0 m0 ar0 be0 me0 c0 A0 X hr
  refine J_iload_n (pc := 0) X 1 dX10_isHouse_0 rfl ?_
  refine J_iconst (pc := 1) X 0 dX10_isHouse_1 (by decide) ?_
  refine J_aload_n (pc := 2) X 0 dX10_isHouse_2 rfl ?_
  refine J_callR (pc := 3) (As := []) (rest := [.int 0, .int k]) X mtX10_houses g1054 [0, 1] 0 (kX10_houses l G cI cC cZ q qtx qlw qgp qhm qpcs qdl qdg qdh qdp qnw qps qim qisd qkp qfd qbk qal qco ln fa dr dn sd fn en at_ wr pl yd wy pce_ tl lw P gr wd g wk hs (by first | assumption | omega) (by first | assumption | omega) (by first | assumption | omega) (by first | assumption | omega) (by first | assumption | omega) (by first | assumption | omega) (by first | assumption | omega) (by first | assumption | omega) (by first | assumption | omega) (by first | assumption | omega)) ⟨Nat.le_of_ble_eq_true rfl, Nat.le_of_ble_eq_true rfl⟩ rfl rfl rfl (by decide) rfl rfl rfl rfl rfl (Nat.le_of_ble_eq_true rfl) (Nat.zero_le _) (Nat.zero_le _) dX10_isHouse_3 (fun r_1 u_2 w_3 => ?_)
  try dsimp only at w_3
  subst w_3
  refine J_iconst (pc := 6) X 1 dX10_isHouse_6 (by decide) ?_
  refine J_isub (pc := 7) X dX10_isHouse_7 ?_
  refine J_callS (pc := 8) (As := [.int k, .int 0, .int ((nI hs) - 1)]) (rest := []) X mtX10_in g990 [] (kX10_in l G cI cC cZ k 0 ((nI hs) - 1) ) ⟨Nat.le_of_ble_eq_true rfl, Nat.le_of_ble_eq_true rfl⟩ rfl rfl rfl (by decide) rfl rfl (Nat.le_of_ble_eq_true rfl) (Nat.zero_le _) (Nat.zero_le _) dX10_isHouse_8 (fun r_4 u_5 w_6 => ?_)
  try dsimp only at w_6
  subst w_6
  refine J_zret (pc := 11) X hr () bI_nar dX10_isHouse_11 ?_ rfl
  exact bI_congr (wIn_inB (by omega))
set_option maxRecDepth 100000 in
set_option maxHeartbeats 600000 in
theorem kX10_yardsBy (l : Launch) (G : va_G) (cI cC cZ : ClassId) (q : Nat) (qtx : Nat) (qlw : Nat) (qgp : Nat) (qhm : Nat) (qpcs : Nat) (qdl : Nat) (qdg : Nat) (qdh : Nat) (qdp : Nat) (qnw : Nat) (qps : Nat) (qim : Nat) (qisd : Nat) (qkp : Nat) (qfd : Nat) (qbk : Nat) (qal : Nat) (qco : Nat) (ln : Nat) (fa : Int32) (dr : Int32) (dn : Nat) (sd : Int32) (fn : Nat) (en : Nat) (at_ : Nat) (wr : Nat) (pl : Int32) (yd : Int32) (wy : Int32) (pce_ : Int32) (tl : Int32) (lw : Nat → Int32) (gp : Nat → Int32) (P : Nat) (gr : Int32) (wd : Nat) (g : Nat) (wk : Nat) (kn : Nat) (gw : Int32) (t : Int32) (hPl : P ≤ 60) (hg : g ≤ 8) (hwk : wk ≤ 4) (hwd : wd ≤ 50) (hl0 : lw 0 = nI P) (hl1 : lw 1 = gr) (hl2 : lw 2 = nI wd) (hl3 : lw 3 = nI g) (hl4 : lw 4 = nI wk) (hkn : kn < g) (hP0 : 0 < P) : CI l G (tys3 cI cC cZ) yX10_yardsBy cX10_yardsBy 5 (some .int) ({ frames := 1, cells := 0, slots := 0, locals := 21 }) [.ref q, .int (nI kn), .int gw, .int t] [(q, .inr (10, [.ref qtx, .int (nI ln), .int fa, .ref qlw, .ref qgp, .ref qhm, .ref qpcs, .ref qdl, .ref qdg, .ref qdh, .ref qdp, .int dr, .int tl, .ref qnw, .ref qps, .int (nI dn), .ref qim, .ref qisd, .ref qkp, .int sd, .ref qfd, .int (nI fn), .ref qbk, .int (nI en), .int (nI at_), .int (nI wr), .int pl, .int yd, .int wy, .int pce_, .ref qal, .ref qco])), (qlw, .inl (cI, 5, .inl lw)), (qgp, .inl (cI, 8, .inl gp))] (S := Unit) (fun (r : Int32) (u : Unit) => r = yG P (gp kn) gw t) (fun _ => [(q, .inr (10, [.ref qtx, .int (nI ln), .int fa, .ref qlw, .ref qgp, .ref qhm, .ref qpcs, .ref qdl, .ref qdg, .ref qdh, .ref qdp, .int dr, .int tl, .ref qnw, .ref qps, .int (nI dn), .ref qim, .ref qisd, .ref qkp, .int sd, .ref qfd, .int (nI fn), .ref qbk, .int (nI en), .int (nI at_), .int (nI wr), .int pl, .int yd, .int wy, .int pce_, .ref qal, .ref qco])), (qlw, .inl (cI, 5, .inl lw)), (qgp, .inl (cI, 8, .inl gp))]) := by
  refine CI.intro (by decide) (Nat.le_of_ble_eq_true rfl) ?_
  intro p0 e0 s0 m0 ar0 be0 me0 c0 A0 X hr
  refine J_iload_n (pc := 0) X 3 dX10_yardsBy_0 rfl ?_
  refine J_iconst (pc := 1) X 2 dX10_yardsBy_1 (by decide) ?_
  refine J_aload_n (pc := 2) X 0 dX10_yardsBy_2 rfl ?_
  refine J_get (pc := 3) X clX10 0 3 rfl (by decide) g892 rfl dX10_yardsBy_3 ?_
  refine J_iconst (pc := 6) X 0 dX10_yardsBy_6 (by decide) ?_
  refine J_iald (pc := 7) X 1 0 0 rfl rfl rfl (by decide) (by decide) dX10_yardsBy_7 ?_
  refine J_top (y := nI P) hl0 ?_
  refine J_imul (pc := 8) X dX10_yardsBy_8 ?_
  refine J_top (y := nI (2 * P)) (n_mul (x := 2) (y := P) rfl rfl (by omega)) ?_
  refine J_irem (pc := 9) X dX10_yardsBy_9 (nz_nI (by omega) (by omega)) ?_
  refine J_istore (pc := 10) X [(4, .int (t - t / (nI (2 * P)) * (nI (2 * P)))), (0, .ref q), (1, .int (nI kn)), (2, .int gw), (3, .int t)] dX10_yardsBy_10 (by decide) rfl ?_
  refine J_aload_n (pc := 12) X 1 dX10_yardsBy_12 rfl ?_
  refine J_get (pc := 13) X clX10 0 4 rfl (by decide) g893 rfl dX10_yardsBy_13 ?_
  refine J_iload_n (pc := 16) X 2 dX10_yardsBy_16 rfl ?_
  refine J_iald (pc := 17) X 2 0 kn rfl rfl rfl (by omega) (by decide) dX10_yardsBy_17 ?_
  refine J_iload_n (pc := 18) X 3 dX10_yardsBy_18 rfl ?_
  refine J_iload (pc := 19) X 0 dX10_yardsBy_19 rfl ?_
  refine J_iconst (pc := 21) X 2 dX10_yardsBy_21 (by decide) ?_
  refine J_aload_n (pc := 22) X 1 dX10_yardsBy_22 rfl ?_
  refine J_get (pc := 23) X clX10 0 3 rfl (by decide) g892 rfl dX10_yardsBy_23 ?_
  refine J_iconst (pc := 26) X 0 dX10_yardsBy_26 (by decide) ?_
  refine J_iald (pc := 27) X 1 0 0 rfl rfl rfl (by decide) (by decide) dX10_yardsBy_27 ?_
  refine J_top (y := nI P) hl0 ?_
  refine J_imul (pc := 28) X dX10_yardsBy_28 ?_
  refine J_top (y := nI (2 * P)) (n_mul (x := 2) (y := P) rfl rfl (by omega)) ?_
  refine J_iload (pc := 29) X 0 dX10_yardsBy_29 rfl ?_
  refine J_isub (pc := 31) X dX10_yardsBy_31 ?_
  refine J_callS (pc := 32) (As := [.int (t - t / (nI (2 * P)) * (nI (2 * P))), .int ((nI (2 * P)) - (t - t / (nI (2 * P)) * (nI (2 * P))))]) (rest := [.int gw, .int (gp kn)]) X mtX10_lesser g1075 [] (kX10_lesser l G cI cC cZ (t - t / (nI (2 * P)) * (nI (2 * P))) ((nI (2 * P)) - (t - t / (nI (2 * P)) * (nI (2 * P)))) ) ⟨Nat.le_of_ble_eq_true rfl, Nat.le_of_ble_eq_true rfl⟩ rfl rfl rfl (by decide) rfl rfl (Nat.le_of_ble_eq_true rfl) (Nat.zero_le _) (Nat.zero_le _) dX10_yardsBy_32 (fun r_1 u_2 w_3 => ?_)
  try dsimp only at w_3
  subst w_3
  refine J_imul (pc := 35) X dX10_yardsBy_35 ?_
  refine J_bipush (pc := 36) X 10 dX10_yardsBy_36 (by decide) ?_
  refine J_idiv (pc := 38) X dX10_yardsBy_38 (by decide) ?_
  refine J_iadd (pc := 39) X dX10_yardsBy_39 ?_
  refine J_iret (pc := 40) X hr () dX10_yardsBy_40 ?_ rfl
  rfl
set_option maxRecDepth 100000 in
set_option maxHeartbeats 600000 in
theorem kX10_yardsOf (l : Launch) (G : va_G) (cI cC cZ : ClassId) (q : Nat) (qtx : Nat) (qlw : Nat) (qgp : Nat) (qhm : Nat) (qpcs : Nat) (qdl : Nat) (qdg : Nat) (qdh : Nat) (qdp : Nat) (qnw : Nat) (qps : Nat) (qim : Nat) (qisd : Nat) (qkp : Nat) (qfd : Nat) (qbk : Nat) (qal : Nat) (qco : Nat) (ln : Nat) (fa : Int32) (dr : Int32) (dn : Nat) (sd : Int32) (fn : Nat) (en : Nat) (at_ : Nat) (wr : Nat) (pl : Int32) (yd : Int32) (wy : Int32) (pce_ : Int32) (tl : Int32) (lw : Nat → Int32) (gp : Nat → Int32) (P : Nat) (gr : Int32) (wd : Nat) (g : Nat) (wk : Nat) (kn : Nat) (t : Int32) (hPl : P ≤ 60) (hg : g ≤ 8) (hwk : wk ≤ 4) (hwd : wd ≤ 50) (hl0 : lw 0 = nI P) (hl1 : lw 1 = gr) (hl2 : lw 2 = nI wd) (hl3 : lw 3 = nI g) (hl4 : lw 4 = nI wk) (hkn : kn < g) (hP0 : 0 < P) : CI l G (tys3 cI cC cZ) yX10_yardsOf cX10_yardsOf 3 (some .int) ({ frames := 2, cells := 0, slots := 0, locals := 45 }) [.ref q, .int (nI kn), .int t] [(q, .inr (10, [.ref qtx, .int (nI ln), .int fa, .ref qlw, .ref qgp, .ref qhm, .ref qpcs, .ref qdl, .ref qdg, .ref qdh, .ref qdp, .int dr, .int tl, .ref qnw, .ref qps, .int (nI dn), .ref qim, .ref qisd, .ref qkp, .int sd, .ref qfd, .int (nI fn), .ref qbk, .int (nI en), .int (nI at_), .int (nI wr), .int pl, .int yd, .int wy, .int pce_, .ref qal, .ref qco])), (qlw, .inl (cI, 5, .inl lw)), (qgp, .inl (cI, 8, .inl gp))] (S := Unit) (fun (r : Int32) (u : Unit) => r = yG P (gp kn) gr t) (fun _ => [(q, .inr (10, [.ref qtx, .int (nI ln), .int fa, .ref qlw, .ref qgp, .ref qhm, .ref qpcs, .ref qdl, .ref qdg, .ref qdh, .ref qdp, .int dr, .int tl, .ref qnw, .ref qps, .int (nI dn), .ref qim, .ref qisd, .ref qkp, .int sd, .ref qfd, .int (nI fn), .ref qbk, .int (nI en), .int (nI at_), .int (nI wr), .int pl, .int yd, .int wy, .int pce_, .ref qal, .ref qco])), (qlw, .inl (cI, 5, .inl lw)), (qgp, .inl (cI, 8, .inl gp))]) := by
  refine CI.intro (by decide) (Nat.le_of_ble_eq_true rfl) ?_
  intro p0 e0 s0 m0 ar0 be0 me0 c0 A0 X hr
  refine J_aload_n (pc := 0) X 0 dX10_yardsOf_0 rfl ?_
  refine J_iload_n (pc := 1) X 1 dX10_yardsOf_1 rfl ?_
  refine J_aload_n (pc := 2) X 0 dX10_yardsOf_2 rfl ?_
  refine J_get (pc := 3) X clX10 0 3 rfl (by decide) g892 rfl dX10_yardsOf_3 ?_
  refine J_iconst (pc := 6) X 1 dX10_yardsOf_6 (by decide) ?_
  refine J_iald (pc := 7) X 1 0 1 rfl rfl rfl (by decide) (by decide) dX10_yardsOf_7 ?_
  refine J_top (y := gr) hl1 ?_
  refine J_iload_n (pc := 8) X 2 dX10_yardsOf_8 rfl ?_
  refine J_callR (pc := 9) (As := [.int (nI kn), .int gr, .int t]) (rest := []) X mtX10_yardsBy g1071 [0, 1, 2] 0 (kX10_yardsBy l G cI cC cZ q qtx qlw qgp qhm qpcs qdl qdg qdh qdp qnw qps qim qisd qkp qfd qbk qal qco ln fa dr dn sd fn en at_ wr pl yd wy pce_ tl lw gp P gr wd g wk kn gr t (by first | assumption | omega) (by first | assumption | omega) (by first | assumption | omega) (by first | assumption | omega) (by first | assumption | omega) (by first | assumption | omega) (by first | assumption | omega) (by first | assumption | omega) (by first | assumption | omega) (by first | assumption | omega) (by first | assumption | omega)) ⟨Nat.le_of_ble_eq_true rfl, Nat.le_of_ble_eq_true rfl⟩ rfl rfl rfl (by decide) rfl rfl rfl rfl rfl (Nat.le_of_ble_eq_true rfl) (Nat.zero_le _) (Nat.zero_le _) dX10_yardsOf_9 (fun r_1 u_2 w_3 => ?_)
  try dsimp only at w_3
  subst w_3
  refine J_iret (pc := 12) X hr () dX10_yardsOf_12 ?_ rfl
  rfl
set_option maxRecDepth 100000 in
set_option maxHeartbeats 600000 in
theorem kX10_nightHouses (l : Launch) (G : va_G) (cI cC cZ : ClassId) (q : Nat) (qtx : Nat) (qlw : Nat) (qgp : Nat) (qhm : Nat) (qpcs : Nat) (qdl : Nat) (qdg : Nat) (qdh : Nat) (qdp : Nat) (qnw : Nat) (qps : Nat) (qim : Nat) (qisd : Nat) (qkp : Nat) (qfd : Nat) (qbk : Nat) (qal : Nat) (qco : Nat) (ln : Nat) (fa : Int32) (dr : Int32) (dn : Nat) (sd : Int32) (fn : Nat) (en : Nat) (at_ : Nat) (wr : Nat) (pl : Int32) (yd : Int32) (wy : Int32) (pce_ : Int32) (tl : Int32) (lw : Nat → Int32) (P : Nat) (gr : Int32) (wd : Nat) (g : Nat) (wk : Nat) (y : Int32) (hPl : P ≤ 60) (hg : g ≤ 8) (hwk : wk ≤ 4) (hwd : wd ≤ 50) (hl0 : lw 0 = nI P) (hl1 : lw 1 = gr) (hl2 : lw 2 = nI wd) (hl3 : lw 3 = nI g) (hl4 : lw 4 = nI wk) (hwd0 : 0 < wd) : CI l G (tys3 cI cC cZ) yX10_nightHouses cX10_nightHouses 3 (some .int) ({ frames := 0, cells := 0, slots := 0, locals := 0 }) [.ref q, .int y] [(q, .inr (10, [.ref qtx, .int (nI ln), .int fa, .ref qlw, .ref qgp, .ref qhm, .ref qpcs, .ref qdl, .ref qdg, .ref qdh, .ref qdp, .int dr, .int tl, .ref qnw, .ref qps, .int (nI dn), .ref qim, .ref qisd, .ref qkp, .int sd, .ref qfd, .int (nI fn), .ref qbk, .int (nI en), .int (nI at_), .int (nI wr), .int pl, .int yd, .int wy, .int pce_, .ref qal, .ref qco])), (qlw, .inl (cI, 5, .inl lw))] (S := Unit) (fun (r : Int32) (u : Unit) => r = nH wd y) (fun _ => [(q, .inr (10, [.ref qtx, .int (nI ln), .int fa, .ref qlw, .ref qgp, .ref qhm, .ref qpcs, .ref qdl, .ref qdg, .ref qdh, .ref qdp, .int dr, .int tl, .ref qnw, .ref qps, .int (nI dn), .ref qim, .ref qisd, .ref qkp, .int sd, .ref qfd, .int (nI fn), .ref qbk, .int (nI en), .int (nI at_), .int (nI wr), .int pl, .int yd, .int wy, .int pce_, .ref qal, .ref qco])), (qlw, .inl (cI, 5, .inl lw))]) := by
  refine CI.intro (by decide) (Nat.le_of_ble_eq_true rfl) ?_
  intro p0 e0 s0 m0 ar0 be0 me0 c0 A0 X hr
  refine J_iload_n (pc := 0) X 1 dX10_nightHouses_0 rfl ?_
  refine J_aload_n (pc := 1) X 0 dX10_nightHouses_1 rfl ?_
  refine J_get (pc := 2) X clX10 0 3 rfl (by decide) g892 rfl dX10_nightHouses_2 ?_
  refine J_iconst (pc := 5) X 2 dX10_nightHouses_5 (by decide) ?_
  refine J_iald (pc := 6) X 1 0 2 rfl rfl rfl (by decide) (by decide) dX10_nightHouses_6 ?_
  refine J_top (y := nI wd) hl2 ?_
  refine J_idiv (pc := 7) X dX10_nightHouses_7 (nz_nI (by omega) (by omega)) ?_
  refine J_iconst (pc := 8) X 1 dX10_nightHouses_8 (by decide) ?_
  refine J_isub (pc := 9) X dX10_nightHouses_9 ?_
  refine J_istore_n (pc := 10) X [(2, .int ((y / (nI wd)) - 1)), (0, .ref q), (1, .int y)] dX10_nightHouses_10 (by decide) rfl ?_
  refine J_iload_n (pc := 11) X 0 dX10_nightHouses_11 rfl ?_
  refine J_if_ge (pc := 12) X 19 dX10_nightHouses_12 (by decide) (fun c_1 => ?_) (fun c_1 => ?_)
  · have c_1 := Int32.not_lt.mpr c_1
    refine J_iload_n (pc := 19) X 0 dX10_nightHouses_19 rfl ?_
    refine J_iret (pc := 20) X hr () dX10_nightHouses_20 ?_ rfl
    first | exact nH_neg (by assumption) | exact nH_pos (by assumption)
  · have c_1 := Int32.not_le.mp c_1
    refine J_iconst (pc := 15) X 0 dX10_nightHouses_15 (by decide) ?_
    refine J_goto (pc := 16) X 20 dX10_nightHouses_16 (by decide) ?_
    refine J_iret (pc := 20) X hr () dX10_nightHouses_20 ?_ rfl
    first | exact nH_neg (by assumption) | exact nH_pos (by assumption)
