set_option maxRecDepth 100000 in
set_option maxHeartbeats 600000 in
theorem kX10_draw (l : Launch) (G : va_G) (cI cC cZ : ClassId) (q : Nat) (qtx : Nat) (qlw : Nat) (qgp : Nat) (qhm : Nat) (qpcs : Nat) (qdl : Nat) (qdg : Nat) (qdh : Nat) (qdp : Nat) (qnw : Nat) (qps : Nat) (qim : Nat) (qisd : Nat) (qkp : Nat) (qfd : Nat) (qbk : Nat) (qal : Nat) (qco : Nat) (ln : Nat) (fa : Int32) (dr : Int32) (dn : Nat) (sd : Int32) (fn : Nat) (en : Nat) (at_ : Nat) (wr : Nat) (pl : Int32) (yd : Int32) (wy : Int32) (pce_ : Int32) (tl : Int32) : CI l G (tys3 cI cC cZ) yX10_draw cX10_draw 2 (some .int) ({ frames := 0, cells := 0, slots := 0, locals := 0 }) [.ref q, .int 4] [(q, .inr (10, [.ref qtx, .int (nI ln), .int fa, .ref qlw, .ref qgp, .ref qhm, .ref qpcs, .ref qdl, .ref qdg, .ref qdh, .ref qdp, .int dr, .int tl, .ref qnw, .ref qps, .int (nI dn), .ref qim, .ref qisd, .ref qkp, .int sd, .ref qfd, .int (nI fn), .ref qbk, .int (nI en), .int (nI at_), .int (nI wr), .int pl, .int yd, .int wy, .int pce_, .ref qal, .ref qco]))] (S := Unit) (fun (r : Int32) (u : Unit) => r = drw sd) (fun (u : Unit) => [(q, .inr (10, [.ref qtx, .int (nI ln), .int fa, .ref qlw, .ref qgp, .ref qhm, .ref qpcs, .ref qdl, .ref qdg, .ref qdh, .ref qdp, .int dr, .int tl, .ref qnw, .ref qps, .int (nI dn), .ref qim, .ref qisd, .ref qkp, .int (rnd sd), .ref qfd, .int (nI fn), .ref qbk, .int (nI en), .int (nI at_), .int (nI wr), .int pl, .int yd, .int wy, .int pce_, .ref qal, .ref qco]))]) := by
  refine CI.intro (by decide) (Nat.le_of_ble_eq_true rfl) ?_
  intro p0 e0 s0 m0 ar0 be0 me0 c0 A0 X hr
  refine J_aload_n (pc := 0) X 0 dX10_draw_0 rfl ?_
  refine J_aload_n (pc := 1) X 0 dX10_draw_1 rfl ?_
  refine J_get (pc := 2) X clX10 0 19 rfl (by decide) g908 rfl dX10_draw_2 ?_
  refine J_i2l (pc := 5) X dX10_draw_5 ?_
  refine J_ldc2 (pc := 6) X g1147 dX10_draw_6 ?_
  refine J_lmul (pc := 9) X dX10_draw_9 ?_
  refine J_ldc2 (pc := 10) X g1148 dX10_draw_10 ?_
  refine J_ladd (pc := 13) X dX10_draw_13 ?_
  refine J_ldc2 (pc := 14) X g1149 dX10_draw_14 ?_
  refine J_land (pc := 17) X dX10_draw_17 ?_
  refine J_l2i (pc := 18) X dX10_draw_18 ?_
  refine J_put (pc := 19) X clX10 0 19 [(q, .inr (10, [.ref qtx, .int (nI ln), .int fa, .ref qlw, .ref qgp, .ref qhm, .ref qpcs, .ref qdl, .ref qdg, .ref qdh, .ref qdp, .int dr, .int tl, .ref qnw, .ref qps, .int (nI dn), .ref qim, .ref qisd, .ref qkp, .int ((((sd.toInt64 * 1103515245) + 12345) &&& 2147483647).toInt32), .ref qfd, .int (nI fn), .ref qbk, .int (nI en), .int (nI at_), .int (nI wr), .int pl, .int yd, .int wy, .int pce_, .ref qal, .ref qco]))] rfl (by decide) g908 rfl rfl rfl (Nat.le_of_ble_eq_true rfl) rfl dX10_draw_19 ?_
  refine J_aload_n (pc := 22) X 0 dX10_draw_22 rfl ?_
  refine J_get (pc := 23) X clX10 0 19 rfl (by decide) g908 rfl dX10_draw_23 ?_
  refine J_ldc (pc := 26) X g1150 dX10_draw_26 ?_
  refine J_idiv (pc := 28) X dX10_draw_28 (by decide) ?_
  refine J_iload_n (pc := 29) X 1 dX10_draw_29 rfl ?_
  refine J_irem (pc := 30) X dX10_draw_30 (by decide) ?_
  refine J_iret (pc := 31) X hr () dX10_draw_31 ?_ rfl
  rfl
set_option maxRecDepth 100000 in
set_option maxHeartbeats 600000 in
theorem kX10_fault (l : Launch) (G : va_G) (cI cC cZ : ClassId) (q : Nat) (qtx : Nat) (qlw : Nat) (qgp : Nat) (qhm : Nat) (qpcs : Nat) (qdl : Nat) (qdg : Nat) (qdh : Nat) (qdp : Nat) (qnw : Nat) (qps : Nat) (qim : Nat) (qisd : Nat) (qkp : Nat) (qfd : Nat) (qbk : Nat) (qal : Nat) (qco : Nat) (ln : Nat) (fa : Int32) (dr : Int32) (dn : Nat) (sd : Int32) (fn : Nat) (en : Nat) (at_ : Nat) (wr : Nat) (pl : Int32) (yd : Int32) (wy : Int32) (pce_ : Int32) (tl : Int32) : CI l G (tys3 cI cC cZ) yX10_fault cX10_fault 1 (some .int) ({ frames := 0, cells := 0, slots := 0, locals := 0 }) [.ref q] [(q, .inr (10, [.ref qtx, .int (nI ln), .int fa, .ref qlw, .ref qgp, .ref qhm, .ref qpcs, .ref qdl, .ref qdg, .ref qdh, .ref qdp, .int dr, .int tl, .ref qnw, .ref qps, .int (nI dn), .ref qim, .ref qisd, .ref qkp, .int sd, .ref qfd, .int (nI fn), .ref qbk, .int (nI en), .int (nI at_), .int (nI wr), .int pl, .int yd, .int wy, .int pce_, .ref qal, .ref qco]))] (S := Unit) (fun (r : Int32) (u : Unit) => r = fa) (fun _ => [(q, .inr (10, [.ref qtx, .int (nI ln), .int fa, .ref qlw, .ref qgp, .ref qhm, .ref qpcs, .ref qdl, .ref qdg, .ref qdh, .ref qdp, .int dr, .int tl, .ref qnw, .ref qps, .int (nI dn), .ref qim, .ref qisd, .ref qkp, .int sd, .ref qfd, .int (nI fn), .ref qbk, .int (nI en), .int (nI at_), .int (nI wr), .int pl, .int yd, .int wy, .int pce_, .ref qal, .ref qco]))]) := by
  refine CI.intro (by decide) (Nat.le_of_ble_eq_true rfl) ?_
  intro p0 e0 s0 m0 ar0 be0 me0 c0 A0 X hr
  refine J_aload_n (pc := 0) X 0 dX10_fault_0 rfl ?_
  refine J_get (pc := 1) X clX10 0 2 rfl (by decide) g891 rfl dX10_fault_1 ?_
  refine J_iret (pc := 4) X hr () dX10_fault_4 ?_ rfl
  rfl
set_option maxRecDepth 100000 in
set_option maxHeartbeats 600000 in
theorem kX10_seed (l : Launch) (G : va_G) (cI cC cZ : ClassId) (q : Nat) (qtx : Nat) (qlw : Nat) (qgp : Nat) (qhm : Nat) (qpcs : Nat) (qdl : Nat) (qdg : Nat) (qdh : Nat) (qdp : Nat) (qnw : Nat) (qps : Nat) (qim : Nat) (qisd : Nat) (qkp : Nat) (qfd : Nat) (qbk : Nat) (qal : Nat) (qco : Nat) (ln : Nat) (fa : Int32) (dr : Int32) (dn : Nat) (sd : Int32) (fn : Nat) (en : Nat) (at_ : Nat) (wr : Nat) (pl : Int32) (yd : Int32) (wy : Int32) (pce_ : Int32) (tl : Int32) (v : Int32) : CI l G (tys3 cI cC cZ) yX10_seed cX10_seed 3 (some .int) ({ frames := 0, cells := 0, slots := 0, locals := 0 }) [.ref q, .int v] [(q, .inr (10, [.ref qtx, .int (nI ln), .int fa, .ref qlw, .ref qgp, .ref qhm, .ref qpcs, .ref qdl, .ref qdg, .ref qdh, .ref qdp, .int dr, .int tl, .ref qnw, .ref qps, .int (nI dn), .ref qim, .ref qisd, .ref qkp, .int sd, .ref qfd, .int (nI fn), .ref qbk, .int (nI en), .int (nI at_), .int (nI wr), .int pl, .int yd, .int wy, .int pce_, .ref qal, .ref qco]))] (S := Int32) (fun (r : Int32) (u : Int32) => r = (if v < 0 then -1000000002 else sd) ∧ u = (if v < 0 then sd else v)) (fun (u : Int32) => [(q, .inr (10, [.ref qtx, .int (nI ln), .int fa, .ref qlw, .ref qgp, .ref qhm, .ref qpcs, .ref qdl, .ref qdg, .ref qdh, .ref qdp, .int dr, .int tl, .ref qnw, .ref qps, .int (nI dn), .ref qim, .ref qisd, .ref qkp, .int u, .ref qfd, .int (nI fn), .ref qbk, .int (nI en), .int (nI at_), .int (nI wr), .int pl, .int yd, .int wy, .int pce_, .ref qal, .ref qco]))]) := by
  refine CI.intro (by decide) (Nat.le_of_ble_eq_true rfl) ?_
  intro p0 e0 s0 m0 ar0 be0 me0 c0 A0 X hr
  refine J_iload_n (pc := 0) X 1 dX10_seed_0 rfl ?_
  refine J_if_ge (pc := 1) X 7 dX10_seed_1 (by decide) (fun c_1 => ?_) (fun c_1 => ?_)
  · have c_1 := Int32.not_lt.mpr c_1
    refine J_aload_n (pc := 7) X 0 dX10_seed_7 rfl ?_
    refine J_get (pc := 8) X clX10 0 19 rfl (by decide) g908 rfl dX10_seed_8 ?_
    refine J_istore_n (pc := 11) X [(2, .int sd), (0, .ref q), (1, .int v)] dX10_seed_11 (by decide) rfl ?_
    refine J_aload_n (pc := 12) X 1 dX10_seed_12 rfl ?_
    refine J_iload_n (pc := 13) X 2 dX10_seed_13 rfl ?_
    refine J_put (pc := 14) X clX10 0 19 [(q, .inr (10, [.ref qtx, .int (nI ln), .int fa, .ref qlw, .ref qgp, .ref qhm, .ref qpcs, .ref qdl, .ref qdg, .ref qdh, .ref qdp, .int dr, .int tl, .ref qnw, .ref qps, .int (nI dn), .ref qim, .ref qisd, .ref qkp, .int v, .ref qfd, .int (nI fn), .ref qbk, .int (nI en), .int (nI at_), .int (nI wr), .int pl, .int yd, .int wy, .int pce_, .ref qal, .ref qco]))] rfl (by decide) g908 rfl rfl rfl (Nat.le_of_ble_eq_true rfl) rfl dX10_seed_14 ?_
    refine J_iload_n (pc := 17) X 0 dX10_seed_17 rfl ?_
    refine J_iret (pc := 18) X hr v dX10_seed_18 ?_ rfl
    first | exact (if_pos (by assumption)).symm | exact (if_neg (by assumption)).symm | (refine ⟨?_, ?_⟩ <;> simp [c_1])
  · have c_1 := Int32.not_le.mp c_1
    refine J_ldc (pc := 4) X g993 dX10_seed_4 ?_
    refine J_iret (pc := 6) X hr sd dX10_seed_6 ?_ rfl
    first | exact (if_pos (by assumption)).symm | exact (if_neg (by assumption)).symm | (refine ⟨?_, ?_⟩ <;> simp [c_1])
set_option maxRecDepth 100000 in
set_option maxHeartbeats 600000 in
theorem kX10_tear (l : Launch) (G : va_G) (cI cC cZ : ClassId) (q : Nat) (qtx : Nat) (qlw : Nat) (qgp : Nat) (qhm : Nat) (qpcs : Nat) (qdl : Nat) (qdg : Nat) (qdh : Nat) (qdp : Nat) (qnw : Nat) (qps : Nat) (qim : Nat) (qisd : Nat) (qkp : Nat) (qfd : Nat) (qbk : Nat) (qal : Nat) (qco : Nat) (ln : Nat) (fa : Int32) (dr : Int32) (dn : Nat) (sd : Int32) (fn : Nat) (en : Nat) (at_ : Nat) (wr : Nat) (pl : Int32) (yd : Int32) (wy : Int32) (pce_ : Int32) (tl : Int32) (hf : fn ≤ 6) (he : en ≤ 20) : CI l G (tys3 cI cC cZ) yX10_tear cX10_tear 2 (some .int) ({ frames := 0, cells := 0, slots := 0, locals := 0 }) [.ref q] [(q, .inr (10, [.ref qtx, .int (nI ln), .int fa, .ref qlw, .ref qgp, .ref qhm, .ref qpcs, .ref qdl, .ref qdg, .ref qdh, .ref qdp, .int dr, .int tl, .ref qnw, .ref qps, .int (nI dn), .ref qim, .ref qisd, .ref qkp, .int sd, .ref qfd, .int (nI fn), .ref qbk, .int (nI en), .int (nI at_), .int (nI wr), .int pl, .int yd, .int wy, .int pce_, .ref qal, .ref qco]))] (S := Unit) (fun (r : Int32) (u : Unit) => r = nI (fn + en)) (fun (u : Unit) => [(q, .inr (10, [.ref qtx, .int (nI ln), .int fa, .ref qlw, .ref qgp, .ref qhm, .ref qpcs, .ref qdl, .ref qdg, .ref qdh, .ref qdp, .int dr, .int tl, .ref qnw, .ref qps, .int (nI dn), .ref qim, .ref qisd, .ref qkp, .int sd, .ref qfd, .int 0, .ref qbk, .int 0, .int (nI at_), .int (nI wr), .int pl, .int yd, .int wy, .int pce_, .ref qal, .ref qco]))]) := by
  refine CI.intro (by decide) (Nat.le_of_ble_eq_true rfl) ?_
  intro p0 e0 s0 m0 ar0 be0 me0 c0 A0 X hr
  refine J_aload_n (pc := 0) X 0 dX10_tear_0 rfl ?_
  refine J_get (pc := 1) X clX10 0 21 rfl (by decide) g910 rfl dX10_tear_1 ?_
  refine J_aload_n (pc := 4) X 0 dX10_tear_4 rfl ?_
  refine J_get (pc := 5) X clX10 0 23 rfl (by decide) g912 rfl dX10_tear_5 ?_
  refine J_iadd (pc := 8) X dX10_tear_8 ?_
  refine J_top (y := nI (fn + en)) (n_add (x := fn) (y := en) rfl rfl (by omega)) ?_
  refine J_istore_n (pc := 9) X [(1, .int (nI (fn + en))), (0, .ref q)] dX10_tear_9 (by decide) rfl ?_
  refine J_aload_n (pc := 10) X 1 dX10_tear_10 rfl ?_
  refine J_iconst (pc := 11) X 0 dX10_tear_11 (by decide) ?_
  refine J_put (pc := 12) X clX10 0 21 [(q, .inr (10, [.ref qtx, .int (nI ln), .int fa, .ref qlw, .ref qgp, .ref qhm, .ref qpcs, .ref qdl, .ref qdg, .ref qdh, .ref qdp, .int dr, .int tl, .ref qnw, .ref qps, .int (nI dn), .ref qim, .ref qisd, .ref qkp, .int sd, .ref qfd, .int 0, .ref qbk, .int (nI en), .int (nI at_), .int (nI wr), .int pl, .int yd, .int wy, .int pce_, .ref qal, .ref qco]))] rfl (by decide) g910 rfl rfl rfl (Nat.le_of_ble_eq_true rfl) rfl dX10_tear_12 ?_
  refine J_aload_n (pc := 15) X 1 dX10_tear_15 rfl ?_
  refine J_iconst (pc := 16) X 0 dX10_tear_16 (by decide) ?_
  refine J_put (pc := 17) X clX10 0 23 [(q, .inr (10, [.ref qtx, .int (nI ln), .int fa, .ref qlw, .ref qgp, .ref qhm, .ref qpcs, .ref qdl, .ref qdg, .ref qdh, .ref qdp, .int dr, .int tl, .ref qnw, .ref qps, .int (nI dn), .ref qim, .ref qisd, .ref qkp, .int sd, .ref qfd, .int 0, .ref qbk, .int 0, .int (nI at_), .int (nI wr), .int pl, .int yd, .int wy, .int pce_, .ref qal, .ref qco]))] rfl (by decide) g912 rfl rfl rfl (Nat.le_of_ble_eq_true rfl) rfl dX10_tear_17 ?_
  refine J_iload_n (pc := 20) X 0 dX10_tear_20 rfl ?_
  refine J_iret (pc := 21) X hr () dX10_tear_21 ?_ rfl
  rfl
set_option maxRecDepth 100000 in
set_option maxHeartbeats 600000 in
theorem kX10_told (l : Launch) (G : va_G) (cI cC cZ : ClassId) (q : Nat) (qtx : Nat) (qlw : Nat) (qgp : Nat) (qhm : Nat) (qpcs : Nat) (qdl : Nat) (qdg : Nat) (qdh : Nat) (qdp : Nat) (qnw : Nat) (qps : Nat) (qim : Nat) (qisd : Nat) (qkp : Nat) (qfd : Nat) (qbk : Nat) (qal : Nat) (qco : Nat) (ln : Nat) (fa : Int32) (dr : Int32) (dn : Nat) (sd : Int32) (fn : Nat) (en : Nat) (at_ : Nat) (wr : Nat) (pl : Int32) (yd : Int32) (wy : Int32) (pce_ : Int32) (tl : Int32) (lw : Nat → Int32) (nw : Nat → Int32) (P : Nat) (gr : Int32) (wd : Nat) (g : Nat) (wk : Nat) (hs : Nat) (what : Int32) (hPl : P ≤ 60) (hg : g ≤ 8) (hwk : wk ≤ 4) (hwd : wd ≤ 50) (hl0 : lw 0 = nI P) (hl1 : lw 1 = gr) (hl2 : lw 2 = nI wd) (hl3 : lw 3 = nI g) (hl4 : lw 4 = nI wk) (hhs : (g = 0 ∧ hs = 0) ∨ (0 < g ∧ hs = g + 1)) : CI l G (tys3 cI cC cZ) yX10_told cX10_told 2 (some .int) ({ frames := 1, cells := 0, slots := 0, locals := 20 }) [.ref q, .int what] [(q, .inr (10, [.ref qtx, .int (nI ln), .int fa, .ref qlw, .ref qgp, .ref qhm, .ref qpcs, .ref qdl, .ref qdg, .ref qdh, .ref qdp, .int dr, .int tl, .ref qnw, .ref qps, .int (nI dn), .ref qim, .ref qisd, .ref qkp, .int sd, .ref qfd, .int (nI fn), .ref qbk, .int (nI en), .int (nI at_), .int (nI wr), .int pl, .int yd, .int wy, .int pce_, .ref qal, .ref qco])), (qlw, .inl (cI, 5, .inl lw)), (qnw, .inl (cI, 14, .inl nw))] (S := Unit) (fun (r : Int32) (u : Unit) => r = spTold P wd hs wk ln fn en dn gr (nw 0) (nw 1) what) (fun _ => [(q, .inr (10, [.ref qtx, .int (nI ln), .int fa, .ref qlw, .ref qgp, .ref qhm, .ref qpcs, .ref qdl, .ref qdg, .ref qdh, .ref qdp, .int dr, .int tl, .ref qnw, .ref qps, .int (nI dn), .ref qim, .ref qisd, .ref qkp, .int sd, .ref qfd, .int (nI fn), .ref qbk, .int (nI en), .int (nI at_), .int (nI wr), .int pl, .int yd, .int wy, .int pce_, .ref qal, .ref qco])), (qlw, .inl (cI, 5, .inl lw)), (qnw, .inl (cI, 14, .inl nw))]) := by
  refine CI.intro (by decide) (Nat.le_of_ble_eq_true rfl) ?_
  intro p0 e0 s0 m0 ar0 be0 me0 c0 A0 X hr
  refine J_iload_n (pc := 0) X 1 dX10_told_0 rfl ?_
  rcases pk_ix what (n := 11) (by decide) with sw_1 | sw_1 | ⟨j_sw_1, hj_sw_1, sw_1⟩
  · refine J_tout (pc := 1) (n := 11) X 127 dX10_told_1 (Or.inl sw_1) (by decide) (by decide) ?_
    have nsw_1_0 : ¬ what = 0 := sw_a (j := 0) (by decide) sw_1
    have nsw_1_1 : ¬ what = 1 := sw_a (j := 1) (by decide) sw_1
    have nsw_1_2 : ¬ what = 2 := sw_a (j := 2) (by decide) sw_1
    have nsw_1_3 : ¬ what = 3 := sw_a (j := 3) (by decide) sw_1
    have nsw_1_4 : ¬ what = 4 := sw_a (j := 4) (by decide) sw_1
    have nsw_1_5 : ¬ what = 5 := sw_a (j := 5) (by decide) sw_1
    have nsw_1_6 : ¬ what = 6 := sw_a (j := 6) (by decide) sw_1
    have nsw_1_7 : ¬ what = 7 := sw_a (j := 7) (by decide) sw_1
    have nsw_1_8 : ¬ what = 8 := sw_a (j := 8) (by decide) sw_1
    have nsw_1_9 : ¬ what = 9 := sw_a (j := 9) (by decide) sw_1
    have nsw_1_10 : ¬ what = 10 := sw_a (j := 10) (by decide) sw_1
    refine J_ldc (pc := 127) X g993 dX10_told_127 ?_
    refine J_iret (pc := 129) X hr () dX10_told_129 ?_ rfl
    simp [spTold, sw_1, nsw_1_0, nsw_1_1, nsw_1_2, nsw_1_3, nsw_1_4, nsw_1_5, nsw_1_6, nsw_1_7, nsw_1_8, nsw_1_9, nsw_1_10]
  · refine J_tout (pc := 1) (n := 11) X 127 dX10_told_1 (Or.inr sw_1) (by decide) (by decide) ?_
    have nsw_1_0 : ¬ what = 0 := sw_b (j := 0) (n := 11) (by decide) (by decide) sw_1
    have nsw_1_1 : ¬ what = 1 := sw_b (j := 1) (n := 11) (by decide) (by decide) sw_1
    have nsw_1_2 : ¬ what = 2 := sw_b (j := 2) (n := 11) (by decide) (by decide) sw_1
    have nsw_1_3 : ¬ what = 3 := sw_b (j := 3) (n := 11) (by decide) (by decide) sw_1
    have nsw_1_4 : ¬ what = 4 := sw_b (j := 4) (n := 11) (by decide) (by decide) sw_1
    have nsw_1_5 : ¬ what = 5 := sw_b (j := 5) (n := 11) (by decide) (by decide) sw_1
    have nsw_1_6 : ¬ what = 6 := sw_b (j := 6) (n := 11) (by decide) (by decide) sw_1
    have nsw_1_7 : ¬ what = 7 := sw_b (j := 7) (n := 11) (by decide) (by decide) sw_1
    have nsw_1_8 : ¬ what = 8 := sw_b (j := 8) (n := 11) (by decide) (by decide) sw_1
    have nsw_1_9 : ¬ what = 9 := sw_b (j := 9) (n := 11) (by decide) (by decide) sw_1
    have nsw_1_10 : ¬ what = 10 := sw_b (j := 10) (n := 11) (by decide) (by decide) sw_1
    refine J_ldc (pc := 127) X g993 dX10_told_127 ?_
    refine J_iret (pc := 129) X hr () dX10_told_129 ?_ rfl
    simp [spTold, sw_1, nsw_1_0, nsw_1_1, nsw_1_2, nsw_1_3, nsw_1_4, nsw_1_5, nsw_1_6, nsw_1_7, nsw_1_8, nsw_1_9, nsw_1_10]
  · rcases (show j_sw_1 = 0 ∨ j_sw_1 = 1 ∨ j_sw_1 = 2 ∨ j_sw_1 = 3 ∨ j_sw_1 = 4 ∨ j_sw_1 = 5 ∨ j_sw_1 = 6 ∨ j_sw_1 = 7 ∨ j_sw_1 = 8 ∨ j_sw_1 = 9 ∨ j_sw_1 = 10 by omega) with rfl | rfl | rfl | rfl | rfl | rfl | rfl | rfl | rfl | rfl | rfl
    · refine J_tin (pc := 1) X 0 60 sw_1 dX10_told_1 (by decide) (by decide) rfl (by decide) ?_
      subst sw_1
      refine J_aload_n (pc := 60) X 0 dX10_told_60 rfl ?_
      refine J_get (pc := 61) X clX10 0 3 rfl (by decide) g892 rfl dX10_told_61 ?_
      refine J_iconst (pc := 64) X 0 dX10_told_64 (by decide) ?_
      refine J_iald (pc := 65) X 1 0 0 rfl rfl rfl (by decide) (by decide) dX10_told_65 ?_
      refine J_top (y := nI P) hl0 ?_
      refine J_iret (pc := 66) X hr () dX10_told_66 ?_ rfl
      rfl
    · refine J_tin (pc := 1) X 1 67 sw_1 dX10_told_1 (by decide) (by decide) rfl (by decide) ?_
      subst sw_1
      refine J_aload_n (pc := 67) X 0 dX10_told_67 rfl ?_
      refine J_get (pc := 68) X clX10 0 3 rfl (by decide) g892 rfl dX10_told_68 ?_
      refine J_iconst (pc := 71) X 1 dX10_told_71 (by decide) ?_
      refine J_iald (pc := 72) X 1 0 1 rfl rfl rfl (by decide) (by decide) dX10_told_72 ?_
      refine J_top (y := gr) hl1 ?_
      refine J_iret (pc := 73) X hr () dX10_told_73 ?_ rfl
      rfl
    · refine J_tin (pc := 1) X 2 74 sw_1 dX10_told_1 (by decide) (by decide) rfl (by decide) ?_
      subst sw_1
      refine J_aload_n (pc := 74) X 0 dX10_told_74 rfl ?_
      refine J_get (pc := 75) X clX10 0 3 rfl (by decide) g892 rfl dX10_told_75 ?_
      refine J_iconst (pc := 78) X 2 dX10_told_78 (by decide) ?_
      refine J_iald (pc := 79) X 1 0 2 rfl rfl rfl (by decide) (by decide) dX10_told_79 ?_
      refine J_top (y := nI wd) hl2 ?_
      refine J_iret (pc := 80) X hr () dX10_told_80 ?_ rfl
      rfl
    · refine J_tin (pc := 1) X 3 81 sw_1 dX10_told_1 (by decide) (by decide) rfl (by decide) ?_
      subst sw_1
      refine J_aload_n (pc := 81) X 0 dX10_told_81 rfl ?_
      refine J_callR (pc := 82) (As := []) (rest := []) X mtX10_houses g1054 [0, 1] 0 (kX10_houses l G cI cC cZ q qtx qlw qgp qhm qpcs qdl qdg qdh qdp qnw qps qim qisd qkp qfd qbk qal qco ln fa dr dn sd fn en at_ wr pl yd wy pce_ tl lw P gr wd g wk hs (by first | assumption | omega) (by first | assumption | omega) (by first | assumption | omega) (by first | assumption | omega) (by first | assumption | omega) (by first | assumption | omega) (by first | assumption | omega) (by first | assumption | omega) (by first | assumption | omega) (by first | assumption | omega)) ⟨Nat.le_of_ble_eq_true rfl, Nat.le_of_ble_eq_true rfl⟩ rfl rfl rfl (by decide) rfl rfl rfl rfl rfl (Nat.le_of_ble_eq_true rfl) (Nat.zero_le _) (Nat.zero_le _) dX10_told_82 (fun r_2 u_3 w_4 => ?_)
      try dsimp only at w_4
      subst w_4
      refine J_iret (pc := 85) X hr () dX10_told_85 ?_ rfl
      rfl
    · refine J_tin (pc := 1) X 4 86 sw_1 dX10_told_1 (by decide) (by decide) rfl (by decide) ?_
      subst sw_1
      refine J_aload_n (pc := 86) X 0 dX10_told_86 rfl ?_
      refine J_get (pc := 87) X clX10 0 3 rfl (by decide) g892 rfl dX10_told_87 ?_
      refine J_iconst (pc := 90) X 4 dX10_told_90 (by decide) ?_
      refine J_iald (pc := 91) X 1 0 4 rfl rfl rfl (by decide) (by decide) dX10_told_91 ?_
      refine J_top (y := nI wk) hl4 ?_
      refine J_iret (pc := 92) X hr () dX10_told_92 ?_ rfl
      rfl
    · refine J_tin (pc := 1) X 5 93 sw_1 dX10_told_1 (by decide) (by decide) rfl (by decide) ?_
      subst sw_1
      refine J_aload_n (pc := 93) X 0 dX10_told_93 rfl ?_
      refine J_get (pc := 94) X clX10 0 1 rfl (by decide) g890 rfl dX10_told_94 ?_
      refine J_iret (pc := 97) X hr () dX10_told_97 ?_ rfl
      rfl
    · refine J_tin (pc := 1) X 6 98 sw_1 dX10_told_1 (by decide) (by decide) rfl (by decide) ?_
      subst sw_1
      refine J_aload_n (pc := 98) X 0 dX10_told_98 rfl ?_
      refine J_get (pc := 99) X clX10 0 13 rfl (by decide) g902 rfl dX10_told_99 ?_
      refine J_iconst (pc := 102) X 0 dX10_told_102 (by decide) ?_
      refine J_iald (pc := 103) X 2 0 0 rfl rfl rfl (by decide) (by decide) dX10_told_103 ?_
      refine J_iret (pc := 104) X hr () dX10_told_104 ?_ rfl
      rfl
    · refine J_tin (pc := 1) X 7 105 sw_1 dX10_told_1 (by decide) (by decide) rfl (by decide) ?_
      subst sw_1
      refine J_aload_n (pc := 105) X 0 dX10_told_105 rfl ?_
      refine J_get (pc := 106) X clX10 0 13 rfl (by decide) g902 rfl dX10_told_106 ?_
      refine J_iconst (pc := 109) X 1 dX10_told_109 (by decide) ?_
      refine J_iald (pc := 110) X 2 0 1 rfl rfl rfl (by decide) (by decide) dX10_told_110 ?_
      refine J_iret (pc := 111) X hr () dX10_told_111 ?_ rfl
      rfl
    · refine J_tin (pc := 1) X 8 112 sw_1 dX10_told_1 (by decide) (by decide) rfl (by decide) ?_
      subst sw_1
      refine J_aload_n (pc := 112) X 0 dX10_told_112 rfl ?_
      refine J_get (pc := 113) X clX10 0 21 rfl (by decide) g910 rfl dX10_told_113 ?_
      refine J_iret (pc := 116) X hr () dX10_told_116 ?_ rfl
      rfl
    · refine J_tin (pc := 1) X 9 117 sw_1 dX10_told_1 (by decide) (by decide) rfl (by decide) ?_
      subst sw_1
      refine J_aload_n (pc := 117) X 0 dX10_told_117 rfl ?_
      refine J_get (pc := 118) X clX10 0 23 rfl (by decide) g912 rfl dX10_told_118 ?_
      refine J_iret (pc := 121) X hr () dX10_told_121 ?_ rfl
      rfl
    · refine J_tin (pc := 1) X 10 122 sw_1 dX10_told_1 (by decide) (by decide) rfl (by decide) ?_
      subst sw_1
      refine J_aload_n (pc := 122) X 0 dX10_told_122 rfl ?_
      refine J_get (pc := 123) X clX10 0 15 rfl (by decide) g904 rfl dX10_told_123 ?_
      refine J_iret (pc := 126) X hr () dX10_told_126 ?_ rfl
      rfl
set_option maxRecDepth 100000 in
set_option maxHeartbeats 600000 in
theorem kX10_gap (l : Launch) (G : va_G) (cI cC cZ : ClassId) (q : Nat) (qtx : Nat) (qlw : Nat) (qgp : Nat) (qhm : Nat) (qpcs : Nat) (qdl : Nat) (qdg : Nat) (qdh : Nat) (qdp : Nat) (qnw : Nat) (qps : Nat) (qim : Nat) (qisd : Nat) (qkp : Nat) (qfd : Nat) (qbk : Nat) (qal : Nat) (qco : Nat) (ln : Nat) (fa : Int32) (dr : Int32) (dn : Nat) (sd : Int32) (fn : Nat) (en : Nat) (at_ : Nat) (wr : Nat) (pl : Int32) (yd : Int32) (wy : Int32) (pce_ : Int32) (tl : Int32) (lw : Nat → Int32) (gp : Nat → Int32) (nw : Nat → Int32) (P : Nat) (gr : Int32) (wd : Nat) (g : Nat) (wk : Nat) (k : Int32) (what : Int32) (hPl : P ≤ 60) (hg : g ≤ 8) (hwk : wk ≤ 4) (hwd : wd ≤ 50) (hl0 : lw 0 = nI P) (hl1 : lw 1 = gr) (hl2 : lw 2 = nI wd) (hl3 : lw 3 = nI g) (hl4 : lw 4 = nI wk) (hP0 : 0 < g → 0 < P) (hwd0 : 0 < g → 0 < wd) : CI l G (tys3 cI cC cZ) yX10_gap cX10_gap 3 (some .int) ({ frames := 3, cells := 0, slots := 0, locals := 67 }) [.ref q, .int k, .int what] [(q, .inr (10, [.ref qtx, .int (nI ln), .int fa, .ref qlw, .ref qgp, .ref qhm, .ref qpcs, .ref qdl, .ref qdg, .ref qdh, .ref qdp, .int dr, .int tl, .ref qnw, .ref qps, .int (nI dn), .ref qim, .ref qisd, .ref qkp, .int sd, .ref qfd, .int (nI fn), .ref qbk, .int (nI en), .int (nI at_), .int (nI wr), .int pl, .int yd, .int wy, .int pce_, .ref qal, .ref qco])), (qlw, .inl (cI, 5, .inl lw)), (qgp, .inl (cI, 8, .inl gp)), (qnw, .inl (cI, 14, .inl nw))] (S := Unit) (fun (r : Int32) (u : Unit) => r = spGap g P wd gr (nw 0) (nw 1) gp k what) (fun _ => [(q, .inr (10, [.ref qtx, .int (nI ln), .int fa, .ref qlw, .ref qgp, .ref qhm, .ref qpcs, .ref qdl, .ref qdg, .ref qdh, .ref qdp, .int dr, .int tl, .ref qnw, .ref qps, .int (nI dn), .ref qim, .ref qisd, .ref qkp, .int sd, .ref qfd, .int (nI fn), .ref qbk, .int (nI en), .int (nI at_), .int (nI wr), .int pl, .int yd, .int wy, .int pce_, .ref qal, .ref qco])), (qlw, .inl (cI, 5, .inl lw)), (qgp, .inl (cI, 8, .inl gp)), (qnw, .inl (cI, 14, .inl nw))]) := by
  refine CI.intro (by decide) (Nat.le_of_ble_eq_true rfl) ?_
  intro p0 e0 s0 m0 ar0 be0 me0 c0 A0 X hr
  refine J_aload_n (pc := 0) X 0 dX10_gap_0 rfl ?_
  refine J_iload_n (pc := 1) X 1 dX10_gap_1 rfl ?_
  refine J_callR (pc := 2) (As := [.int k]) (rest := []) X mtX10_isGap g1062 [0, 1] 0 (kX10_isGap l G cI cC cZ q qtx qlw qgp qhm qpcs qdl qdg qdh qdp qnw qps qim qisd qkp qfd qbk qal qco ln fa dr dn sd fn en at_ wr pl yd wy pce_ tl lw P gr wd g wk k (by first | assumption | omega) (by first | assumption | omega) (by first | assumption | omega) (by first | assumption | omega) (by first | assumption | omega) (by first | assumption | omega) (by first | assumption | omega) (by first | assumption | omega) (by first | assumption | omega)) ⟨Nat.le_of_ble_eq_true rfl, Nat.le_of_ble_eq_true rfl⟩ rfl rfl rfl (by decide) rfl rfl rfl rfl rfl (Nat.le_of_ble_eq_true rfl) (Nat.zero_le _) (Nat.zero_le _) dX10_gap_2 (fun r_1 u_2 w_3 => ?_)
  try dsimp only at w_3
  subst w_3
  refine J_bif_ne (pc := 5) X 11 dX10_gap_5 (by decide) (fun c_4 => ?_) (fun c_4 => ?_)
  · skip
    obtain ⟨kn, hkn, rfl⟩ := inB_ex (by omega) c_4
    refine J_iload_n (pc := 11) X 2 dX10_gap_11 rfl ?_
    rcases pk_ix what (n := 4) (by decide) with sw_5 | sw_5 | ⟨j_sw_5, hj_sw_5, sw_5⟩
    · refine J_tout (pc := 12) (n := 4) X 90 dX10_gap_12 (Or.inl sw_5) (by decide) (by decide) ?_
      have nsw_5_0 : ¬ what = 0 := sw_a (j := 0) (by decide) sw_5
      have nsw_5_1 : ¬ what = 1 := sw_a (j := 1) (by decide) sw_5
      have nsw_5_2 : ¬ what = 2 := sw_a (j := 2) (by decide) sw_5
      have nsw_5_3 : ¬ what = 3 := sw_a (j := 3) (by decide) sw_5
      refine J_ldc (pc := 90) X g993 dX10_gap_90 ?_
      refine J_iret (pc := 92) X hr () dX10_gap_92 ?_ rfl
      rw [spGap, if_pos ((inB_nI (by omega)).mpr hkn)]
      simp [sw_5, nsw_5_0, nsw_5_1, nsw_5_2, nsw_5_3]
    · refine J_tout (pc := 12) (n := 4) X 90 dX10_gap_12 (Or.inr sw_5) (by decide) (by decide) ?_
      have nsw_5_0 : ¬ what = 0 := sw_b (j := 0) (n := 4) (by decide) (by decide) sw_5
      have nsw_5_1 : ¬ what = 1 := sw_b (j := 1) (n := 4) (by decide) (by decide) sw_5
      have nsw_5_2 : ¬ what = 2 := sw_b (j := 2) (n := 4) (by decide) (by decide) sw_5
      have nsw_5_3 : ¬ what = 3 := sw_b (j := 3) (n := 4) (by decide) (by decide) sw_5
      refine J_ldc (pc := 90) X g993 dX10_gap_90 ?_
      refine J_iret (pc := 92) X hr () dX10_gap_92 ?_ rfl
      rw [spGap, if_pos ((inB_nI (by omega)).mpr hkn)]
      simp [sw_5, nsw_5_0, nsw_5_1, nsw_5_2, nsw_5_3]
    · rcases (show j_sw_5 = 0 ∨ j_sw_5 = 1 ∨ j_sw_5 = 2 ∨ j_sw_5 = 3 by omega) with rfl | rfl | rfl | rfl
      · refine J_tin (pc := 12) X 0 44 sw_5 dX10_gap_12 (by decide) (by decide) rfl (by decide) ?_
        subst sw_5
        refine J_aload_n (pc := 44) X 0 dX10_gap_44 rfl ?_
        refine J_get (pc := 45) X clX10 0 4 rfl (by decide) g893 rfl dX10_gap_45 ?_
        refine J_iload_n (pc := 48) X 1 dX10_gap_48 rfl ?_
        refine J_iald (pc := 49) X 2 0 kn rfl rfl rfl (by omega) (by decide) dX10_gap_49 ?_
        refine J_iret (pc := 50) X hr () dX10_gap_50 ?_ rfl
        rw [spGap, if_pos ((inB_nI (by omega)).mpr hkn), nI_clamp (by omega)]
        rfl
      · refine J_tin (pc := 12) X 1 51 sw_5 dX10_gap_12 (by decide) (by decide) rfl (by decide) ?_
        subst sw_5
        refine J_aload_n (pc := 51) X 0 dX10_gap_51 rfl ?_
        refine J_iload_n (pc := 52) X 1 dX10_gap_52 rfl ?_
        refine J_aload_n (pc := 53) X 0 dX10_gap_53 rfl ?_
        refine J_get (pc := 54) X clX10 0 13 rfl (by decide) g902 rfl dX10_gap_54 ?_
        refine J_iconst (pc := 57) X 0 dX10_gap_57 (by decide) ?_
        refine J_iald (pc := 58) X 3 0 0 rfl rfl rfl (by decide) (by decide) dX10_gap_58 ?_
        refine J_callR (pc := 59) (As := [.int (nI kn), .int (nw 0)]) (rest := []) X mtX10_yardsOf g1067 [0, 1, 2] 0 (kX10_yardsOf l G cI cC cZ q qtx qlw qgp qhm qpcs qdl qdg qdh qdp qnw qps qim qisd qkp qfd qbk qal qco ln fa dr dn sd fn en at_ wr pl yd wy pce_ tl lw gp P gr wd g wk kn (nw 0) (by first | assumption | omega) (by first | assumption | omega) (by first | assumption | omega) (by first | assumption | omega) (by first | assumption | omega) (by first | assumption | omega) (by first | assumption | omega) (by first | assumption | omega) (by first | assumption | omega) (by first | assumption | omega) (by first | assumption | omega)) ⟨Nat.le_of_ble_eq_true rfl, Nat.le_of_ble_eq_true rfl⟩ rfl rfl rfl (by decide) rfl rfl rfl rfl rfl (Nat.le_of_ble_eq_true rfl) (Nat.zero_le _) (Nat.zero_le _) dX10_gap_59 (fun r_6 u_7 w_8 => ?_)
        try dsimp only at w_8
        subst w_8
        refine J_iret (pc := 62) X hr () dX10_gap_62 ?_ rfl
        rw [spGap, if_pos ((inB_nI (by omega)).mpr hkn), nI_clamp (by omega)]
        rfl
      · refine J_tin (pc := 12) X 2 63 sw_5 dX10_gap_12 (by decide) (by decide) rfl (by decide) ?_
        subst sw_5
        refine J_aload_n (pc := 63) X 0 dX10_gap_63 rfl ?_
        refine J_aload_n (pc := 64) X 0 dX10_gap_64 rfl ?_
        refine J_iload_n (pc := 65) X 1 dX10_gap_65 rfl ?_
        refine J_aload_n (pc := 66) X 0 dX10_gap_66 rfl ?_
        refine J_get (pc := 67) X clX10 0 13 rfl (by decide) g902 rfl dX10_gap_67 ?_
        refine J_iconst (pc := 70) X 0 dX10_gap_70 (by decide) ?_
        refine J_iald (pc := 71) X 3 0 0 rfl rfl rfl (by decide) (by decide) dX10_gap_71 ?_
        refine J_callR (pc := 72) (As := [.int (nI kn), .int (nw 0)]) (rest := [.ref q]) X mtX10_yardsOf g1067 [0, 1, 2] 0 (kX10_yardsOf l G cI cC cZ q qtx qlw qgp qhm qpcs qdl qdg qdh qdp qnw qps qim qisd qkp qfd qbk qal qco ln fa dr dn sd fn en at_ wr pl yd wy pce_ tl lw gp P gr wd g wk kn (nw 0) (by first | assumption | omega) (by first | assumption | omega) (by first | assumption | omega) (by first | assumption | omega) (by first | assumption | omega) (by first | assumption | omega) (by first | assumption | omega) (by first | assumption | omega) (by first | assumption | omega) (by first | assumption | omega) (by first | assumption | omega)) ⟨Nat.le_of_ble_eq_true rfl, Nat.le_of_ble_eq_true rfl⟩ rfl rfl rfl (by decide) rfl rfl rfl rfl rfl (Nat.le_of_ble_eq_true rfl) (Nat.zero_le _) (Nat.zero_le _) dX10_gap_72 (fun r_9 u_10 w_11 => ?_)
        try dsimp only at w_11
        subst w_11
        refine J_callR (pc := 75) (As := [.int (yG P (gp kn) gr (nw 0))]) (rest := []) X mtX10_nightHouses g1078 [0, 1] 0 (kX10_nightHouses l G cI cC cZ q qtx qlw qgp qhm qpcs qdl qdg qdh qdp qnw qps qim qisd qkp qfd qbk qal qco ln fa dr dn sd fn en at_ wr pl yd wy pce_ tl lw P gr wd g wk (yG P (gp kn) gr (nw 0)) (by first | assumption | omega) (by first | assumption | omega) (by first | assumption | omega) (by first | assumption | omega) (by first | assumption | omega) (by first | assumption | omega) (by first | assumption | omega) (by first | assumption | omega) (by first | assumption | omega) (by first | assumption | omega)) ⟨Nat.le_of_ble_eq_true rfl, Nat.le_of_ble_eq_true rfl⟩ rfl rfl rfl (by decide) rfl rfl rfl rfl rfl (Nat.le_of_ble_eq_true rfl) (Nat.zero_le _) (Nat.zero_le _) dX10_gap_75 (fun r_12 u_13 w_14 => ?_)
        try dsimp only at w_14
        subst w_14
        refine J_iret (pc := 78) X hr () dX10_gap_78 ?_ rfl
        rw [spGap, if_pos ((inB_nI (by omega)).mpr hkn), nI_clamp (by omega)]
        rfl
      · refine J_tin (pc := 12) X 3 79 sw_5 dX10_gap_12 (by decide) (by decide) rfl (by decide) ?_
        subst sw_5
        refine J_aload_n (pc := 79) X 0 dX10_gap_79 rfl ?_
        refine J_get (pc := 80) X clX10 0 13 rfl (by decide) g902 rfl dX10_gap_80 ?_
        refine J_iconst (pc := 83) X 1 dX10_gap_83 (by decide) ?_
        refine J_iald (pc := 84) X 3 0 1 rfl rfl rfl (by decide) (by decide) dX10_gap_84 ?_
        refine J_iload_n (pc := 85) X 1 dX10_gap_85 rfl ?_
        refine J_ishr (pc := 86) X dX10_gap_86 ?_
        refine J_iconst (pc := 87) X 1 dX10_gap_87 (by decide) ?_
        refine J_iand (pc := 88) X dX10_gap_88 ?_
        refine J_iret (pc := 89) X hr () dX10_gap_89 ?_ rfl
        rw [spGap, if_pos ((inB_nI (by omega)).mpr hkn), nI_clamp (by omega)]
        rfl
  · skip
    refine J_ldc (pc := 8) X g1066 dX10_gap_8 ?_
    refine J_iret (pc := 10) X hr () dX10_gap_10 ?_ rfl
    rw [spGap, if_neg (by assumption)]
set_option maxRecDepth 100000 in
set_option maxHeartbeats 600000 in
theorem kX10_walker (l : Launch) (G : va_G) (cI cC cZ : ClassId) (q : Nat) (qtx : Nat) (qlw : Nat) (qgp : Nat) (qhm : Nat) (qpcs : Nat) (qdl : Nat) (qdg : Nat) (qdh : Nat) (qdp : Nat) (qnw : Nat) (qps : Nat) (qim : Nat) (qisd : Nat) (qkp : Nat) (qfd : Nat) (qbk : Nat) (qal : Nat) (qco : Nat) (ln : Nat) (fa : Int32) (dr : Int32) (dn : Nat) (sd : Int32) (fn : Nat) (en : Nat) (at_ : Nat) (wr : Nat) (pl : Int32) (yd : Int32) (wy : Int32) (pce_ : Int32) (tl : Int32) (lw : Nat → Int32) (gp : Nat → Int32) (nw : Nat → Int32) (pcs : Nat → Int32) (P : Nat) (gr : Int32) (wd : Nat) (g : Nat) (wk : Nat) (w : Int32) (what : Int32) (hPl : P ≤ 60) (hg : g ≤ 8) (hwk : wk ≤ 4) (hwd : wd ≤ 50) (hl0 : lw 0 = nI P) (hl1 : lw 1 = gr) (hl2 : lw 2 = nI wd) (hl3 : lw 3 = nI g) (hl4 : lw 4 = nI wk) (hP0 : 0 < g → 0 < P) (hok : okS g wk nw) : CI l G (tys3 cI cC cZ) yX10_walker cX10_walker 4 (some .int) ({ frames := 5, cells := 0, slots := 0, locals := 113 }) [.ref q, .int w, .int what] [(q, .inr (10, [.ref qtx, .int (nI ln), .int fa, .ref qlw, .ref qgp, .ref qhm, .ref qpcs, .ref qdl, .ref qdg, .ref qdh, .ref qdp, .int dr, .int tl, .ref qnw, .ref qps, .int (nI dn), .ref qim, .ref qisd, .ref qkp, .int sd, .ref qfd, .int (nI fn), .ref qbk, .int (nI en), .int (nI at_), .int (nI wr), .int pl, .int yd, .int wy, .int pce_, .ref qal, .ref qco])), (qlw, .inl (cI, 5, .inl lw)), (qgp, .inl (cI, 8, .inl gp)), (qnw, .inl (cI, 14, .inl nw)), (qpcs, .inl (cI, 4, .inl pcs))] (S := Int32 × Int32 × Int32 × Int32) (fun (r : Int32) (u : Int32 × Int32 × Int32 × Int32) => r = spWalker wk (fun k9 => yG P (gp k9) gr (nw 0)) pcs nw w what) (fun (u : Int32 × Int32 × Int32 × Int32) => [(q, .inr (10, [.ref qtx, .int (nI ln), .int fa, .ref qlw, .ref qgp, .ref qhm, .ref qpcs, .ref qdl, .ref qdg, .ref qdh, .ref qdp, .int dr, .int tl, .ref qnw, .ref qps, .int (nI dn), .ref qim, .ref qisd, .ref qkp, .int sd, .ref qfd, .int (nI fn), .ref qbk, .int (nI en), .int (nI at_), .int (nI wr), .int u.1, .int u.2.1, .int u.2.2.1, .int u.2.2.2, .ref qal, .ref qco])), (qlw, .inl (cI, 5, .inl lw)), (qgp, .inl (cI, 8, .inl gp)), (qnw, .inl (cI, 14, .inl nw)), (qpcs, .inl (cI, 4, .inl pcs))]) := by
  refine CI.intro (by decide) (Nat.le_of_ble_eq_true rfl) ?_
  intro p0 e0 s0 m0 ar0 be0 me0 c0 A0 X hr
  refine J_aload_n (pc := 0) X 0 dX10_walker_0 rfl ?_
  refine J_iload_n (pc := 1) X 1 dX10_walker_1 rfl ?_
  refine J_callR (pc := 2) (As := [.int w]) (rest := []) X mtX10_isWalker g1086 [0, 1] 0 (kX10_isWalker l G cI cC cZ q qtx qlw qgp qhm qpcs qdl qdg qdh qdp qnw qps qim qisd qkp qfd qbk qal qco ln fa dr dn sd fn en at_ wr pl yd wy pce_ tl lw P gr wd g wk w (by first | assumption | omega) (by first | assumption | omega) (by first | assumption | omega) (by first | assumption | omega) (by first | assumption | omega) (by first | assumption | omega) (by first | assumption | omega) (by first | assumption | omega) (by first | assumption | omega)) ⟨Nat.le_of_ble_eq_true rfl, Nat.le_of_ble_eq_true rfl⟩ rfl rfl rfl (by decide) rfl rfl rfl rfl rfl (Nat.le_of_ble_eq_true rfl) (Nat.zero_le _) (Nat.zero_le _) dX10_walker_2 (fun r_1 u_2 w_3 => ?_)
  try dsimp only at w_3
  subst w_3
  refine J_bif_ne (pc := 5) X 11 dX10_walker_5 (by decide) (fun c_4 => ?_) (fun c_4 => ?_)
  · skip
    obtain ⟨wn, hwn, rfl⟩ := inB_ex (by omega) c_4
    obtain ⟨pos, hpos, hpk⟩ := hok wn hwn
    have hpl := posOk_lt hg hpk
    have hpf := posF_of hpos hpl
    refine J_aload_n (pc := 11) X 0 dX10_walker_11 rfl ?_
    refine J_get (pc := 12) X clX10 0 13 rfl (by decide) g902 rfl dX10_walker_12 ?_
    refine J_iconst (pc := 15) X 2 dX10_walker_15 (by decide) ?_
    refine J_iconst (pc := 16) X 3 dX10_walker_16 (by decide) ?_
    refine J_iload_n (pc := 17) X 1 dX10_walker_17 rfl ?_
    refine J_imul (pc := 18) X dX10_walker_18 ?_
    refine J_top (y := nI (3 * wn)) (n_mul (x := 3) (y := wn) rfl rfl (by omega)) ?_
    refine J_iadd (pc := 19) X dX10_walker_19 ?_
    refine J_top (y := nI (3 * wn + 2)) (n_add (x := 2) (y := 3 * wn) rfl rfl (by omega)) ?_
    refine J_iald (pc := 20) X 3 0 (3 * wn + 2) rfl rfl rfl (by omega) (by decide) dX10_walker_20 ?_
    refine J_top (y := nI pos) hpos ?_
    refine J_istore_n (pc := 21) X [(3, .int (nI pos)), (0, .ref q), (1, .int (nI wn)), (2, .int what)] dX10_walker_21 (by decide) rfl ?_
    refine J_iload_n (pc := 22) X 3 dX10_walker_22 rfl ?_
    rcases pk_ix what (n := 6) (by decide) with sw_5 | sw_5 | ⟨j_sw_5, hj_sw_5, sw_5⟩
    · refine J_tout (pc := 23) (n := 6) X 126 dX10_walker_23 (Or.inl sw_5) (by decide) (by decide) ?_
      have nsw_5_0 : ¬ what = 0 := sw_a (j := 0) (by decide) sw_5
      have nsw_5_1 : ¬ what = 1 := sw_a (j := 1) (by decide) sw_5
      have nsw_5_2 : ¬ what = 2 := sw_a (j := 2) (by decide) sw_5
      have nsw_5_3 : ¬ what = 3 := sw_a (j := 3) (by decide) sw_5
      have nsw_5_4 : ¬ what = 4 := sw_a (j := 4) (by decide) sw_5
      have nsw_5_5 : ¬ what = 5 := sw_a (j := 5) (by decide) sw_5
      refine J_ldc (pc := 126) X g993 dX10_walker_126 ?_
      refine J_iret (pc := 128) X hr (pl, yd, wy, pce_) dX10_walker_128 ?_ rfl
      rw [spWalker, if_pos ((inB_nI (by omega)).mpr hwn), nI_clamp (by omega), hpf]
      simp [sw_5, nsw_5_0, nsw_5_1, nsw_5_2, nsw_5_3, nsw_5_4, nsw_5_5]
    · refine J_tout (pc := 23) (n := 6) X 126 dX10_walker_23 (Or.inr sw_5) (by decide) (by decide) ?_
      have nsw_5_0 : ¬ what = 0 := sw_b (j := 0) (n := 6) (by decide) (by decide) sw_5
      have nsw_5_1 : ¬ what = 1 := sw_b (j := 1) (n := 6) (by decide) (by decide) sw_5
      have nsw_5_2 : ¬ what = 2 := sw_b (j := 2) (n := 6) (by decide) (by decide) sw_5
      have nsw_5_3 : ¬ what = 3 := sw_b (j := 3) (n := 6) (by decide) (by decide) sw_5
      have nsw_5_4 : ¬ what = 4 := sw_b (j := 4) (n := 6) (by decide) (by decide) sw_5
      have nsw_5_5 : ¬ what = 5 := sw_b (j := 5) (n := 6) (by decide) (by decide) sw_5
      refine J_ldc (pc := 126) X g993 dX10_walker_126 ?_
      refine J_iret (pc := 128) X hr (pl, yd, wy, pce_) dX10_walker_128 ?_ rfl
      rw [spWalker, if_pos ((inB_nI (by omega)).mpr hwn), nI_clamp (by omega), hpf]
      simp [sw_5, nsw_5_0, nsw_5_1, nsw_5_2, nsw_5_3, nsw_5_4, nsw_5_5]
    · rcases (show j_sw_5 = 0 ∨ j_sw_5 = 1 ∨ j_sw_5 = 2 ∨ j_sw_5 = 3 ∨ j_sw_5 = 4 ∨ j_sw_5 = 5 by omega) with rfl | rfl | rfl | rfl | rfl | rfl
      · refine J_tin (pc := 23) X 0 60 sw_5 dX10_walker_23 (by decide) (by decide) rfl (by decide) ?_
        subst sw_5
        refine J_iload_n (pc := 60) X 0 dX10_walker_60 rfl ?_
        refine J_bipush (pc := 61) X 100 dX10_walker_61 (by decide) ?_
        refine J_icmp_ge (pc := 63) X 70 dX10_walker_63 (by decide) (fun c_6 => ?_) (fun c_6 => ?_)
        · have c_6 : 100 ≤ pos := n_le_of (a := 100) (b := pos) (by omega) (by omega) c_6
          refine J_iconst (pc := 70) X (-1) dX10_walker_70 (by decide) ?_
          refine J_iret (pc := 71) X hr (pl, yd, wy, pce_) dX10_walker_71 ?_ rfl
          rw [spWalker, if_pos ((inB_nI (by omega)).mpr hwn), nI_clamp (by omega), hpf]
          first | exact (if_pos (by omega)).symm | exact (if_neg (by omega)).symm
        · have c_6 : pos < 100 := n_nle_of (a := 100) (b := pos) (by omega) (by omega) c_6
          refine J_iload_n (pc := 66) X 0 dX10_walker_66 rfl ?_
          refine J_goto (pc := 67) X 71 dX10_walker_67 (by decide) ?_
          refine J_iret (pc := 71) X hr (pl, yd, wy, pce_) dX10_walker_71 ?_ rfl
          rw [spWalker, if_pos ((inB_nI (by omega)).mpr hwn), nI_clamp (by omega), hpf]
          first | exact (if_pos (by omega)).symm | exact (if_neg (by omega)).symm
      · refine J_tin (pc := 23) X 1 72 sw_5 dX10_walker_23 (by decide) (by decide) rfl (by decide) ?_
        subst sw_5
        refine J_iload_n (pc := 72) X 0 dX10_walker_72 rfl ?_
        refine J_bipush (pc := 73) X 100 dX10_walker_73 (by decide) ?_
        refine J_icmp_ge (pc := 75) X 82 dX10_walker_75 (by decide) (fun c_7 => ?_) (fun c_7 => ?_)
        · have c_7 : 100 ≤ pos := n_le_of (a := 100) (b := pos) (by omega) (by omega) c_7
          refine J_iload_n (pc := 82) X 0 dX10_walker_82 rfl ?_
          refine J_bipush (pc := 83) X 100 dX10_walker_83 (by decide) ?_
          refine J_isub (pc := 85) X dX10_walker_85 ?_
          refine J_top (y := nI (pos - 100)) (n_sub (x := pos) (y := 100) rfl rfl (by omega) (by omega)) ?_
          refine J_iret (pc := 86) X hr (pl, yd, wy, pce_) dX10_walker_86 ?_ rfl
          rw [spWalker, if_pos ((inB_nI (by omega)).mpr hwn), nI_clamp (by omega), hpf]
          first | exact (if_pos (by omega)).symm | exact (if_neg (by omega)).symm
        · have c_7 : pos < 100 := n_nle_of (a := 100) (b := pos) (by omega) (by omega) c_7
          refine J_iconst (pc := 78) X (-1) dX10_walker_78 (by decide) ?_
          refine J_goto (pc := 79) X 86 dX10_walker_79 (by decide) ?_
          refine J_iret (pc := 86) X hr (pl, yd, wy, pce_) dX10_walker_86 ?_ rfl
          rw [spWalker, if_pos ((inB_nI (by omega)).mpr hwn), nI_clamp (by omega), hpf]
          first | exact (if_pos (by omega)).symm | exact (if_neg (by omega)).symm
      · refine J_tin (pc := 23) X 2 87 sw_5 dX10_walker_23 (by decide) (by decide) rfl (by decide) ?_
        subst sw_5
        refine J_aload_n (pc := 87) X 1 dX10_walker_87 rfl ?_
        refine J_get (pc := 88) X clX10 0 13 rfl (by decide) g902 rfl dX10_walker_88 ?_
        refine J_iconst (pc := 91) X 2 dX10_walker_91 (by decide) ?_
        refine J_iconst (pc := 92) X 3 dX10_walker_92 (by decide) ?_
        refine J_iload_n (pc := 93) X 2 dX10_walker_93 rfl ?_
        refine J_imul (pc := 94) X dX10_walker_94 ?_
        refine J_top (y := nI (3 * wn)) (n_mul (x := 3) (y := wn) rfl rfl (by omega)) ?_
        refine J_iadd (pc := 95) X dX10_walker_95 ?_
        refine J_top (y := nI (3 * wn + 2)) (n_add (x := 2) (y := 3 * wn) rfl rfl (by omega)) ?_
        refine J_iconst (pc := 96) X 1 dX10_walker_96 (by decide) ?_
        refine J_iadd (pc := 97) X dX10_walker_97 ?_
        refine J_top (y := nI (3 * wn + 3)) (n_add (x := 3 * wn + 2) (y := 1) rfl rfl (by omega)) ?_
        refine J_iald (pc := 98) X 3 0 (3 * wn + 3) rfl rfl rfl (by omega) (by decide) dX10_walker_98 ?_
        refine J_iret (pc := 99) X hr (pl, yd, wy, pce_) dX10_walker_99 ?_ rfl
        rw [spWalker, if_pos ((inB_nI (by omega)).mpr hwn), nI_clamp (by omega), hpf]
        rfl
      · refine J_tin (pc := 23) X 3 100 sw_5 dX10_walker_23 (by decide) (by decide) rfl (by decide) ?_
        subst sw_5
        refine J_aload_n (pc := 100) X 1 dX10_walker_100 rfl ?_
        refine J_get (pc := 101) X clX10 0 13 rfl (by decide) g902 rfl dX10_walker_101 ?_
        refine J_iconst (pc := 104) X 2 dX10_walker_104 (by decide) ?_
        refine J_iconst (pc := 105) X 3 dX10_walker_105 (by decide) ?_
        refine J_iload_n (pc := 106) X 2 dX10_walker_106 rfl ?_
        refine J_imul (pc := 107) X dX10_walker_107 ?_
        refine J_top (y := nI (3 * wn)) (n_mul (x := 3) (y := wn) rfl rfl (by omega)) ?_
        refine J_iadd (pc := 108) X dX10_walker_108 ?_
        refine J_top (y := nI (3 * wn + 2)) (n_add (x := 2) (y := 3 * wn) rfl rfl (by omega)) ?_
        refine J_iconst (pc := 109) X 2 dX10_walker_109 (by decide) ?_
        refine J_iadd (pc := 110) X dX10_walker_110 ?_
        refine J_top (y := nI (3 * wn + 4)) (n_add (x := 3 * wn + 2) (y := 2) rfl rfl (by omega)) ?_
        refine J_iald (pc := 111) X 3 0 (3 * wn + 4) rfl rfl rfl (by omega) (by decide) dX10_walker_111 ?_
        refine J_iret (pc := 112) X hr (pl, yd, wy, pce_) dX10_walker_112 ?_ rfl
        rw [spWalker, if_pos ((inB_nI (by omega)).mpr hwn), nI_clamp (by omega), hpf]
        rfl
      · refine J_tin (pc := 23) X 4 113 sw_5 dX10_walker_23 (by decide) (by decide) rfl (by decide) ?_
        subst sw_5
        refine J_aload_n (pc := 113) X 1 dX10_walker_113 rfl ?_
        refine J_get (pc := 114) X clX10 0 6 rfl (by decide) g895 rfl dX10_walker_114 ?_
        refine J_iload_n (pc := 117) X 2 dX10_walker_117 rfl ?_
        refine J_iald (pc := 118) X 4 0 wn rfl rfl rfl (by omega) (by decide) dX10_walker_118 ?_
        refine J_iret (pc := 119) X hr (pl, yd, wy, pce_) dX10_walker_119 ?_ rfl
        rw [spWalker, if_pos ((inB_nI (by omega)).mpr hwn), nI_clamp (by omega), hpf]
        rfl
      · refine J_tin (pc := 23) X 5 120 sw_5 dX10_walker_23 (by decide) (by decide) rfl (by decide) ?_
        subst sw_5
        refine J_aload_n (pc := 120) X 1 dX10_walker_120 rfl ?_
        refine J_iload_n (pc := 121) X 2 dX10_walker_121 rfl ?_
        refine J_callI (pc := 122) (As := [.int (nI wn)]) (rest := []) X mtX10_whereIs g1090 [0, 1, 2, 3, 4] [] [0, 1, 2, 3, 4] 0 (fun u => [(q, .inr (10, [.ref qtx, .int (nI ln), .int fa, .ref qlw, .ref qgp, .ref qhm, .ref qpcs, .ref qdl, .ref qdg, .ref qdh, .ref qdp, .int dr, .int tl, .ref qnw, .ref qps, .int (nI dn), .ref qim, .ref qisd, .ref qkp, .int sd, .ref qfd, .int (nI fn), .ref qbk, .int (nI en), .int (nI at_), .int (nI wr), .int (nI pos), .int (nw (3 * wn + 3)), .int (nw (3 * wn + 4)), .int (pcs wn), .ref qal, .ref qco])), (qlw, .inl (cI, 5, .inl lw)), (qgp, .inl (cI, 8, .inl gp)), (qnw, .inl (cI, 14, .inl nw)), (qpcs, .inl (cI, 4, .inl pcs))]) (kX10_whereIs l G cI cC cZ q qtx qlw qgp qhm qpcs qdl qdg qdh qdp qnw qps qim qisd qkp qfd qbk qal qco ln fa dr dn sd fn en at_ wr pl yd wy pce_ tl lw gp nw pcs P gr wd g wk wn pos (by first | assumption | omega) (by first | assumption | omega) (by first | assumption | omega) (by first | assumption | omega) (by first | assumption | omega) (by first | assumption | omega) (by first | assumption | omega) (by first | assumption | omega) (by first | assumption | omega) (by first | assumption | omega) (by first | assumption | omega) hpos hpk) ⟨Nat.le_of_ble_eq_true rfl, Nat.le_of_ble_eq_true rfl⟩ rfl rfl rfl (by decide) (wr := []) rfl (by decide) (by decide) (fun _ => rfl) (by decide) rfl rfl rfl rfl rfl (Nat.le_of_ble_eq_true rfl) (Nat.zero_le _) (Nat.zero_le _) dX10_walker_122 (fun r_8 u_9 w_10 => ?_)
        try dsimp only at w_10
        try dsimp only at w_10
        subst w_10
        refine J_iret (pc := 125) X hr ((nI pos), (nw (3 * wn + 3)), (nw (3 * wn + 4)), (pcs wn)) dX10_walker_125 ?_ rfl
        rw [spWalker, if_pos ((inB_nI (by omega)).mpr hwn), nI_clamp (by omega), hpf]
        rfl
  · skip
    refine J_ldc (pc := 8) X g1066 dX10_walker_8 ?_
    refine J_iret (pc := 10) X hr (pl, yd, wy, pce_) dX10_walker_10 ?_ rfl
    exact (if_neg (by assumption)).symm
