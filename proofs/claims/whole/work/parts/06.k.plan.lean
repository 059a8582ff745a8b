set_option maxRecDepth 100000 in
set_option maxHeartbeats 600000 in
theorem kX5_clear (l : Launch) (G : va_G) (cI cC cZ : ClassId) (q : Nat) (qd : Nat) (qh : Nat) (qp : Nat) (P : Nat) (gr : Int32) (wd : Nat) (g : Nat) (wk : Nat) (fr : Int32) : CV l G (tys3 cI cC cZ) yX5_clear cX5_clear 1 ({ frames := 0, cells := 0, slots := 0, locals := 0 }) [.ref q] [(q, .inr (5, [.int (nI P), .int gr, .int (nI wd), .int (nI g), .int (nI wk), .int fr, .ref qd, .ref qh, .ref qp]))] (S := Unit) (fun (u : Unit) => True) (fun (u : Unit) => [(q, .inr (5, [.int 0, .int 0, .int 0, .int 0, .int 0, .int 0, .ref qd, .ref qh, .ref qp]))]) := by
  refine CV.intro (by decide) (Nat.le_of_ble_eq_true rfl) ?_
  intro p0 e0 s0 m0 ar0 be0 me0 c0 A0 X hr
  refine J_aload_n (pc := 0) X 0 dX5_clear_0 rfl ?_
  refine J_iconst (pc := 1) X 0 dX5_clear_1 (by decide) ?_
  refine J_put (pc := 2) X clX5 0 0 [(q, .inr (5, [.int 0, .int gr, .int (nI wd), .int (nI g), .int (nI wk), .int fr, .ref qd, .ref qh, .ref qp]))] rfl (by decide) g91 rfl rfl rfl (Nat.le_of_ble_eq_true rfl) rfl dX5_clear_2 ?_
  refine J_aload_n (pc := 5) X 0 dX5_clear_5 rfl ?_
  refine J_iconst (pc := 6) X 0 dX5_clear_6 (by decide) ?_
  refine J_put (pc := 7) X clX5 0 1 [(q, .inr (5, [.int 0, .int 0, .int (nI wd), .int (nI g), .int (nI wk), .int fr, .ref qd, .ref qh, .ref qp]))] rfl (by decide) g92 rfl rfl rfl (Nat.le_of_ble_eq_true rfl) rfl dX5_clear_7 ?_
  refine J_aload_n (pc := 10) X 0 dX5_clear_10 rfl ?_
  refine J_iconst (pc := 11) X 0 dX5_clear_11 (by decide) ?_
  refine J_put (pc := 12) X clX5 0 2 [(q, .inr (5, [.int 0, .int 0, .int 0, .int (nI g), .int (nI wk), .int fr, .ref qd, .ref qh, .ref qp]))] rfl (by decide) g93 rfl rfl rfl (Nat.le_of_ble_eq_true rfl) rfl dX5_clear_12 ?_
  refine J_aload_n (pc := 15) X 0 dX5_clear_15 rfl ?_
  refine J_iconst (pc := 16) X 0 dX5_clear_16 (by decide) ?_
  refine J_put (pc := 17) X clX5 0 3 [(q, .inr (5, [.int 0, .int 0, .int 0, .int 0, .int (nI wk), .int fr, .ref qd, .ref qh, .ref qp]))] rfl (by decide) g94 rfl rfl rfl (Nat.le_of_ble_eq_true rfl) rfl dX5_clear_17 ?_
  refine J_aload_n (pc := 20) X 0 dX5_clear_20 rfl ?_
  refine J_iconst (pc := 21) X 0 dX5_clear_21 (by decide) ?_
  refine J_put (pc := 22) X clX5 0 4 [(q, .inr (5, [.int 0, .int 0, .int 0, .int 0, .int 0, .int fr, .ref qd, .ref qh, .ref qp]))] rfl (by decide) g95 rfl rfl rfl (Nat.le_of_ble_eq_true rfl) rfl dX5_clear_22 ?_
  refine J_aload_n (pc := 25) X 0 dX5_clear_25 rfl ?_
  refine J_iconst (pc := 26) X 0 dX5_clear_26 (by decide) ?_
  refine J_put (pc := 27) X clX5 0 5 [(q, .inr (5, [.int 0, .int 0, .int 0, .int 0, .int 0, .int 0, .ref qd, .ref qh, .ref qp]))] rfl (by decide) g96 rfl rfl rfl (Nat.le_of_ble_eq_true rfl) rfl dX5_clear_27 ?_
  refine J_vret (pc := 30) X hr () dX5_clear_30 ?_ rfl
  trivial
set_option maxRecDepth 100000 in
set_option maxHeartbeats 600000 in
theorem kX5_tellNight (l : Launch) (G : va_G) (cI cC cZ : ClassId) (q : Nat) (qd : Nat) (qh : Nat) (qp : Nat) (P : Nat) (gr : Int32) (wd : Nat) (g : Nat) (wk : Nat) (fr : Int32) (P2 : Nat) (gr2 : Int32) (wd2 : Nat) : CV l G (tys3 cI cC cZ) yX5_tellNight cX5_tellNight 4 ({ frames := 0, cells := 0, slots := 0, locals := 0 }) [.ref q, .int (nI P2), .int gr2, .int (nI wd2)] [(q, .inr (5, [.int (nI P), .int gr, .int (nI wd), .int (nI g), .int (nI wk), .int fr, .ref qd, .ref qh, .ref qp]))] (S := Unit) (fun (u : Unit) => True) (fun (u : Unit) => [(q, .inr (5, [.int (nI P2), .int gr2, .int (nI wd2), .int (nI g), .int (nI wk), .int fr, .ref qd, .ref qh, .ref qp]))]) := by
  refine CV.intro (by decide) (Nat.le_of_ble_eq_true rfl) ?_
  intro p0 e0 s0 m0 ar0 be0 me0 c0 A0 X hr
  refine J_aload_n (pc := 0) X 0 dX5_tellNight_0 rfl ?_
  refine J_iload_n (pc := 1) X 1 dX5_tellNight_1 rfl ?_
  refine J_put (pc := 2) X clX5 0 0 [(q, .inr (5, [.int (nI P2), .int gr, .int (nI wd), .int (nI g), .int (nI wk), .int fr, .ref qd, .ref qh, .ref qp]))] rfl (by decide) g91 rfl rfl rfl (Nat.le_of_ble_eq_true rfl) rfl dX5_tellNight_2 ?_
  refine J_aload_n (pc := 5) X 0 dX5_tellNight_5 rfl ?_
  refine J_iload_n (pc := 6) X 2 dX5_tellNight_6 rfl ?_
  refine J_put (pc := 7) X clX5 0 1 [(q, .inr (5, [.int (nI P2), .int gr2, .int (nI wd), .int (nI g), .int (nI wk), .int fr, .ref qd, .ref qh, .ref qp]))] rfl (by decide) g92 rfl rfl rfl (Nat.le_of_ble_eq_true rfl) rfl dX5_tellNight_7 ?_
  refine J_aload_n (pc := 10) X 0 dX5_tellNight_10 rfl ?_
  refine J_iload_n (pc := 11) X 3 dX5_tellNight_11 rfl ?_
  refine J_put (pc := 12) X clX5 0 2 [(q, .inr (5, [.int (nI P2), .int gr2, .int (nI wd2), .int (nI g), .int (nI wk), .int fr, .ref qd, .ref qh, .ref qp]))] rfl (by decide) g93 rfl rfl rfl (Nat.le_of_ble_eq_true rfl) rfl dX5_tellNight_12 ?_
  refine J_vret (pc := 15) X hr () dX5_tellNight_15 ?_ rfl
  trivial
set_option maxRecDepth 100000 in
set_option maxHeartbeats 600000 in
theorem kX5_addGap (l : Launch) (G : va_G) (cI cC cZ : ClassId) (q : Nat) (qd : Nat) (qh : Nat) (qp : Nat) (P : Nat) (gr : Int32) (wd : Nat) (g : Nat) (wk : Nat) (fr : Int32) (dyr : Nat → Int32) (dayx : Int32) (hg8 : g < 8) : CV l G (tys3 cI cC cZ) yX5_addGap cX5_addGap 2 ({ frames := 0, cells := 0, slots := 0, locals := 0 }) [.ref q, .int dayx] [(q, .inr (5, [.int (nI P), .int gr, .int (nI wd), .int (nI g), .int (nI wk), .int fr, .ref qd, .ref qh, .ref qp])), (qd, .inl (cI, 8, .inl dyr))] (S := Unit) (fun (u : Unit) => True) (fun (u : Unit) => [(q, .inr (5, [.int (nI P), .int gr, .int (nI wd), .int (nI (g + 1)), .int (nI wk), .int fr, .ref qd, .ref qh, .ref qp])), (qd, .inl (cI, 8, .inl (upd dyr g dayx)))]) := by
  refine CV.intro (by decide) (Nat.le_of_ble_eq_true rfl) ?_
  intro p0 e0 s0 m0 ar0 be0 me0 c0 A0 X hr
  refine J_aload_n (pc := 0) X 0 dX5_addGap_0 rfl ?_
  refine J_get (pc := 1) X clX5 0 3 rfl (by decide) g94 rfl dX5_addGap_1 ?_
  refine J_if_lt (pc := 4) X 39 dX5_addGap_4 (by decide) (fun c_1 => ?_) (fun c_1 => ?_)
  · have c_1 : g < 0 := n_lt_of (a := g) (b := 0) (by omega) (by omega) c_1
    exfalso; omega
  · have c_1 : 0 ≤ g := n_nlt_of (a := g) (b := 0) (by omega) (by omega) c_1
    refine J_aload_n (pc := 7) X 0 dX5_addGap_7 rfl ?_
    refine J_get (pc := 8) X clX5 0 3 rfl (by decide) g94 rfl dX5_addGap_8 ?_
    refine J_aload_n (pc := 11) X 0 dX5_addGap_11 rfl ?_
    refine J_get (pc := 12) X clX5 0 6 rfl (by decide) g97 rfl dX5_addGap_12 ?_
    refine J_alen (pc := 15) X 1 0 rfl rfl dX5_addGap_15 ?_
    refine J_icmp_ge (pc := 16) X 39 dX5_addGap_16 (by decide) (fun c_2 => ?_) (fun c_2 => ?_)
    · have c_2 : 8 ≤ g := n_le_of (a := 8) (b := g) (by omega) (by omega) c_2
      exfalso; omega
    · have c_2 : g < 8 := n_nle_of (a := 8) (b := g) (by omega) (by omega) c_2
      refine J_aload_n (pc := 19) X 0 dX5_addGap_19 rfl ?_
      refine J_get (pc := 20) X clX5 0 6 rfl (by decide) g97 rfl dX5_addGap_20 ?_
      refine J_aload_n (pc := 23) X 0 dX5_addGap_23 rfl ?_
      refine J_get (pc := 24) X clX5 0 3 rfl (by decide) g94 rfl dX5_addGap_24 ?_
      refine J_iload_n (pc := 27) X 1 dX5_addGap_27 rfl ?_
      refine J_iast (pc := 28) X 1 0 g [(q, .inr (5, [.int (nI P), .int gr, .int (nI wd), .int (nI g), .int (nI wk), .int fr, .ref qd, .ref qh, .ref qp])), (qd, .inl (cI, 8, .inl (upd dyr g dayx)))] rfl rfl rfl (by omega) (by decide) rfl dX5_addGap_28 ?_
      refine J_aload_n (pc := 29) X 0 dX5_addGap_29 rfl ?_
      refine J_dup (pc := 30) X dX5_addGap_30 rfl ?_
      refine J_get (pc := 31) X clX5 0 3 rfl (by decide) g94 rfl dX5_addGap_31 ?_
      refine J_iconst (pc := 34) X 1 dX5_addGap_34 (by decide) ?_
      refine J_iadd (pc := 35) X dX5_addGap_35 ?_
      refine J_top (y := nI (g + 1)) (n_add (x := g) (y := 1) rfl rfl (by omega)) ?_
      refine J_put (pc := 36) X clX5 0 3 [(q, .inr (5, [.int (nI P), .int gr, .int (nI wd), .int (nI (g + 1)), .int (nI wk), .int fr, .ref qd, .ref qh, .ref qp])), (qd, .inl (cI, 8, .inl (upd dyr g dayx)))] rfl (by decide) g94 rfl rfl rfl (Nat.le_of_ble_eq_true rfl) rfl dX5_addGap_36 ?_
      refine J_vret (pc := 39) X hr () dX5_addGap_39 ?_ rfl
      trivial
set_option maxRecDepth 100000 in
set_option maxHeartbeats 600000 in
theorem kX5_addWalker (l : Launch) (G : va_G) (cI cC cZ : ClassId) (q : Nat) (qd : Nat) (qh : Nat) (qp : Nat) (P : Nat) (gr : Int32) (wd : Nat) (g : Nat) (wk : Nat) (fr : Int32) (hor : Nat → Int32) (par_ : Nat → Int32) (hx : Int32) (px : Int32) (hw4 : wk < 4) : CV l G (tys3 cI cC cZ) yX5_addWalker cX5_addWalker 3 ({ frames := 0, cells := 0, slots := 0, locals := 0 }) [.ref q, .int hx, .int px] [(q, .inr (5, [.int (nI P), .int gr, .int (nI wd), .int (nI g), .int (nI wk), .int fr, .ref qd, .ref qh, .ref qp])), (qh, .inl (cI, 4, .inl hor)), (qp, .inl (cI, 4, .inl par_))] (S := Unit) (fun (u : Unit) => True) (fun (u : Unit) => [(q, .inr (5, [.int (nI P), .int gr, .int (nI wd), .int (nI g), .int (nI (wk + 1)), .int fr, .ref qd, .ref qh, .ref qp])), (qh, .inl (cI, 4, .inl (upd hor wk hx))), (qp, .inl (cI, 4, .inl (upd par_ wk px)))]) := by
  refine CV.intro (by decide) (Nat.le_of_ble_eq_true rfl) ?_
  intro p0 e0 s0 m0 ar0 be0 me0 c0 A0 X hr
  refine J_aload_n (pc := 0) X 0 dX5_addWalker_0 rfl ?_
  refine J_get (pc := 1) X clX5 0 4 rfl (by decide) g95 rfl dX5_addWalker_1 ?_
  refine J_if_lt (pc := 4) X 61 dX5_addWalker_4 (by decide) (fun c_1 => ?_) (fun c_1 => ?_)
  · have c_1 : wk < 0 := n_lt_of (a := wk) (b := 0) (by omega) (by omega) c_1
    exfalso; omega
  · have c_1 : 0 ≤ wk := n_nlt_of (a := wk) (b := 0) (by omega) (by omega) c_1
    refine J_aload_n (pc := 7) X 0 dX5_addWalker_7 rfl ?_
    refine J_get (pc := 8) X clX5 0 4 rfl (by decide) g95 rfl dX5_addWalker_8 ?_
    refine J_aload_n (pc := 11) X 0 dX5_addWalker_11 rfl ?_
    refine J_get (pc := 12) X clX5 0 7 rfl (by decide) g98 rfl dX5_addWalker_12 ?_
    refine J_alen (pc := 15) X 1 0 rfl rfl dX5_addWalker_15 ?_
    refine J_icmp_ge (pc := 16) X 61 dX5_addWalker_16 (by decide) (fun c_2 => ?_) (fun c_2 => ?_)
    · have c_2 : 4 ≤ wk := n_le_of (a := 4) (b := wk) (by omega) (by omega) c_2
      exfalso; omega
    · have c_2 : wk < 4 := n_nle_of (a := 4) (b := wk) (by omega) (by omega) c_2
      refine J_aload_n (pc := 19) X 0 dX5_addWalker_19 rfl ?_
      refine J_get (pc := 20) X clX5 0 4 rfl (by decide) g95 rfl dX5_addWalker_20 ?_
      refine J_aload_n (pc := 23) X 0 dX5_addWalker_23 rfl ?_
      refine J_get (pc := 24) X clX5 0 8 rfl (by decide) g99 rfl dX5_addWalker_24 ?_
      refine J_alen (pc := 27) X 2 0 rfl rfl dX5_addWalker_27 ?_
      refine J_icmp_ge (pc := 28) X 61 dX5_addWalker_28 (by decide) (fun c_3 => ?_) (fun c_3 => ?_)
      · have c_3 : 4 ≤ wk := n_le_of (a := 4) (b := wk) (by omega) (by omega) c_3
        exfalso; omega
      · have c_3 : wk < 4 := n_nle_of (a := 4) (b := wk) (by omega) (by omega) c_3
        refine J_aload_n (pc := 31) X 0 dX5_addWalker_31 rfl ?_
        refine J_get (pc := 32) X clX5 0 7 rfl (by decide) g98 rfl dX5_addWalker_32 ?_
        refine J_aload_n (pc := 35) X 0 dX5_addWalker_35 rfl ?_
        refine J_get (pc := 36) X clX5 0 4 rfl (by decide) g95 rfl dX5_addWalker_36 ?_
        refine J_iload_n (pc := 39) X 1 dX5_addWalker_39 rfl ?_
        refine J_iast (pc := 40) X 1 0 wk [(q, .inr (5, [.int (nI P), .int gr, .int (nI wd), .int (nI g), .int (nI wk), .int fr, .ref qd, .ref qh, .ref qp])), (qh, .inl (cI, 4, .inl (upd hor wk hx))), (qp, .inl (cI, 4, .inl par_))] rfl rfl rfl (by omega) (by decide) rfl dX5_addWalker_40 ?_
        refine J_aload_n (pc := 41) X 0 dX5_addWalker_41 rfl ?_
        refine J_get (pc := 42) X clX5 0 8 rfl (by decide) g99 rfl dX5_addWalker_42 ?_
        refine J_aload_n (pc := 45) X 0 dX5_addWalker_45 rfl ?_
        refine J_get (pc := 46) X clX5 0 4 rfl (by decide) g95 rfl dX5_addWalker_46 ?_
        refine J_iload_n (pc := 49) X 2 dX5_addWalker_49 rfl ?_
        refine J_iast (pc := 50) X 2 0 wk [(q, .inr (5, [.int (nI P), .int gr, .int (nI wd), .int (nI g), .int (nI wk), .int fr, .ref qd, .ref qh, .ref qp])), (qh, .inl (cI, 4, .inl (upd hor wk hx))), (qp, .inl (cI, 4, .inl (upd par_ wk px)))] rfl rfl rfl (by omega) (by decide) rfl dX5_addWalker_50 ?_
        refine J_aload_n (pc := 51) X 0 dX5_addWalker_51 rfl ?_
        refine J_dup (pc := 52) X dX5_addWalker_52 rfl ?_
        refine J_get (pc := 53) X clX5 0 4 rfl (by decide) g95 rfl dX5_addWalker_53 ?_
        refine J_iconst (pc := 56) X 1 dX5_addWalker_56 (by decide) ?_
        refine J_iadd (pc := 57) X dX5_addWalker_57 ?_
        refine J_top (y := nI (wk + 1)) (n_add (x := wk) (y := 1) rfl rfl (by omega)) ?_
        refine J_put (pc := 58) X clX5 0 4 [(q, .inr (5, [.int (nI P), .int gr, .int (nI wd), .int (nI g), .int (nI (wk + 1)), .int fr, .ref qd, .ref qh, .ref qp])), (qh, .inl (cI, 4, .inl (upd hor wk hx))), (qp, .inl (cI, 4, .inl (upd par_ wk px)))] rfl (by decide) g95 rfl rfl rfl (Nat.le_of_ble_eq_true rfl) rfl dX5_addWalker_58 ?_
        refine J_vret (pc := 61) X hr () dX5_addWalker_61 ?_ rfl
        trivial
set_option maxRecDepth 100000 in
set_option maxHeartbeats 600000 in
theorem kX5_addRope (l : Launch) (G : va_G) (cI cC cZ : ClassId) (q : Nat) (qd : Nat) (qh : Nat) (qp : Nat) (P : Nat) (gr : Int32) (wd : Nat) (g : Nat) (wk : Nat) (fr : Int32) (kk : Int32) : CV l G (tys3 cI cC cZ) yX5_addRope cX5_addRope 2 ({ frames := 0, cells := 0, slots := 0, locals := 0 }) [.ref q, .int kk] [(q, .inr (5, [.int (nI P), .int gr, .int (nI wd), .int (nI g), .int (nI wk), .int fr, .ref qd, .ref qh, .ref qp]))] (S := Unit) (fun (u : Unit) => True) (fun (u : Unit) => [(q, .inr (5, [.int (nI P), .int gr, .int (nI wd), .int (nI g), .int (nI wk), .int (fr ||| (1 : Int32) <<< (kk &&& 31)), .ref qd, .ref qh, .ref qp]))]) := by
  refine CV.intro (by decide) (Nat.le_of_ble_eq_true rfl) ?_
  intro p0 e0 s0 m0 ar0 be0 me0 c0 A0 X hr
  refine J_aload_n (pc := 0) X 0 dX5_addRope_0 rfl ?_
  refine J_dup (pc := 1) X dX5_addRope_1 rfl ?_
  refine J_get (pc := 2) X clX5 0 5 rfl (by decide) g96 rfl dX5_addRope_2 ?_
  refine J_iconst (pc := 5) X 1 dX5_addRope_5 (by decide) ?_
  refine J_iload_n (pc := 6) X 1 dX5_addRope_6 rfl ?_
  refine J_ishl (pc := 7) X dX5_addRope_7 ?_
  refine J_ior (pc := 8) X dX5_addRope_8 ?_
  refine J_put (pc := 9) X clX5 0 5 [(q, .inr (5, [.int (nI P), .int gr, .int (nI wd), .int (nI g), .int (nI wk), .int (fr ||| (1 <<< (kk &&& 31))), .ref qd, .ref qh, .ref qp]))] rfl (by decide) g96 rfl rfl rfl (Nat.le_of_ble_eq_true rfl) rfl dX5_addRope_9 ?_
  refine J_vret (pc := 12) X hr () dX5_addRope_12 ?_ rfl
  trivial
