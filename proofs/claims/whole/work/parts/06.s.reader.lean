set_option maxRecDepth 100000 in
set_option maxHeartbeats 600000 in
theorem kX6_readHouses (l : Launch) (G : va_G) (cI cC cZ : ClassId) (qr : Nat) (qrl : Nat) (ln : Nat) (at_ : Nat) (fk : Nat) (fa : Int32) (lt : Nat → Int32) (tx : Nat → Int32) (q : Nat) (qd : Nat) (qh : Nat) (qp : Nat) (P : Nat) (gr : Int32) (wd : Nat) (g : Nat) (wk : Nat) (fr : Int32) (dyr : Nat → Int32) (dg : Nat → Int32) (hln : ln ≤ 200) (hat : at_ < ln) (hfk : fk ≤ 4) (hlt : ∀ i9, i9 < ln → lt i9 = tx i9) (hrd : rdR ln at_ fk fa at_ 0) (hPl : P ≤ 60) (hg : g ≤ 8) (hwk : wk ≤ 4) (hwd : wd ≤ 50) : CV l G (tys3 cI cC cZ) yX6_readHouses cX6_readHouses 3 ({ frames := 3, cells := 0, slots := 0, locals := 66 }) [.ref qr, .ref q] [(qr, .inr (6, [.ref qrl, .int (nI ln), .int (nI at_), .int (nI fk), .int fa])), (qrl, .inl (cC, 200, .inl lt)), (q, .inr (5, [.int (nI P), .int gr, .int (nI wd), .int (nI g), .int (nI wk), .int fr, .ref qd, .ref qh, .ref qp])), (qd, .inl (cI, 8, .inl dyr))] (S := Nat × Nat × Int32 × Nat × (Nat → Int32)) (fun (u : Nat × Nat × Int32 × Nat × (Nat → Int32)) => rdR ln u.1 u.2.1 u.2.2.1 (rdGaps tx ln at_ g dg).1 (rdGaps tx ln at_ g dg).2.1 ∧ u.2.2.2.1 ≤ 8 ∧ (u.2.1 = 0 → g = 0 ∧ 0 < u.2.2.2.1 ∧ (rdGaps tx ln at_ g dg).2.2.1 = u.2.2.2.1 ∧ ∀ j9, j9 < u.2.2.2.1 → u.2.2.2.2 j9 = (rdGaps tx ln at_ g dg).2.2.2 j9)) (fun (u : Nat × Nat × Int32 × Nat × (Nat → Int32)) => [(qr, .inr (6, [.ref qrl, .int (nI ln), .int (nI u.1), .int (nI u.2.1), .int u.2.2.1])), (qrl, .inl (cC, 200, .inl lt)), (q, .inr (5, [.int (nI P), .int gr, .int (nI wd), .int (nI u.2.2.2.1), .int (nI wk), .int fr, .ref qd, .ref qh, .ref qp])), (qd, .inl (cI, 8, .inl u.2.2.2.2))]) := by
  refine CV.intro (by decide) (Nat.le_of_ble_eq_true rfl) ?_
  intro p0 e0 s0 m0 ar0 be0 me0 c0 A0 X hr
  have hatl : at_ ≤ ln := by omega
  have hrg : rdR ln (at_ + 1) fk fa (at_ + 1) 0 := rdR_go hrd (by omega) rfl
  refine J_aload_n (pc := 0) X 1 dX6_readHouses_0 rfl ?_
  refine J_callR (pc := 1) (As := []) (rest := []) X mtX5_gapCount g354 [2] 0 (kX5_gapCount l G cI cC cZ q qd qh qp P gr wd g wk fr ) ⟨Nat.le_of_ble_eq_true rfl, Nat.le_of_ble_eq_true rfl⟩ rfl rfl rfl (by decide) rfl rfl rfl rfl rfl (Nat.le_of_ble_eq_true rfl) (Nat.zero_le _) (Nat.zero_le _) dX6_readHouses_1 (fun r_1 u_2 w_3 => ?_)
  try dsimp only at w_3
  subst w_3
  refine J_if_le (pc := 4) X 17 dX6_readHouses_4 (by decide) (fun c_4 => ?_) (fun c_4 => ?_)
  · have c_4 : g ≤ 0 := n_le_of (a := g) (b := 0) (by omega) (by omega) c_4
    have eg0 : g = 0 := by omega
    refine J_aload_n (pc := 17) X 0 dX6_readHouses_17 rfl ?_
    refine J_dup (pc := 18) X dX6_readHouses_18 rfl ?_
    refine J_get (pc := 19) X clX6 0 2 rfl (by decide) g128 rfl dX6_readHouses_19 ?_
    refine J_iconst (pc := 22) X 1 dX6_readHouses_22 (by decide) ?_
    refine J_iadd (pc := 23) X dX6_readHouses_23 ?_
    refine J_top (y := nI (at_ + 1)) (n_add (x := at_) (y := 1) rfl rfl (by omega)) ?_
    refine J_put (pc := 24) X clX6 0 2 [(qr, .inr (6, [.ref qrl, .int (nI ln), .int (nI (at_ + 1)), .int (nI fk), .int fa])), (qrl, .inl (cC, 200, .inl lt)), (q, .inr (5, [.int (nI P), .int gr, .int (nI wd), .int (nI g), .int (nI wk), .int fr, .ref qd, .ref qh, .ref qp])), (qd, .inl (cI, 8, .inl dyr))] rfl (by decide) g128 rfl rfl rfl (Nat.le_of_ble_eq_true rfl) rfl dX6_readHouses_24 ?_
    refine J_aload_n (pc := 27) X 1 dX6_readHouses_27 rfl ?_
    refine J_aload_n (pc := 28) X 0 dX6_readHouses_28 rfl ?_
    refine J_iconst (pc := 29) X 1 dX6_readHouses_29 (by decide) ?_
    refine J_bipush (pc := 30) X 60 dX6_readHouses_30 (by decide) ?_
    refine J_callI (pc := 32) (As := [.int 1, .int 60]) (rest := [.ref q]) X mtX6_readNumber g335 [0, 1] [2, 3] [2, 3, 0, 1] 0 (fun u => [(qr, .inr (6, [.ref qrl, .int (nI ln), .int (nI u.1), .int (nI u.2.1), .int u.2.2])), (qrl, .inl (cC, 200, .inl lt)), (q, .inr (5, [.int (nI P), .int gr, .int (nI wd), .int (nI g), .int (nI wk), .int fr, .ref qd, .ref qh, .ref qp])), (qd, .inl (cI, 8, .inl dyr))]) (kX6_readNumber l G cI cC cZ qr qrl ln (at_ + 1) fk fa lt tx (at_ + 1) 0 1 60 (by first | assumption | omega) (by first | assumption | omega) (by first | assumption | omega) (by first | assumption | omega) hrg) ⟨Nat.le_of_ble_eq_true rfl, Nat.le_of_ble_eq_true rfl⟩ rfl rfl rfl (by decide) (wr := [(q, .inr (5, [.int (nI P), .int gr, .int (nI wd), .int (nI g), .int (nI wk), .int fr, .ref qd, .ref qh, .ref qp])), (qd, .inl (cI, 8, .inl dyr))]) rfl (by decide) (by decide) (fun _ => rfl) (by decide) rfl rfl rfl rfl rfl (Nat.le_of_ble_eq_true rfl) (Nat.zero_le _) (Nat.zero_le _) dX6_readHouses_32 (fun v1 u_5 w_6 => ?_)
    obtain ⟨t1, k1, f1⟩ := u_5
    try dsimp only at w_6
    obtain ⟨a1, w1, x1, hn1, hr1, hv1⟩ := nm_ex w_6
    have ht1 := rdR_le hr1
    have hk1 := rdR_k hr1
    refine J_callV (pc := 35) (As := [.int v1]) (rest := []) X mtX5_addGap g358 [2, 3] [0, 1] [0, 1, 2, 3] 0 (fun u => [(qr, .inr (6, [.ref qrl, .int (nI ln), .int (nI t1), .int (nI k1), .int f1])), (qrl, .inl (cC, 200, .inl lt)), (q, .inr (5, [.int (nI P), .int gr, .int (nI wd), .int (nI (g + 1)), .int (nI wk), .int fr, .ref qd, .ref qh, .ref qp])), (qd, .inl (cI, 8, .inl (upd dyr g v1)))]) (kX5_addGap l G cI cC cZ q qd qh qp P gr wd g wk fr dyr v1 (by first | assumption | omega)) ⟨Nat.le_of_ble_eq_true rfl, Nat.le_of_ble_eq_true rfl⟩ rfl rfl rfl (by decide) (wr := [(qr, .inr (6, [.ref qrl, .int (nI ln), .int (nI t1), .int (nI k1), .int f1])), (qrl, .inl (cC, 200, .inl lt))]) rfl (by decide) (by decide) (fun _ => rfl) (by decide) rfl rfl rfl rfl rfl (Nat.le_of_ble_eq_true rfl) (Nat.zero_le _) (Nat.zero_le _) dX6_readHouses_35 (fun u_8 w_9 => ?_)
    try dsimp only at w_9
    refine J_aload_n (pc := 38) X 0 dX6_readHouses_38 rfl ?_
    refine J_callV (pc := 39) (As := []) (rest := []) X mtX6_skipBlanks g307 [0, 1] [2, 3] [2, 3, 0, 1] 0 (fun u => [(qr, .inr (6, [.ref qrl, .int (nI ln), .int (nI u), .int (nI k1), .int f1])), (qrl, .inl (cC, 200, .inl lt)), (q, .inr (5, [.int (nI P), .int gr, .int (nI wd), .int (nI (g + 1)), .int (nI wk), .int fr, .ref qd, .ref qh, .ref qp])), (qd, .inl (cI, 8, .inl (upd dyr g v1)))]) (kX6_skipBlanks l G cI cC cZ qr qrl ln t1 k1 f1 lt tx (by first | assumption | omega) (by first | assumption | omega) (by first | assumption | omega) (by first | assumption | omega)) ⟨Nat.le_of_ble_eq_true rfl, Nat.le_of_ble_eq_true rfl⟩ rfl rfl rfl (by decide) (wr := [(q, .inr (5, [.int (nI P), .int gr, .int (nI wd), .int (nI (g + 1)), .int (nI wk), .int fr, .ref qd, .ref qh, .ref qp])), (qd, .inl (cI, 8, .inl (upd dyr g v1)))]) rfl (by decide) (by decide) (fun _ => rfl) (by decide) rfl rfl rfl rfl rfl (Nat.le_of_ble_eq_true rfl) (Nat.zero_le _) (Nat.zero_le _) dX6_readHouses_39 (fun u_11 w_12 => ?_)
    obtain ⟨s1, rfl⟩ : ∃ z, z = u_11 := ⟨_, rfl⟩
    try dsimp only at w_12
    have hs1 := w_12
    have hs1l : s1 ≤ ln := by rw [hs1]; exact sk_le ht1
    refine J_iconst (pc := 42) X 1 dX6_readHouses_42 (by decide) ?_
    refine J_istore_n (pc := 43) X [(2, .int 1), (0, .ref qr), (1, .ref q)] dX6_readHouses_43 (by decide) rfl ?_
    have L_44 : ∀ (n_44 : Nat) (c : Nat) (i : Nat) (k : Nat) (f : Int32) (dyc : Nat → Int32) (a : Nat) (w : Nat) (dgc : Nat → Int32) (hc1 : 1 ≤ c) (hc8 : c ≤ 8) (hil0 : i ≤ ln) (hk4 : k ≤ 4) (hrl : rdR ln i k f a w) (hT : gpL tx ln (9 - c) a w c dgc = gpL tx ln 8 (skS tx ln w1 a1) w1 1 (upd dg 0 x1)) (hdl : k = 0 → ∀ j9, j9 < c → dyc j9 = dgc j9), (8 - c) < n_44 → JJ p0 l e0 ({ frames := 3, cells := 0, slots := 0, locals := 66 }) s0 m0 ar0 be0 me0 c0 A0 G 3 0 0 (QV be0 ar0 s0 A0 G (tys3 cI cC cZ) (S := Nat × Nat × Int32 × Nat × (Nat → Int32)) (fun (u : Nat × Nat × Int32 × Nat × (Nat → Int32)) => rdR ln u.1 u.2.1 u.2.2.1 (rdGaps tx ln at_ g dg).1 (rdGaps tx ln at_ g dg).2.1 ∧ u.2.2.2.1 ≤ 8 ∧ (u.2.1 = 0 → g = 0 ∧ 0 < u.2.2.2.1 ∧ (rdGaps tx ln at_ g dg).2.2.1 = u.2.2.2.1 ∧ ∀ j9, j9 < u.2.2.2.1 → u.2.2.2.2 j9 = (rdGaps tx ln at_ g dg).2.2.2 j9)) (fun (u : Nat × Nat × Int32 × Nat × (Nat → Int32)) => [(qr, .inr (6, [.ref qrl, .int (nI ln), .int (nI u.1), .int (nI u.2.1), .int u.2.2.1])), (qrl, .inl (cC, 200, .inl lt)), (q, .inr (5, [.int (nI P), .int gr, .int (nI wd), .int (nI u.2.2.2.1), .int (nI wk), .int fr, .ref qd, .ref qh, .ref qp])), (qd, .inl (cI, 8, .inl u.2.2.2.2))])) [(qr, .inr (6, [.ref qrl, .int (nI ln), .int (nI i), .int (nI k), .int f])), (qrl, .inl (cC, 200, .inl lt)), (q, .inr (5, [.int (nI P), .int gr, .int (nI wd), .int (nI (g + c)), .int (nI wk), .int fr, .ref qd, .ref qh, .ref qp])), (qd, .inl (cI, 8, .inl dyc))] 44 [(0, .ref qr), (1, .ref q), (2, .int (nI c))] [] := by
      intro n_44
      induction n_44 with
      | zero => intro c i k f dyc a w dgc hc1 hc8 hil0 hk4 hrl hT hdl hm_44; exact absurd hm_44 (Nat.not_lt_zero _)
      | succ n_44 ih_44 =>
        intro c i k f dyc a w dgc hc1 hc8 hil0 hk4 hrl hT hdl hm_44
        refine J_iload_n (pc := 44) X 2 dX6_readHouses_44 rfl ?_
        refine J_bipush (pc := 45) X 8 dX6_readHouses_45 (by decide) ?_
        refine J_icmp_ge (pc := 47) X 97 dX6_readHouses_47 (by decide) (fun c_13 => ?_) (fun c_13 => ?_)
        · have c_13 : 8 ≤ c := n_le_of (a := 8) (b := c) (by omega) (by omega) c_13
          refine J_aload_n (pc := 97) X 0 dX6_readHouses_97 rfl ?_
          refine J_callV (pc := 98) (As := []) (rest := []) X mtX6_readEnd g342 [0, 1] [2, 3] [2, 3, 0, 1] 0 (fun u => [(qr, .inr (6, [.ref qrl, .int (nI ln), .int (nI u.1), .int (nI u.2.1), .int u.2.2])), (qrl, .inl (cC, 200, .inl lt)), (q, .inr (5, [.int (nI P), .int gr, .int (nI wd), .int (nI (g + c)), .int (nI wk), .int fr, .ref qd, .ref qh, .ref qp])), (qd, .inl (cI, 8, .inl dyc))]) (kX6_readEnd l G cI cC cZ qr qrl ln i k f lt tx a w (by first | assumption | omega) (by first | assumption | omega) (by first | assumption | omega) (by first | assumption | omega) hrl) ⟨Nat.le_of_ble_eq_true rfl, Nat.le_of_ble_eq_true rfl⟩ rfl rfl rfl (by decide) (wr := [(q, .inr (5, [.int (nI P), .int gr, .int (nI wd), .int (nI (g + c)), .int (nI wk), .int fr, .ref qd, .ref qh, .ref qp])), (qd, .inl (cI, 8, .inl dyc))]) rfl (by decide) (by decide) (fun _ => rfl) (by decide) rfl rfl rfl rfl rfl (Nat.le_of_ble_eq_true rfl) (Nat.zero_le _) (Nat.zero_le _) dX6_readHouses_98 (fun u_15 w_16 => ?_)
          obtain ⟨t4, k4, f4⟩ := u_15
          try dsimp only at w_16
          have hv5 : k4 = 0 → w = 0 := (fun z9 => Decidable.byContradiction (fun q9 => by have e9 := w_16.1.symm.trans z9; rw [wd_w q9] at e9; exact q9 e9))
          obtain ⟨a4, w4, hn4, hr4, hv4⟩ := wd_ex w_16
          have ht4 := rdR_le hr4
          have hk4 := rdR_k hr4
          refine J_vret (pc := 101) X hr (t4, k4, f4, (g + c), dyc) dX6_readHouses_101 ?_ rfl
          obtain ⟨b1, b2, hb1, hb2⟩ := gp_fin hT (by first | exact Or.inl (by omega) | exact Or.inr (fun z9 => absurd (show lk tx ln i = 44 from by rw [(hrl.2.2.2.1 z9.1).1]; exact z9.2) (by assumption)) | exact Or.inr (fun z9 => absurd (hrl.1.trans z9.1) (by omega)))
          rw [← hb2] at hn4
          have e9 := rdGaps_t (show ¬ 0 < g from by omega) hn1 rfl hb1 hn4
          rw [← e9]
          refine ⟨hr4, (show g + c ≤ 8 from by omega), fun z => ⟨by omega, (show 0 < g + c from by omega), (show c = g + c from by omega), fun j9 h9 => ?_⟩⟩
          have h8 : j9 < g + c := h9
          exact hdl (hrl.1.trans (hv5 z)) j9 (by omega)
        · have c_13 : c < 8 := n_nle_of (a := 8) (b := c) (by omega) (by omega) c_13
          refine J_aload_n (pc := 50) X 0 dX6_readHouses_50 rfl ?_
          refine J_callR (pc := 51) (As := []) (rest := []) X mtX6_letter g311 [0, 1] 0 (kX6_letter l G cI cC cZ qr qrl ln i k f lt tx (by first | assumption | omega) (by first | assumption | omega) (by first | assumption | omega) (by first | assumption | omega)) ⟨Nat.le_of_ble_eq_true rfl, Nat.le_of_ble_eq_true rfl⟩ rfl rfl rfl (by decide) rfl rfl rfl rfl rfl (Nat.le_of_ble_eq_true rfl) (Nat.zero_le _) (Nat.zero_le _) dX6_readHouses_51 (fun r_17 u_18 w_19 => ?_)
          try dsimp only at w_19
          subst w_19
          refine J_bipush (pc := 54) X 44 dX6_readHouses_54 (by decide) ?_
          refine J_icmp_ne (pc := 56) X 97 dX6_readHouses_56 (by decide) (fun c_20 => ?_) (fun c_20 => ?_)
          · skip
            refine J_aload_n (pc := 97) X 0 dX6_readHouses_97 rfl ?_
            refine J_callV (pc := 98) (As := []) (rest := []) X mtX6_readEnd g342 [0, 1] [2, 3] [2, 3, 0, 1] 0 (fun u => [(qr, .inr (6, [.ref qrl, .int (nI ln), .int (nI u.1), .int (nI u.2.1), .int u.2.2])), (qrl, .inl (cC, 200, .inl lt)), (q, .inr (5, [.int (nI P), .int gr, .int (nI wd), .int (nI (g + c)), .int (nI wk), .int fr, .ref qd, .ref qh, .ref qp])), (qd, .inl (cI, 8, .inl dyc))]) (kX6_readEnd l G cI cC cZ qr qrl ln i k f lt tx a w (by first | assumption | omega) (by first | assumption | omega) (by first | assumption | omega) (by first | assumption | omega) hrl) ⟨Nat.le_of_ble_eq_true rfl, Nat.le_of_ble_eq_true rfl⟩ rfl rfl rfl (by decide) (wr := [(q, .inr (5, [.int (nI P), .int gr, .int (nI wd), .int (nI (g + c)), .int (nI wk), .int fr, .ref qd, .ref qh, .ref qp])), (qd, .inl (cI, 8, .inl dyc))]) rfl (by decide) (by decide) (fun _ => rfl) (by decide) rfl rfl rfl rfl rfl (Nat.le_of_ble_eq_true rfl) (Nat.zero_le _) (Nat.zero_le _) dX6_readHouses_98 (fun u_22 w_23 => ?_)
            obtain ⟨t4, k4, f4⟩ := u_22
            try dsimp only at w_23
            have hv5 : k4 = 0 → w = 0 := (fun z9 => Decidable.byContradiction (fun q9 => by have e9 := w_23.1.symm.trans z9; rw [wd_w q9] at e9; exact q9 e9))
            obtain ⟨a4, w4, hn4, hr4, hv4⟩ := wd_ex w_23
            have ht4 := rdR_le hr4
            have hk4 := rdR_k hr4
            refine J_vret (pc := 101) X hr (t4, k4, f4, (g + c), dyc) dX6_readHouses_101 ?_ rfl
            obtain ⟨b1, b2, hb1, hb2⟩ := gp_fin hT (by first | exact Or.inl (by omega) | exact Or.inr (fun z9 => absurd (show lk tx ln i = 44 from by rw [(hrl.2.2.2.1 z9.1).1]; exact z9.2) (by assumption)) | exact Or.inr (fun z9 => absurd (hrl.1.trans z9.1) (by omega)))
            rw [← hb2] at hn4
            have e9 := rdGaps_t (show ¬ 0 < g from by omega) hn1 rfl hb1 hn4
            rw [← e9]
            refine ⟨hr4, (show g + c ≤ 8 from by omega), fun z => ⟨by omega, (show 0 < g + c from by omega), (show c = g + c from by omega), fun j9 h9 => ?_⟩⟩
            have h8 : j9 < g + c := h9
            exact hdl (hrl.1.trans (hv5 z)) j9 (by omega)
          · skip
            refine J_aload_n (pc := 59) X 0 dX6_readHouses_59 rfl ?_
            refine J_callR (pc := 60) (As := []) (rest := []) X mtX6_hasFault g315 [0] 0 (kX6_hasFault l G cI cC cZ qr qrl ln i k f (by first | assumption | omega)) ⟨Nat.le_of_ble_eq_true rfl, Nat.le_of_ble_eq_true rfl⟩ rfl rfl rfl (by decide) rfl rfl rfl rfl rfl (Nat.le_of_ble_eq_true rfl) (Nat.zero_le _) (Nat.zero_le _) dX6_readHouses_60 (fun r_24 u_25 w_26 => ?_)
            try dsimp only at w_26
            subst w_26
            refine J_bif_ne (pc := 63) X 97 dX6_readHouses_63 (by decide) (fun c_27 => ?_) (fun c_27 => ?_)
            · skip
              refine J_aload_n (pc := 97) X 0 dX6_readHouses_97 rfl ?_
              refine J_callV (pc := 98) (As := []) (rest := []) X mtX6_readEnd g342 [0, 1] [2, 3] [2, 3, 0, 1] 0 (fun u => [(qr, .inr (6, [.ref qrl, .int (nI ln), .int (nI u.1), .int (nI u.2.1), .int u.2.2])), (qrl, .inl (cC, 200, .inl lt)), (q, .inr (5, [.int (nI P), .int gr, .int (nI wd), .int (nI (g + c)), .int (nI wk), .int fr, .ref qd, .ref qh, .ref qp])), (qd, .inl (cI, 8, .inl dyc))]) (kX6_readEnd l G cI cC cZ qr qrl ln i k f lt tx a w (by first | assumption | omega) (by first | assumption | omega) (by first | assumption | omega) (by first | assumption | omega) hrl) ⟨Nat.le_of_ble_eq_true rfl, Nat.le_of_ble_eq_true rfl⟩ rfl rfl rfl (by decide) (wr := [(q, .inr (5, [.int (nI P), .int gr, .int (nI wd), .int (nI (g + c)), .int (nI wk), .int fr, .ref qd, .ref qh, .ref qp])), (qd, .inl (cI, 8, .inl dyc))]) rfl (by decide) (by decide) (fun _ => rfl) (by decide) rfl rfl rfl rfl rfl (Nat.le_of_ble_eq_true rfl) (Nat.zero_le _) (Nat.zero_le _) dX6_readHouses_98 (fun u_29 w_30 => ?_)
              obtain ⟨t4, k4, f4⟩ := u_29
              try dsimp only at w_30
              have hv5 : k4 = 0 → w = 0 := (fun z9 => Decidable.byContradiction (fun q9 => by have e9 := w_30.1.symm.trans z9; rw [wd_w q9] at e9; exact q9 e9))
              obtain ⟨a4, w4, hn4, hr4, hv4⟩ := wd_ex w_30
              have ht4 := rdR_le hr4
              have hk4 := rdR_k hr4
              refine J_vret (pc := 101) X hr (t4, k4, f4, (g + c), dyc) dX6_readHouses_101 ?_ rfl
              obtain ⟨b1, b2, hb1, hb2⟩ := gp_fin hT (by first | exact Or.inl (by omega) | exact Or.inr (fun z9 => absurd (show lk tx ln i = 44 from by rw [(hrl.2.2.2.1 z9.1).1]; exact z9.2) (by assumption)) | exact Or.inr (fun z9 => absurd (hrl.1.trans z9.1) (by omega)))
              rw [← hb2] at hn4
              have e9 := rdGaps_t (show ¬ 0 < g from by omega) hn1 rfl hb1 hn4
              rw [← e9]
              refine ⟨hr4, (show g + c ≤ 8 from by omega), fun z => ⟨by omega, (show 0 < g + c from by omega), (show c = g + c from by omega), fun j9 h9 => ?_⟩⟩
              have h8 : j9 < g + c := h9
              exact hdl (hrl.1.trans (hv5 z)) j9 (by omega)
            · skip
              have hk0 : k = 0 := by omega
              have hw0 : w = 0 := hrl.1.symm.trans hk0
              have hia := (hrl.2.2.2.1 hw0).1
              have hl44 : lk tx ln i = 44 := by assumption
              have hil := lk_lt hl44 (by decide)
              have hl45 : lk tx ln a = 44 := by rw [← hia]; exact hl44
              refine J_aload_n (pc := 66) X 0 dX6_readHouses_66 rfl ?_
              refine J_dup (pc := 67) X dX6_readHouses_67 rfl ?_
              refine J_get (pc := 68) X clX6 0 2 rfl (by decide) g128 rfl dX6_readHouses_68 ?_
              refine J_iconst (pc := 71) X 1 dX6_readHouses_71 (by decide) ?_
              refine J_iadd (pc := 72) X dX6_readHouses_72 ?_
              refine J_top (y := nI (i + 1)) (n_add (x := i) (y := 1) rfl rfl (by omega)) ?_
              refine J_put (pc := 73) X clX6 0 2 [(qr, .inr (6, [.ref qrl, .int (nI ln), .int (nI (i + 1)), .int (nI k), .int f])), (qrl, .inl (cC, 200, .inl lt)), (q, .inr (5, [.int (nI P), .int gr, .int (nI wd), .int (nI (g + c)), .int (nI wk), .int fr, .ref qd, .ref qh, .ref qp])), (qd, .inl (cI, 8, .inl dyc))] rfl (by decide) g128 rfl rfl rfl (Nat.le_of_ble_eq_true rfl) rfl dX6_readHouses_73 ?_
              refine J_aload_n (pc := 76) X 1 dX6_readHouses_76 rfl ?_
              refine J_aload_n (pc := 77) X 0 dX6_readHouses_77 rfl ?_
              refine J_iconst (pc := 78) X 1 dX6_readHouses_78 (by decide) ?_
              refine J_bipush (pc := 79) X 60 dX6_readHouses_79 (by decide) ?_
              refine J_callI (pc := 81) (As := [.int 1, .int 60]) (rest := [.ref q]) X mtX6_readNumber g335 [0, 1] [2, 3] [2, 3, 0, 1] 0 (fun u => [(qr, .inr (6, [.ref qrl, .int (nI ln), .int (nI u.1), .int (nI u.2.1), .int u.2.2])), (qrl, .inl (cC, 200, .inl lt)), (q, .inr (5, [.int (nI P), .int gr, .int (nI wd), .int (nI (g + c)), .int (nI wk), .int fr, .ref qd, .ref qh, .ref qp])), (qd, .inl (cI, 8, .inl dyc))]) (kX6_readNumber l G cI cC cZ qr qrl ln (i + 1) k f lt tx (a + 1) 0 1 60 (by first | assumption | omega) (by first | assumption | omega) (by first | assumption | omega) (by first | assumption | omega) (by rw [← hia]; exact rdR_go hrl (by omega) hw0)) ⟨Nat.le_of_ble_eq_true rfl, Nat.le_of_ble_eq_true rfl⟩ rfl rfl rfl (by decide) (wr := [(q, .inr (5, [.int (nI P), .int gr, .int (nI wd), .int (nI (g + c)), .int (nI wk), .int fr, .ref qd, .ref qh, .ref qp])), (qd, .inl (cI, 8, .inl dyc))]) rfl (by decide) (by decide) (fun _ => rfl) (by decide) rfl rfl rfl rfl rfl (Nat.le_of_ble_eq_true rfl) (Nat.zero_le _) (Nat.zero_le _) dX6_readHouses_81 (fun v2 u_31 w_32 => ?_)
              obtain ⟨t2, k2, f2⟩ := u_31
              try dsimp only at w_32
              obtain ⟨a2, w2, x2, hn2, hr2, hv2⟩ := nm_ex w_32
              have ht2 := rdR_le hr2
              have hk2 := rdR_k hr2
              refine J_callV (pc := 84) (As := [.int v2]) (rest := []) X mtX5_addGap g358 [2, 3] [0, 1] [0, 1, 2, 3] 0 (fun u => [(qr, .inr (6, [.ref qrl, .int (nI ln), .int (nI t2), .int (nI k2), .int f2])), (qrl, .inl (cC, 200, .inl lt)), (q, .inr (5, [.int (nI P), .int gr, .int (nI wd), .int (nI (g + c + 1)), .int (nI wk), .int fr, .ref qd, .ref qh, .ref qp])), (qd, .inl (cI, 8, .inl (upd dyc (g + c) v2)))]) (kX5_addGap l G cI cC cZ q qd qh qp P gr wd (g + c) wk fr dyc v2 (by first | assumption | omega)) ⟨Nat.le_of_ble_eq_true rfl, Nat.le_of_ble_eq_true rfl⟩ rfl rfl rfl (by decide) (wr := [(qr, .inr (6, [.ref qrl, .int (nI ln), .int (nI t2), .int (nI k2), .int f2])), (qrl, .inl (cC, 200, .inl lt))]) rfl (by decide) (by decide) (fun _ => rfl) (by decide) rfl rfl rfl rfl rfl (Nat.le_of_ble_eq_true rfl) (Nat.zero_le _) (Nat.zero_le _) dX6_readHouses_84 (fun u_34 w_35 => ?_)
              try dsimp only at w_35
              refine J_aload_n (pc := 87) X 0 dX6_readHouses_87 rfl ?_
              refine J_callV (pc := 88) (As := []) (rest := []) X mtX6_skipBlanks g307 [0, 1] [2, 3] [2, 3, 0, 1] 0 (fun u => [(qr, .inr (6, [.ref qrl, .int (nI ln), .int (nI u), .int (nI k2), .int f2])), (qrl, .inl (cC, 200, .inl lt)), (q, .inr (5, [.int (nI P), .int gr, .int (nI wd), .int (nI (g + c + 1)), .int (nI wk), .int fr, .ref qd, .ref qh, .ref qp])), (qd, .inl (cI, 8, .inl (upd dyc (g + c) v2)))]) (kX6_skipBlanks l G cI cC cZ qr qrl ln t2 k2 f2 lt tx (by first | assumption | omega) (by first | assumption | omega) (by first | assumption | omega) (by first | assumption | omega)) ⟨Nat.le_of_ble_eq_true rfl, Nat.le_of_ble_eq_true rfl⟩ rfl rfl rfl (by decide) (wr := [(q, .inr (5, [.int (nI P), .int gr, .int (nI wd), .int (nI (g + c + 1)), .int (nI wk), .int fr, .ref qd, .ref qh, .ref qp])), (qd, .inl (cI, 8, .inl (upd dyc (g + c) v2)))]) rfl (by decide) (by decide) (fun _ => rfl) (by decide) rfl rfl rfl rfl rfl (Nat.le_of_ble_eq_true rfl) (Nat.zero_le _) (Nat.zero_le _) dX6_readHouses_88 (fun u_37 w_38 => ?_)
              obtain ⟨s2, rfl⟩ : ∃ z, z = u_37 := ⟨_, rfl⟩
              try dsimp only at w_38
              have hs2 := w_38
              have hs2l : s2 ≤ ln := by rw [hs2]; exact sk_le ht2
              refine J_iinc (pc := 91) X (nI (c + 1)) 2 [(2, .int (nI (c + 1))), (0, .ref qr), (1, .ref q)] dX6_readHouses_91 rfl (n_add (x := c) (y := 1) rfl rfl (by omega)) (by decide) rfl ?_
              refine J_goto (pc := 94) X 44 dX6_readHouses_94 (by decide) ?_
              refine J_loc [1, 2, 0] (lv2 := [(0, .ref qr), (1, .ref q), (2, .int (nI (c + 1)))]) rfl ?_
              exact ih_44  (c + 1) s2 k2 f2 (upd dyc (g + c) v2) (skS tx ln w2 a2) w2 (upd dgc c x2) (by first | assumption | omega | simp_all) (by first | assumption | omega | simp_all) (by first | assumption | omega | simp_all) (by first | assumption | omega | simp_all) (rdR_sk hr2 hs2) (gp_go hT hw0 hl45 (by omega) hn2 rfl) (fun z9 => by rw [show g + c = c from by omega]; exact upd_rel (hdl hk0) (hv2 z9).1) (by omega)
    refine J_loc [1, 2, 0] (lv2 := [(0, .ref qr), (1, .ref q), (2, .int 1)]) rfl ?_
    exact L_44 _  1 s1 k1 f1 (upd dyr g v1) (skS tx ln w1 a1) w1 (upd dg 0 x1) (by first | assumption | omega | simp_all) (by first | assumption | omega | simp_all) (by first | assumption | omega | simp_all) (by first | assumption | omega | simp_all) (rdR_sk hr1 hs1) rfl (fun z9 => by rw [eg0]; exact upd_rel (fun j9 h9 => absurd h9 (by omega)) (hv1 z9).1) (Nat.lt_succ_self _)
  · have c_4 : 0 < g := n_nle_of (a := g) (b := 0) (by omega) (by omega) c_4
    refine J_aload_n (pc := 7) X 0 dX6_readHouses_7 rfl ?_
    refine J_iconst (pc := 8) X 3 dX6_readHouses_8 (by decide) ?_
    refine J_aload_n (pc := 9) X 0 dX6_readHouses_9 rfl ?_
    refine J_get (pc := 10) X clX6 0 2 rfl (by decide) g128 rfl dX6_readHouses_10 ?_
    refine J_callV (pc := 13) (As := [.int 3, .int (nI at_)]) (rest := []) X mtX6_blame g327 [0] [1, 2, 3] [3, 0, 1, 2] 0 (fun u => [(qr, .inr (6, [.ref qrl, .int (nI ln), .int (nI at_), .int (nI u.1), .int u.2])), (qrl, .inl (cC, 200, .inl lt)), (q, .inr (5, [.int (nI P), .int gr, .int (nI wd), .int (nI g), .int (nI wk), .int fr, .ref qd, .ref qh, .ref qp])), (qd, .inl (cI, 8, .inl dyr))]) (kX6_blame l G cI cC cZ qr qrl ln at_ fk fa 3 at_ (by first | assumption | omega)) ⟨Nat.le_of_ble_eq_true rfl, Nat.le_of_ble_eq_true rfl⟩ rfl rfl rfl (by decide) (wr := [(qrl, .inl (cC, 200, .inl lt)), (q, .inr (5, [.int (nI P), .int gr, .int (nI wd), .int (nI g), .int (nI wk), .int fr, .ref qd, .ref qh, .ref qp])), (qd, .inl (cI, 8, .inl dyr))]) rfl (by decide) (by decide) (fun _ => rfl) (by decide) rfl rfl rfl rfl rfl (Nat.le_of_ble_eq_true rfl) (Nat.zero_le _) (Nat.zero_le _) dX6_readHouses_13 (fun u_40 w_41 => ?_)
    obtain ⟨kb, fb⟩ := u_40
    try dsimp only at w_41
    have hbl := w_41
    refine J_vret (pc := 16) X hr (at_, kb, fb, g, dyr) dX6_readHouses_16 ?_ rfl
    rw [show rdGaps tx ln at_ g dg = (at_, 3, g, dg) from if_pos (by omega)]
    have hb9 := rdR_bad (kd := 3) (fr := at_) hrd hatl rfl (by decide) (by decide) hbl.1 hbl.2
    exact ⟨hb9, hg, fun z => absurd (hb9.1.symm.trans z) (by decide)⟩
