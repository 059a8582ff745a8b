set_option maxRecDepth 100000 in
set_option maxHeartbeats 600000 in
theorem kX6_readInto (l : Launch) (G : va_G) (cI cC cZ : ClassId) (qr : Nat) (qrl : Nat) (ln : Nat) (at_ : Nat) (fk : Nat) (fa : Int32) (lt : Nat → Int32) (tx : Nat → Int32) (q : Nat) (qd : Nat) (qh : Nat) (qp : Nat) (P : Nat) (gr : Int32) (wd : Nat) (g : Nat) (wk : Nat) (fr : Int32) (dyr : Nat → Int32) (hor : Nat → Int32) (par_ : Nat → Int32) (D0 : DR) (hln : ln ≤ 200) (hlt : ∀ i9, i9 < ln → lt i9 = tx i9) (htx : ∀ i9, i9 < ln → ¬ tx i9 = -1) (hPl : P ≤ 60) (hg : g ≤ 8) (hwk : wk ≤ 4) (hwd : wd ≤ 50) (hdp : dpR P gr wd g wk fr dyr hor par_ D0) : CI l G (tys3 cI cC cZ) yX6_readInto cX6_readInto 3 (some .int) ({ frames := 5, cells := 0, slots := 0, locals := 112 }) [.ref qr, .ref q] [(qr, .inr (6, [.ref qrl, .int (nI ln), .int (nI at_), .int (nI fk), .int fa])), (qrl, .inl (cC, 200, .inl lt)), (q, .inr (5, [.int (nI P), .int gr, .int (nI wd), .int (nI g), .int (nI wk), .int fr, .ref qd, .ref qh, .ref qp])), (qd, .inl (cI, 8, .inl dyr)), (qh, .inl (cI, 4, .inl hor)), (qp, .inl (cI, 4, .inl par_))] (S := Nat × Nat × Int32 × Nat × Int32 × Nat × Nat × Nat × Int32 × (Nat → Int32) × (Nat → Int32) × (Nat → Int32)) (fun (r : Int32) (u : Nat × Nat × Int32 × Nat × Int32 × Nat × Nat × Nat × Int32 × (Nat → Int32) × (Nat → Int32) × (Nat → Int32)) => r = nI u.2.1 ∧ rdR ln u.1 u.2.1 u.2.2.1 (rdF tx ln (ln + 1) (sk tx ln 0) 0 D0).1 (rdF tx ln (ln + 1) (sk tx ln 0) 0 D0).2.1 ∧ u.2.2.2.1 ≤ 60 ∧ u.2.2.2.2.2.2.1 ≤ 8 ∧ u.2.2.2.2.2.2.2.1 ≤ 4 ∧ u.2.2.2.2.2.1 ≤ 50 ∧ (u.2.1 = 0 → dpR u.2.2.2.1 u.2.2.2.2.1 u.2.2.2.2.2.1 u.2.2.2.2.2.2.1 u.2.2.2.2.2.2.2.1 u.2.2.2.2.2.2.2.2.1 u.2.2.2.2.2.2.2.2.2.1 u.2.2.2.2.2.2.2.2.2.2.1 u.2.2.2.2.2.2.2.2.2.2.2 (rdF tx ln (ln + 1) (sk tx ln 0) 0 D0).2.2)) (fun (u : Nat × Nat × Int32 × Nat × Int32 × Nat × Nat × Nat × Int32 × (Nat → Int32) × (Nat → Int32) × (Nat → Int32)) => [(qr, .inr (6, [.ref qrl, .int (nI ln), .int (nI u.1), .int (nI u.2.1), .int u.2.2.1])), (qrl, .inl (cC, 200, .inl lt)), (q, .inr (5, [.int (nI u.2.2.2.1), .int u.2.2.2.2.1, .int (nI u.2.2.2.2.2.1), .int (nI u.2.2.2.2.2.2.1), .int (nI u.2.2.2.2.2.2.2.1), .int u.2.2.2.2.2.2.2.2.1, .ref qd, .ref qh, .ref qp])), (qd, .inl (cI, 8, .inl u.2.2.2.2.2.2.2.2.2.1)), (qh, .inl (cI, 4, .inl u.2.2.2.2.2.2.2.2.2.2.1)), (qp, .inl (cI, 4, .inl u.2.2.2.2.2.2.2.2.2.2.2))]) := by
  refine CI.intro (by decide) (Nat.le_of_ble_eq_true rfl) ?_
  intro p0 e0 s0 m0 ar0 be0 me0 c0 A0 X hr
  refine J_aload_n (pc := 0) X 0 dX6_readInto_0 rfl ?_
  refine J_iconst (pc := 1) X 0 dX6_readInto_1 (by decide) ?_
  refine J_put (pc := 2) X clX6 0 2 [(qr, .inr (6, [.ref qrl, .int (nI ln), .int 0, .int (nI fk), .int fa])), (qrl, .inl (cC, 200, .inl lt)), (q, .inr (5, [.int (nI P), .int gr, .int (nI wd), .int (nI g), .int (nI wk), .int fr, .ref qd, .ref qh, .ref qp])), (qd, .inl (cI, 8, .inl dyr)), (qh, .inl (cI, 4, .inl hor)), (qp, .inl (cI, 4, .inl par_))] rfl (by decide) g128 rfl rfl rfl (Nat.le_of_ble_eq_true rfl) rfl dX6_readInto_2 ?_
  refine J_aload_n (pc := 5) X 0 dX6_readInto_5 rfl ?_
  refine J_iconst (pc := 6) X 0 dX6_readInto_6 (by decide) ?_
  refine J_put (pc := 7) X clX6 0 3 [(qr, .inr (6, [.ref qrl, .int (nI ln), .int 0, .int 0, .int fa])), (qrl, .inl (cC, 200, .inl lt)), (q, .inr (5, [.int (nI P), .int gr, .int (nI wd), .int (nI g), .int (nI wk), .int fr, .ref qd, .ref qh, .ref qp])), (qd, .inl (cI, 8, .inl dyr)), (qh, .inl (cI, 4, .inl hor)), (qp, .inl (cI, 4, .inl par_))] rfl (by decide) g129 rfl rfl rfl (Nat.le_of_ble_eq_true rfl) rfl dX6_readInto_7 ?_
  refine J_aload_n (pc := 10) X 0 dX6_readInto_10 rfl ?_
  refine J_iconst (pc := 11) X (-1) dX6_readInto_11 (by decide) ?_
  refine J_put (pc := 12) X clX6 0 4 [(qr, .inr (6, [.ref qrl, .int (nI ln), .int 0, .int 0, .int (-1)])), (qrl, .inl (cC, 200, .inl lt)), (q, .inr (5, [.int (nI P), .int gr, .int (nI wd), .int (nI g), .int (nI wk), .int fr, .ref qd, .ref qh, .ref qp])), (qd, .inl (cI, 8, .inl dyr)), (qh, .inl (cI, 4, .inl hor)), (qp, .inl (cI, 4, .inl par_))] rfl (by decide) g130 rfl rfl rfl (Nat.le_of_ble_eq_true rfl) rfl dX6_readInto_12 ?_
  refine J_aload_n (pc := 15) X 0 dX6_readInto_15 rfl ?_
  refine J_callV (pc := 16) (As := []) (rest := []) X mtX6_skipBlanks g307 [0, 1] [2, 3, 4, 5] [4, 5, 0, 1, 2, 3] 0 (fun u => [(qr, .inr (6, [.ref qrl, .int (nI ln), .int (nI u), .int 0, .int (-1)])), (qrl, .inl (cC, 200, .inl lt)), (q, .inr (5, [.int (nI P), .int gr, .int (nI wd), .int (nI g), .int (nI wk), .int fr, .ref qd, .ref qh, .ref qp])), (qd, .inl (cI, 8, .inl dyr)), (qh, .inl (cI, 4, .inl hor)), (qp, .inl (cI, 4, .inl par_))]) (kX6_skipBlanks l G cI cC cZ qr qrl ln 0 0 (-1) lt tx (by first | assumption | omega) (by first | assumption | omega) (by first | assumption | omega) (by first | assumption | omega)) ⟨Nat.le_of_ble_eq_true rfl, Nat.le_of_ble_eq_true rfl⟩ rfl rfl rfl (by decide) (wr := [(q, .inr (5, [.int (nI P), .int gr, .int (nI wd), .int (nI g), .int (nI wk), .int fr, .ref qd, .ref qh, .ref qp])), (qd, .inl (cI, 8, .inl dyr)), (qh, .inl (cI, 4, .inl hor)), (qp, .inl (cI, 4, .inl par_))]) rfl (by decide) (by decide) (fun _ => rfl) (by decide) rfl rfl rfl rfl rfl (Nat.le_of_ble_eq_true rfl) (Nat.zero_le _) (Nat.zero_le _) dX6_readInto_16 (fun u_2 w_3 => ?_)
  obtain ⟨sz, rfl⟩ : ∃ z, z = u_2 := ⟨_, rfl⟩
  try dsimp only at w_3
  have hs0 := w_3
  have hs0l : sz ≤ ln := by rw [hs0]; exact sk_le (by omega)
  have hr00 : rdR ln sz 0 (-1) (sk tx ln 0) 0 := ⟨rfl, hs0l, by decide, fun _ => ⟨hs0, rfl⟩, fun z => absurd rfl z⟩
  refine J_iconst (pc := 19) X 0 dX6_readInto_19 (by decide) ?_
  refine J_istore_n (pc := 20) X [(2, .int 0), (0, .ref qr), (1, .ref q)] dX6_readInto_20 (by decide) rfl ?_
  have L_21 : ∀ (n_21 : Nat) (cl : Nat) (i : Nat) (k : Nat) (f : Int32) (Pc : Nat) (grc : Int32) (wdc : Nat) (gc : Nat) (wkc : Nat) (frc : Int32) (dyc : Nat → Int32) (hoc : Nat → Int32) (pac : Nat → Int32) (a : Nat) (w : Nat) (D : DR) (hcl2 : cl ≤ 200) (hil0 : i ≤ ln) (hk4 : k ≤ 4) (hrl : rdR ln i k f a w) (hT : rdF tx ln (ln + 1 - cl) a w D = (rdF tx ln (ln + 1) (sk tx ln 0) 0 D0)) (hca : w = 0 → cl ≤ a) (hPc : Pc ≤ 60) (hgc : gc ≤ 8) (hwkc : wkc ≤ 4) (hwdc : wdc ≤ 50) (hdq0 : k = 0 → dpR Pc grc wdc gc wkc frc dyc hoc pac D), (200 - cl) < n_21 → JJ p0 l e0 ({ frames := 5, cells := 0, slots := 0, locals := 112 }) s0 m0 ar0 be0 me0 c0 A0 G 3 0 0 (QI be0 ar0 s0 A0 G (tys3 cI cC cZ) (S := Nat × Nat × Int32 × Nat × Int32 × Nat × Nat × Nat × Int32 × (Nat → Int32) × (Nat → Int32) × (Nat → Int32)) (fun (r : Int32) (u : Nat × Nat × Int32 × Nat × Int32 × Nat × Nat × Nat × Int32 × (Nat → Int32) × (Nat → Int32) × (Nat → Int32)) => r = nI u.2.1 ∧ rdR ln u.1 u.2.1 u.2.2.1 (rdF tx ln (ln + 1) (sk tx ln 0) 0 D0).1 (rdF tx ln (ln + 1) (sk tx ln 0) 0 D0).2.1 ∧ u.2.2.2.1 ≤ 60 ∧ u.2.2.2.2.2.2.1 ≤ 8 ∧ u.2.2.2.2.2.2.2.1 ≤ 4 ∧ u.2.2.2.2.2.1 ≤ 50 ∧ (u.2.1 = 0 → dpR u.2.2.2.1 u.2.2.2.2.1 u.2.2.2.2.2.1 u.2.2.2.2.2.2.1 u.2.2.2.2.2.2.2.1 u.2.2.2.2.2.2.2.2.1 u.2.2.2.2.2.2.2.2.2.1 u.2.2.2.2.2.2.2.2.2.2.1 u.2.2.2.2.2.2.2.2.2.2.2 (rdF tx ln (ln + 1) (sk tx ln 0) 0 D0).2.2)) (fun (u : Nat × Nat × Int32 × Nat × Int32 × Nat × Nat × Nat × Int32 × (Nat → Int32) × (Nat → Int32) × (Nat → Int32)) => [(qr, .inr (6, [.ref qrl, .int (nI ln), .int (nI u.1), .int (nI u.2.1), .int u.2.2.1])), (qrl, .inl (cC, 200, .inl lt)), (q, .inr (5, [.int (nI u.2.2.2.1), .int u.2.2.2.2.1, .int (nI u.2.2.2.2.2.1), .int (nI u.2.2.2.2.2.2.1), .int (nI u.2.2.2.2.2.2.2.1), .int u.2.2.2.2.2.2.2.2.1, .ref qd, .ref qh, .ref qp])), (qd, .inl (cI, 8, .inl u.2.2.2.2.2.2.2.2.2.1)), (qh, .inl (cI, 4, .inl u.2.2.2.2.2.2.2.2.2.2.1)), (qp, .inl (cI, 4, .inl u.2.2.2.2.2.2.2.2.2.2.2))])) [(qr, .inr (6, [.ref qrl, .int (nI ln), .int (nI i), .int (nI k), .int f])), (qrl, .inl (cC, 200, .inl lt)), (q, .inr (5, [.int (nI Pc), .int grc, .int (nI wdc), .int (nI gc), .int (nI wkc), .int frc, .ref qd, .ref qh, .ref qp])), (qd, .inl (cI, 8, .inl dyc)), (qh, .inl (cI, 4, .inl hoc)), (qp, .inl (cI, 4, .inl pac))] 21 [(0, .ref qr), (1, .ref q), (2, .int (nI cl))] [] := by
    intro n_21
    induction n_21 with
    | zero => intro cl i k f Pc grc wdc gc wkc frc dyc hoc pac a w D hcl2 hil0 hk4 hrl hT hca hPc hgc hwkc hwdc hdq0 hm_21; exact absurd hm_21 (Nat.not_lt_zero _)
    | succ n_21 ih_21 =>
      intro cl i k f Pc grc wdc gc wkc frc dyc hoc pac a w D hcl2 hil0 hk4 hrl hT hca hPc hgc hwkc hwdc hdq0 hm_21
      refine J_iload_n (pc := 21) X 2 dX6_readInto_21 rfl ?_
      refine J_sipush (pc := 22) X 200 dX6_readInto_22 (by decide) ?_
      refine J_icmp_ge (pc := 25) X 61 dX6_readInto_25 (by decide) (fun c_4 => ?_) (fun c_4 => ?_)
      · have c_4 : 200 ≤ cl := n_le_of (a := 200) (b := cl) (by omega) (by omega) c_4
        refine J_aload_n (pc := 61) X 0 dX6_readInto_61 rfl ?_
        refine J_get (pc := 62) X clX6 0 3 rfl (by decide) g129 rfl dX6_readInto_62 ?_
        refine J_iret (pc := 65) X hr (i, k, f, Pc, grc, wdc, gc, wkc, frc, dyc, hoc, pac) dX6_readInto_65 ?_ rfl
        have e9 := rd_stop hT (fun z9 => by first | exact absurd (hrl.1.trans z9.1) (by omega) | exact z9.2 (by rw [← (hrl.2.2.2.1 z9.1).1]; exact lk_out (by omega)) | exact z9.2 (by have := hca z9.1; have := (hrl.2.2.2.1 z9.1).1; exact lk_out (by omega)))
        rw [e9]
        exact ⟨rfl, hrl, hPc, hgc, hwkc, hwdc, hdq0⟩
      · have c_4 : cl < 200 := n_nle_of (a := 200) (b := cl) (by omega) (by omega) c_4
        refine J_aload_n (pc := 28) X 0 dX6_readInto_28 rfl ?_
        refine J_get (pc := 29) X clX6 0 2 rfl (by decide) g128 rfl dX6_readInto_29 ?_
        refine J_aload_n (pc := 32) X 0 dX6_readInto_32 rfl ?_
        refine J_get (pc := 33) X clX6 0 1 rfl (by decide) g127 rfl dX6_readInto_33 ?_
        refine J_icmp_ge (pc := 36) X 61 dX6_readInto_36 (by decide) (fun c_5 => ?_) (fun c_5 => ?_)
        · have c_5 : ln ≤ i := n_le_of (a := ln) (b := i) (by omega) (by omega) c_5
          refine J_aload_n (pc := 61) X 0 dX6_readInto_61 rfl ?_
          refine J_get (pc := 62) X clX6 0 3 rfl (by decide) g129 rfl dX6_readInto_62 ?_
          refine J_iret (pc := 65) X hr (i, k, f, Pc, grc, wdc, gc, wkc, frc, dyc, hoc, pac) dX6_readInto_65 ?_ rfl
          have e9 := rd_stop hT (fun z9 => by first | exact absurd (hrl.1.trans z9.1) (by omega) | exact z9.2 (by rw [← (hrl.2.2.2.1 z9.1).1]; exact lk_out (by omega)) | exact z9.2 (by have := hca z9.1; have := (hrl.2.2.2.1 z9.1).1; exact lk_out (by omega)))
          rw [e9]
          exact ⟨rfl, hrl, hPc, hgc, hwkc, hwdc, hdq0⟩
        · have c_5 : i < ln := n_nle_of (a := ln) (b := i) (by omega) (by omega) c_5
          refine J_aload_n (pc := 39) X 0 dX6_readInto_39 rfl ?_
          refine J_callR (pc := 40) (As := []) (rest := []) X mtX6_hasFault g315 [0] 0 (kX6_hasFault l G cI cC cZ qr qrl ln i k f (by first | assumption | omega)) ⟨Nat.le_of_ble_eq_true rfl, Nat.le_of_ble_eq_true rfl⟩ rfl rfl rfl (by decide) rfl rfl rfl rfl rfl (Nat.le_of_ble_eq_true rfl) (Nat.zero_le _) (Nat.zero_le _) dX6_readInto_40 (fun r_6 u_7 w_8 => ?_)
          try dsimp only at w_8
          subst w_8
          refine J_bif_ne (pc := 43) X 61 dX6_readInto_43 (by decide) (fun c_9 => ?_) (fun c_9 => ?_)
          · skip
            refine J_aload_n (pc := 61) X 0 dX6_readInto_61 rfl ?_
            refine J_get (pc := 62) X clX6 0 3 rfl (by decide) g129 rfl dX6_readInto_62 ?_
            refine J_iret (pc := 65) X hr (i, k, f, Pc, grc, wdc, gc, wkc, frc, dyc, hoc, pac) dX6_readInto_65 ?_ rfl
            have e9 := rd_stop hT (fun z9 => by first | exact absurd (hrl.1.trans z9.1) (by omega) | exact z9.2 (by rw [← (hrl.2.2.2.1 z9.1).1]; exact lk_out (by omega)) | exact z9.2 (by have := hca z9.1; have := (hrl.2.2.2.1 z9.1).1; exact lk_out (by omega)))
            rw [e9]
            exact ⟨rfl, hrl, hPc, hgc, hwkc, hwdc, hdq0⟩
          · skip
            have hk0 : k = 0 := by omega
            have hw0 : w = 0 := hrl.1.symm.trans hk0
            have hia := (hrl.2.2.2.1 hw0).1
            have hdq := hdq0 hk0
            have hD : (D.1, D.2.1, D.2.2.1, D.2.2.2.1, D.2.2.2.2.1, frc) = D := by rw [← hdq.2.2.2.2.2.2.2.2.2]
            have hr0 : rdR ln i k f i 0 := rdR_go hrl (by omega) hw0
            have hcl := hca hw0
            have hlk : ¬ lk tx ln i = -1 := by rw [lk_in (by omega)]; exact htx i (by omega)
            refine J_aload_n (pc := 46) X 0 dX6_readInto_46 rfl ?_
            refine J_aload_n (pc := 47) X 1 dX6_readInto_47 rfl ?_
            refine J_callV (pc := 48) (As := [.ref q]) (rest := []) X mtX6_readClause g319 [0, 1, 2, 3, 4, 5] [] [0, 1, 2, 3, 4, 5] 0 (fun u => [(qr, .inr (6, [.ref qrl, .int (nI ln), .int (nI u.1), .int (nI u.2.1), .int u.2.2.1])), (qrl, .inl (cC, 200, .inl lt)), (q, .inr (5, [.int (nI u.2.2.2.1), .int u.2.2.2.2.1, .int (nI u.2.2.2.2.2.1), .int (nI u.2.2.2.2.2.2.1), .int (nI u.2.2.2.2.2.2.2.1), .int u.2.2.2.2.2.2.2.2.1, .ref qd, .ref qh, .ref qp])), (qd, .inl (cI, 8, .inl u.2.2.2.2.2.2.2.2.2.1)), (qh, .inl (cI, 4, .inl u.2.2.2.2.2.2.2.2.2.2.1)), (qp, .inl (cI, 4, .inl u.2.2.2.2.2.2.2.2.2.2.2))]) (kX6_readClause l G cI cC cZ qr qrl ln i k f lt tx q qd qh qp Pc grc wdc gc wkc frc dyc hoc pac D.1 D.2.1 D.2.2.1 D.2.2.2.1 D.2.2.2.2.1 (by first | assumption | omega) (by first | assumption | omega) (by first | assumption | omega) (by first | assumption | omega) hr0 (by first | assumption | omega) (by first | assumption | omega) (by first | assumption | omega) (by first | assumption | omega) (by rw [hD]; exact hdq)) ⟨Nat.le_of_ble_eq_true rfl, Nat.le_of_ble_eq_true rfl⟩ rfl rfl rfl (by decide) (wr := []) rfl (by decide) (by decide) (fun _ => rfl) (by decide) rfl rfl rfl rfl rfl (Nat.le_of_ble_eq_true rfl) (Nat.zero_le _) (Nat.zero_le _) dX6_readInto_48 (fun u_11 w_12 => ?_)
            obtain ⟨t1, k1, f1, P1, gr1, wd1, g1, wk1, fr1, dy1, ho1, pa1⟩ := u_11
            try dsimp only at w_12
            have hc := w_12
            rw [hD] at hc
            obtain ⟨hr1, hP1, hg1, hwk1, hwd1, hd1⟩ := hc
            have ht1 := rdR_le hr1
            have hk1 := rdR_k hr1
            refine J_aload_n (pc := 51) X 0 dX6_readInto_51 rfl ?_
            refine J_callV (pc := 52) (As := []) (rest := []) X mtX6_skipBlanks g307 [0, 1] [2, 3, 4, 5] [4, 5, 0, 1, 2, 3] 0 (fun u => [(qr, .inr (6, [.ref qrl, .int (nI ln), .int (nI u), .int (nI k1), .int f1])), (qrl, .inl (cC, 200, .inl lt)), (q, .inr (5, [.int (nI P1), .int gr1, .int (nI wd1), .int (nI g1), .int (nI wk1), .int fr1, .ref qd, .ref qh, .ref qp])), (qd, .inl (cI, 8, .inl dy1)), (qh, .inl (cI, 4, .inl ho1)), (qp, .inl (cI, 4, .inl pa1))]) (kX6_skipBlanks l G cI cC cZ qr qrl ln t1 k1 f1 lt tx (by first | assumption | omega) (by first | assumption | omega) (by first | assumption | omega) (by first | assumption | omega)) ⟨Nat.le_of_ble_eq_true rfl, Nat.le_of_ble_eq_true rfl⟩ rfl rfl rfl (by decide) (wr := [(q, .inr (5, [.int (nI P1), .int gr1, .int (nI wd1), .int (nI g1), .int (nI wk1), .int fr1, .ref qd, .ref qh, .ref qp])), (qd, .inl (cI, 8, .inl dy1)), (qh, .inl (cI, 4, .inl ho1)), (qp, .inl (cI, 4, .inl pa1))]) rfl (by decide) (by decide) (fun _ => rfl) (by decide) rfl rfl rfl rfl rfl (Nat.le_of_ble_eq_true rfl) (Nat.zero_le _) (Nat.zero_le _) dX6_readInto_52 (fun u_14 w_15 => ?_)
            obtain ⟨s1, rfl⟩ : ∃ z, z = u_14 := ⟨_, rfl⟩
            try dsimp only at w_15
            have hs1 := w_15
            have hs1l : s1 ≤ ln := by rw [hs1]; exact sk_le (by omega)
            refine J_iinc (pc := 55) X (nI (cl + 1)) 2 [(2, .int (nI (cl + 1))), (0, .ref qr), (1, .ref q)] dX6_readInto_55 rfl (n_add (x := cl) (y := 1) rfl rfl (by omega)) (by decide) rfl ?_
            refine J_goto (pc := 58) X 21 dX6_readInto_58 (by decide) ?_
            refine J_loc [1, 2, 0] (lv2 := [(0, .ref qr), (1, .ref q), (2, .int (nI (cl + 1)))]) rfl ?_
            exact ih_21  (cl + 1) s1 k1 f1 P1 gr1 wd1 g1 wk1 fr1 dy1 ho1 pa1 (skS tx ln (clS tx ln i D).2.1 (clS tx ln i D).1) ((clS tx ln i D).2.1) ((clS tx ln i D).2.2) (by first | assumption | omega | simp_all) (by first | assumption | omega | simp_all) (by first | assumption | omega | simp_all) (rdR_sk hr1 hs1) (rd_go (k := ln + 1 - (cl + 1)) (by rw [show ln + 1 - (cl + 1) + 1 = ln + 1 - cl from by omega]; exact hT) hw0 (by rw [← hia]; exact hlk) (by rw [← hia]) rfl) (fun z9 => Nat.le_trans (show cl + 1 ≤ i + 1 from by omega) (cl_gt2 (tx := tx) (n := ln) (i := i) (D := D) (a := (clS tx ln i D).1) (w := (clS tx ln i D).2.1) (D2 := (clS tx ln i D).2.2) rfl rfl z9)) (by first | assumption | omega | simp_all) (by first | assumption | omega | simp_all) (by first | assumption | omega | simp_all) (by first | assumption | omega | simp_all) hd1 (by omega)
  refine J_loc [1, 2, 0] (lv2 := [(0, .ref qr), (1, .ref q), (2, .int 0)]) rfl ?_
  exact L_21 _  0 sz 0 (-1) P gr wd g wk fr dyr hor par_ (sk tx ln 0) 0 D0 (by first | assumption | omega | simp_all) (by first | assumption | omega | simp_all) (by first | assumption | omega | simp_all) hr00 rfl (fun _ => Nat.zero_le _) (by first | assumption | omega | simp_all) (by first | assumption | omega | simp_all) (by first | assumption | omega | simp_all) (by first | assumption | omega | simp_all) (fun _ => hdp) (Nat.lt_succ_self _)
