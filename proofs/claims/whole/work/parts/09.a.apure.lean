/-! What holds between two calls of the law: the class's cells against the reference's -/
def iLaw (P wd g wk : Nat) (gr : Int32) (dyr par_ lw gp pcs : Nat → Int32) : Prop := P ≤ 60 ∧ g ≤ 8 ∧ wk ≤ 4 ∧ wd ≤ 50 ∧ (0 < g → 0 < P) ∧ (0 < g → 0 < wd) ∧ lw 0 = nI P ∧ lw 1 = gr ∧ lw 2 = nI wd ∧ lw 3 = nI g ∧ lw 4 = nI wk ∧ (∀ k, k < g → dyr k = gp k) ∧ (∀ k, k < wk → par_ k = pcs k) ∧ okGp g gp ∧ ∃ gn, gr = nI gn ∧ gn ≤ 40
def iNow (g wk : Nat) (c nw : Nat → Int32) : Prop := scR c nw wk ∧ okS g wk nw
def iPast (g wk o dn : Nat) (rw_ ps : Nat → Int32) : Prop := o < 30 ∧ dn ≤ 30 ∧ paR rw_ o dn ps wk ∧ okP g wk dn ps
def iImg (g wk : Nat) (ri se so im isd kp : Nat → Int32) : Prop := ∀ j, j < 2 → so j = kp j ∧ (¬ kp j = 0 → scR (fun z => ri (18 * j + z)) (fun z => im (14 * j + z)) wk ∧ okS g wk (fun z => im (14 * j + z)) ∧ se j = isd j)
def iMet (g fn : Nat) (fs_ sc_ fd : Nat → Int32) : Prop := fn ≤ 6 ∧ okFd g fn fd ∧ ∀ i9, i9 < fn → fs_ i9 = fd (2 * i9) ∧ sc_ i9 = fd (2 * i9 + 1)
def iBook (wk en : Nat) (bf_ bs_ bk : Nat → Int32) : Prop := en ≤ 20 ∧ okBk wk en bk ∧ ∀ i9, i9 < en → bf_ i9 = bk (2 * i9) ∧ bs_ i9 = bk (2 * i9 + 1)
def iText (ln : Nat) (lt tx : Nat → Int32) : Prop := ln ≤ 200 ∧ (∀ i9, i9 < ln → lt i9 = tx i9) ∧ ∀ i9, i9 < ln → ¬ tx i9 = -1
theorem okS_congr {g wk : Nat} {a b : Nat → Int32} (hwk : wk ≤ 4) (h : okS g wk b) (e : ∀ j, j < 14 → a j = b j) : okS g wk a := by
  intro w hw
  obtain ⟨pos, h1, h2⟩ := h w hw
  exact ⟨pos, by rw [e _ (by omega)]; exact h1, h2⟩
theorem okP_push {g wk dn n2 : Nat} {nw ps : Nat → Int32} (hwk : wk ≤ 4) (h : okP g wk dn ps) (hok : okS g wk nw) (hn : (dn < 30 ∧ n2 = dn + 1) ∨ (dn = 30 ∧ n2 = 30)) : okP g wk n2 (pushF dn nw ps) := by
  intro i hi
  rcases hn with ⟨hd, e⟩ | ⟨hd, e⟩
  · by_cases ei : i = dn
    · subst ei; exact okS_congr hwk hok (fun j hj => push_new hd hj)
    · exact okS_congr hwk (h i (by omega)) (fun j hj => push_old hd (by omega) hj)
  · subst hd
    by_cases ei : i = 29
    · subst ei; exact okS_congr hwk hok (fun j hj => push_new30 hj)
    · exact okS_congr hwk (h (i + 1) (by omega)) (fun j hj => push_old30 (by omega) hj)
theorem iP_push {g wk o dn o2 n2 : Nat} {rw_ rw2 nw ps : Nat → Int32} (hwk : wk ≤ 4) (h : iPast g wk o dn rw_ ps) (hok : okS g wk nw) (h1 : paR rw2 o2 n2 (pushF dn nw ps) wk) (h2 : o2 < 30) (h3 : (dn < 30 ∧ n2 = dn + 1) ∨ (dn = 30 ∧ n2 = 30)) : iPast g wk o2 n2 rw2 (pushF dn nw ps) :=
  ⟨h2, by omega, h1, okP_push hwk h.2.2.2 hok h3⟩
/-- feed -/
theorem c_feed {ln lA lB : Nat} {lt tx ltA txB : Nat → Int32} {x : Int32} (h : iText ln lt tx) (hA1 : ¬ spFeed ln x < 0 → lA = ln + 1 ∧ ltA = upd lt ln x) (hA2 : spFeed ln x < 0 → lA = ln ∧ ltA = lt) (hB1 : ¬ spFeed ln x < 0 → lB = ln + 1 ∧ txB = upd tx ln x) (hB2 : spFeed ln x < 0 → lB = ln ∧ txB = tx) : lB = lA ∧ iText lA ltA txB := by
  by_cases hz : spFeed ln x < 0
  · obtain ⟨a1, a2⟩ := hA2 hz
    obtain ⟨b1, b2⟩ := hB2 hz
    exact ⟨by rw [a1, b1], by rw [a1, a2, b2]; exact h⟩
  · obtain ⟨a1, a2⟩ := hA1 hz
    obtain ⟨b1, b2⟩ := hB1 hz
    have hw : wIn x 0 255 := Decidable.byContradiction (fun q => hz (by rw [spFeed, if_neg q]; decide))
    have hl : ¬ ln = 200 := fun q => hz (by rw [spFeed, if_pos hw, if_pos q]; decide)
    refine ⟨by rw [a1, b1], ?_⟩
    rw [a1, a2, b2]
    obtain ⟨h1, h2, h3⟩ := h
    refine ⟨by omega, fun j hj => ?_, fun j hj => ?_⟩
    · by_cases e : j = ln
      · rw [e, upd_s, upd_s]
      · rw [upd_n e, upd_n e]; exact h2 j (by omega)
    · by_cases e : j = ln
      · rw [e, upd_s]
        obtain ⟨n, _, hn, rfl⟩ := wIn_ex 0 255 (by decide) (by decide) hw
        exact nI_ne_m1 (by omega)
      · rw [upd_n e]; exact h3 j (by omega)
/-- go -/
theorem c_go {g wk o dn o2 n2 dn2 : Nat} {F : Nat → Int32 → Int32} {c c2 nw nw2 rw_ rw2 ps ps2 : Nat → Int32} {w way r1 r2 : Int32} (hwk : wk ≤ 4) (hN : iNow g wk c nw) (hP : iPast g wk o dn rw_ ps)
    (hA : r1 = (if goR wk nw w way = 0 then whN F (goN F nw w.toNatClampNeg way) w.toNatClampNeg else goR wk nw w way) ∧ (goR wk nw w way = 0 → scR c2 (goN F nw w.toNatClampNeg way) wk ∧ paR rw2 o2 n2 (pushF dn nw ps) wk ∧ o2 < 30 ∧ ((dn < 30 ∧ n2 = dn + 1) ∨ (dn = 30 ∧ n2 = 30))) ∧ (¬ goR wk nw w way = 0 → c2 = c ∧ o2 = o ∧ n2 = dn ∧ rw2 = rw_))
    (hB : r2 = (if goR wk nw w way = 0 then whN F nw2 w.toNatClampNeg else goR wk nw w way) ∧ (goR wk nw w way = 0 → nw2 = goN F nw w.toNatClampNeg way ∧ ps2 = pushF dn nw ps ∧ ((dn < 30 ∧ dn2 = dn + 1) ∨ (dn = 30 ∧ dn2 = 30))) ∧ (¬ goR wk nw w way = 0 → nw2 = nw ∧ ps2 = ps ∧ dn2 = dn)) : r1 = r2 ∧ dn2 = n2 ∧ iNow g wk c2 nw2 ∧ iPast g wk o2 n2 rw2 ps2 := by
  obtain ⟨a0, a1, a2⟩ := hA
  obtain ⟨b0, b1, b2⟩ := hB
  by_cases hz : goR wk nw w way = 0
  · obtain ⟨a3, a4, a5, a6⟩ := a1 hz
    obtain ⟨b3, b4, b5⟩ := b1 hz
    refine ⟨by rw [a0, b0, b3], by omega, ?_, ?_⟩
    · rw [b3]; exact ⟨a3, okS_goN hN.2⟩
    · rw [b4]; exact iP_push hwk hP hN.2 a4 a5 a6
  · obtain ⟨a3, a4, a5, a6⟩ := a2 hz
    obtain ⟨b3, b4, b5⟩ := b2 hz
    refine ⟨by rw [a0, b0, if_neg hz, if_neg hz], by omega, ?_, ?_⟩
    · rw [b3, a3]; exact hN
    · rw [a4, a5, a6, b4]; exact hP
theorem okS_ropN {g wk : Nat} {nw : Nat → Int32} {k x : Int32} (h : okS g wk nw) : okS g wk (ropN nw k x) := by
  intro w hw
  obtain ⟨pos, h1, h2⟩ := h w hw
  exact ⟨pos, by unfold ropN; rw [upd_n (by omega)]; exact h1, h2⟩
/-- rope -/
theorem c_rope {g wk o dn o2 n2 dn2 : Nat} {c c2 nw nw2 rw_ rw2 ps ps2 : Nat → Int32} {k x r1 r2 : Int32} (hwk : wk ≤ 4) (hN : iNow g wk c nw) (hP : iPast g wk o dn rw_ ps)
    (hA : r1 = (if inB k g then nw 1 >>> (k &&& 31) &&& 1 else -1000000001) ∧ (inB k g → scR c2 (ropN nw k x) wk ∧ paR rw2 o2 n2 (pushF dn nw ps) wk ∧ o2 < 30 ∧ ((dn < 30 ∧ n2 = dn + 1) ∨ (dn = 30 ∧ n2 = 30))) ∧ (¬ inB k g → c2 = c ∧ o2 = o ∧ n2 = dn ∧ rw2 = rw_))
    (hB : r2 = (if inB k g then nw 1 >>> (k &&& 31) &&& 1 else -1000000001) ∧ (inB k g → nw2 = ropN nw k x ∧ ps2 = pushF dn nw ps ∧ ((dn < 30 ∧ dn2 = dn + 1) ∨ (dn = 30 ∧ dn2 = 30))) ∧ (¬ inB k g → nw2 = nw ∧ ps2 = ps ∧ dn2 = dn)) : r1 = r2 ∧ dn2 = n2 ∧ iNow g wk c2 nw2 ∧ iPast g wk o2 n2 rw2 ps2 := by
  obtain ⟨a0, a1, a2⟩ := hA
  obtain ⟨b0, b1, b2⟩ := hB
  by_cases hz : inB k g
  · obtain ⟨a3, a4, a5, a6⟩ := a1 hz
    obtain ⟨b3, b4, b5⟩ := b1 hz
    refine ⟨by rw [a0, b0], by omega, ?_, ?_⟩
    · rw [b3]; exact ⟨a3, okS_ropN hN.2⟩
    · rw [b4]; exact iP_push hwk hP hN.2 a4 a5 a6
  · obtain ⟨a3, a4, a5, a6⟩ := a2 hz
    obtain ⟨b3, b4, b5⟩ := b2 hz
    refine ⟨by rw [a0, b0], by omega, ?_, ?_⟩
    · rw [b3, a3]; exact hN
    · rw [a4, a5, a6, b4]; exact hP
theorem psh_alt (n : Nat) (h : n ≤ 30) : (n < 30 ∧ psh n = n + 1) ∨ (n = 30 ∧ psh n = 30) := by
  unfold psh; split <;> omega
theorem okP_mi {g wk dn : Nat} {F : Nat → Int32 → Int32} {pa nw ps : Nat → Int32} (hg : g ≤ 8) (hwk : wk ≤ 4) (h1 : okS g wk nw) (h2 : dn ≤ 30) (h3 : okP g wk dn ps) (i : Nat) : okS g wk (itr (miS g F pa wk) i (nw, dn, ps)).1 ∧ (itr (miS g F pa wk) i (nw, dn, ps)).2.1 ≤ 30 ∧ okP g wk (itr (miS g F pa wk) i (nw, dn, ps)).2.1 (itr (miS g F pa wk) i (nw, dn, ps)).2.2 := by
  induction i with
  | zero => exact ⟨h1, h2, h3⟩
  | succ i ih =>
    obtain ⟨a, b, c⟩ := ih
    have hq := psh_alt _ b
    exact ⟨okS_pm hg a, (show psh _ ≤ 30 by omega), okP_push hwk c a hq⟩
theorem okS_dw {g wk : Nat} {nw : Nat → Int32} {sd : Int32} (h : okS g wk nw) : ∀ w, okS g wk (dwTo nw sd w).1
  | 0 => h
  | w + 1 => by
    rw [dwTo]
    split
    · exact okS_w (okS_dw h w)
    · exact okS_dw h w
theorem okP_dr {g wk dn : Nat} {F : Nat → Int32 → Int32} {pa nw ps : Nat → Int32} {sd : Int32} (hg : g ≤ 8) (hwk : wk ≤ 4) (h1 : okS g wk nw) (h2 : dn ≤ 30) (h3 : okP g wk dn ps) (i : Nat) : okS g wk (itr (drS g F pa wk) i (nw, dn, ps, sd)).1 ∧ (itr (drS g F pa wk) i (nw, dn, ps, sd)).2.1 ≤ 30 ∧ okP g wk (itr (drS g F pa wk) i (nw, dn, ps, sd)).2.1 (itr (drS g F pa wk) i (nw, dn, ps, sd)).2.2.1 := by
  induction i with
  | zero => exact ⟨h1, h2, h3⟩
  | succ i ih =>
    obtain ⟨a, b, c⟩ := ih
    have hq := psh_alt _ b
    exact ⟨okS_pm hg (okS_dw a wk), (show psh _ ≤ 30 by omega), okP_push hwk c a hq⟩
/-- minute -/
theorem c_minute {g wk P o dn o2 n2 dn2 : Nat} {F : Nat → Int32 → Int32} {pa c c2 nw nw2 rw_ rw2 ps ps2 : Nat → Int32} {n r1 r2 : Int32} (hg : g ≤ 8) (hwk : wk ≤ 4) (hN : iNow g wk c nw) (hP : iPast g wk o dn rw_ ps)
    (hA : r1 = (if barP n P (nw 0) = 0 then (minS g F pa wk P n (nw, dn, ps)).1 0 else barP n P (nw 0)) ∧ scR c2 (minS g F pa wk P n (nw, dn, ps)).1 wk ∧ n2 = (minS g F pa wk P n (nw, dn, ps)).2.1 ∧ paR rw2 o2 n2 (minS g F pa wk P n (nw, dn, ps)).2.2 wk ∧ o2 < 30 ∧ n2 ≤ 30 ∧ okS g wk (minS g F pa wk P n (nw, dn, ps)).1)
    (hB : r2 = (if barP n P (nw 0) = 0 then nw2 0 else barP n P (nw 0)) ∧ (nw2, dn2, ps2) = minS g F pa wk P n (nw, dn, ps) ∧ okS g wk nw2 ∧ dn2 ≤ 30) : r1 = r2 ∧ dn2 = n2 ∧ iNow g wk c2 nw2 ∧ iPast g wk o2 n2 rw2 ps2 := by
  obtain ⟨a0, a1, a2, a3, a4, a5, a6⟩ := hA
  obtain ⟨b0, b1, b2, b3⟩ := hB
  have hk : okP g wk (minS g F pa wk P n (nw, dn, ps)).2.1 (minS g F pa wk P n (nw, dn, ps)).2.2 := by
    unfold minS
    split
    · exact (okP_mi hg hwk hN.2 hP.2.1 hP.2.2.2 _).2.2
    · exact hP.2.2.2
  rw [← b1] at a0 a1 a2 a3 a6 hk
  dsimp only at a0 a1 a2 a3 a6 hk
  exact ⟨by rw [a0, b0], a2.symm, ⟨a1, b2⟩, ⟨a4, a5, a3, by rw [a2]; exact hk⟩⟩
/-- drift -/
theorem c_drift {g wk P o dn o2 n2 dn2 : Nat} {F : Nat → Int32 → Int32} {pa c c2 nw nw2 rw_ rw2 ps ps2 : Nat → Int32} {n r1 r2 sd sA sB : Int32} (hg : g ≤ 8) (hwk : wk ≤ 4) (hN : iNow g wk c nw) (hP : iPast g wk o dn rw_ ps)
    (hA : r1 = (if barP n P (nw 0) = 0 then (driS g F pa wk P n (nw, dn, ps, sd)).1 0 else barP n P (nw 0)) ∧ scR c2 (driS g F pa wk P n (nw, dn, ps, sd)).1 wk ∧ n2 = (driS g F pa wk P n (nw, dn, ps, sd)).2.1 ∧ paR rw2 o2 n2 (driS g F pa wk P n (nw, dn, ps, sd)).2.2.1 wk ∧ o2 < 30 ∧ n2 ≤ 30 ∧ okS g wk (driS g F pa wk P n (nw, dn, ps, sd)).1 ∧ sA = (driS g F pa wk P n (nw, dn, ps, sd)).2.2.2)
    (hB : r2 = (if barP n P (nw 0) = 0 then nw2 0 else barP n P (nw 0)) ∧ (nw2, dn2, ps2, sB) = driS g F pa wk P n (nw, dn, ps, sd) ∧ okS g wk nw2 ∧ dn2 ≤ 30) : r1 = r2 ∧ dn2 = n2 ∧ sB = sA ∧ iNow g wk c2 nw2 ∧ iPast g wk o2 n2 rw2 ps2 := by
  obtain ⟨a0, a1, a2, a3, a4, a5, a6, a7⟩ := hA
  obtain ⟨b0, b1, b2, b3⟩ := hB
  have hk : okP g wk (driS g F pa wk P n (nw, dn, ps, sd)).2.1 (driS g F pa wk P n (nw, dn, ps, sd)).2.2.1 := by
    unfold driS
    split
    · exact (okP_dr hg hwk hN.2 hP.2.1 hP.2.2.2 _).2.2
    · exact hP.2.2.2
  rw [← b1] at a0 a1 a2 a3 a6 a7 hk
  dsimp only at a0 a1 a2 a3 a6 a7 hk
  exact ⟨by rw [a0, b0], a2.symm, a7.symm, ⟨a1, b2⟩, ⟨a4, a5, a3, by rw [a2]; exact hk⟩⟩
/-- undo -/
theorem c_undo {g wk o dn n2 dn2 : Nat} {c c2 nw nw2 rw_ ps : Nat → Int32} {n r1 r2 : Int32} (hwk : wk ≤ 4) (hN : iNow g wk c nw) (hP : iPast g wk o dn rw_ ps)
    (hA : r1 = (if undR n dn = 0 then (unS n (nw, dn, ps)).1 0 else undR n dn) ∧ scR c2 (unS n (nw, dn, ps)).1 wk ∧ n2 = (unS n (nw, dn, ps)).2.1 ∧ paR rw_ o n2 ps wk)
    (hB : r2 = (if undR n dn = 0 then nw2 0 else undR n dn) ∧ (nw2, dn2, ps) = unS n (nw, dn, ps)) : r1 = r2 ∧ dn2 = n2 ∧ iNow g wk c2 nw2 ∧ iPast g wk o n2 rw_ ps := by
  obtain ⟨a0, a1, a2, a3⟩ := hA
  obtain ⟨b0, b1⟩ := hB
  have hk : okS g wk (unS n (nw, dn, ps)).1 ∧ (unS n (nw, dn, ps)).2.1 ≤ dn := by
    by_cases hz : undR n dn = 0
    · obtain ⟨nn, h1, h2, rfl⟩ := undR_ok hP.2.1 hz
      rw [unS_t hz (by have := hP.2.1; omega)]
      exact ⟨okS_cpy hwk hP.2.2.2 (by omega), by dsimp only; omega⟩
    · rw [unS_f hz]; exact ⟨hN.2, Nat.le_refl _⟩
  rw [← b1] at a0 a1 a2 hk
  dsimp only at a0 a1 a2 hk
  exact ⟨by rw [a0, b0], a2.symm, ⟨a1, hk.1⟩, ⟨hP.1, by have := hP.2.1; omega, a3, fun i hi => hP.2.2.2 i (by omega)⟩⟩
/-- met, write -/
theorem c_met {g fn n2 fn2 : Nat} {fs_ sc_ fd f2 s2 fd2 : Nat → Int32} {k n r1 r2 : Int32} (hg : g ≤ 8) (h : iMet g fn fs_ sc_ fd)
    (hA : r1 = spMet g fn k n ∧ (¬ spMet g fn k n < 0 → n2 = fn + 1 ∧ f2 = upd fs_ fn k ∧ s2 = upd sc_ fn n) ∧ (spMet g fn k n < 0 → n2 = fn ∧ f2 = fs_ ∧ s2 = sc_))
    (hB : r2 = spMet g fn k n ∧ (¬ spMet g fn k n < 0 → fn2 = fn + 1 ∧ fd2 = upd (upd fd (2 * fn) k) (2 * fn + 1) n) ∧ (spMet g fn k n < 0 → fn2 = fn ∧ fd2 = fd)) : r1 = r2 ∧ fn2 = n2 ∧ iMet g n2 f2 s2 fd2 := by
  obtain ⟨a0, a1, a2⟩ := hA
  obtain ⟨b0, b1, b2⟩ := hB
  by_cases hz : spMet g fn k n < 0
  · obtain ⟨a3, a4, a5⟩ := a2 hz
    obtain ⟨b3, b4⟩ := b2 hz
    exact ⟨by rw [a0, b0], by omega, by rw [a3, a4, a5, b4]; exact h⟩
  · obtain ⟨a3, a4, a5⟩ := a1 hz
    obtain ⟨b3, b4⟩ := b1 hz
    have hk : inB k g := Decidable.byContradiction (fun q => hz (by rw [spMet, if_neg q]; decide))
    have hn : wIn n 0 999 := Decidable.byContradiction (fun q => hz (by rw [spMet, if_pos hk, if_neg q]; decide))
    have hf : ¬ fn = 6 := fun q => hz (by rw [spMet, if_pos hk, if_pos hn, if_pos q]; decide)
    obtain ⟨h1, h2, h3⟩ := h
    obtain ⟨kn, hkn, rfl⟩ := inB_ex (by omega) hk
    refine ⟨by rw [a0, b0], by omega, ?_⟩
    rw [a3, a4, a5, b4]
    refine ⟨by omega, fun j hj => ?_, fun j hj => ?_⟩
    · by_cases e : j = fn
      · exact ⟨kn, hkn, by rw [e, upd_n (by omega), upd_s]⟩
      · obtain ⟨x, hx1, hx2⟩ := h2 j (by omega)
        exact ⟨x, hx1, by rw [upd_n (by omega), upd_n (by omega)]; exact hx2⟩
    · by_cases e : j = fn
      · rw [e, upd_s, upd_s, upd_n (by omega), upd_s, upd_s]; exact ⟨rfl, rfl⟩
      · rw [upd_n e, upd_n e, upd_n (by omega), upd_n (by omega), upd_n (by omega), upd_n (by omega)]
        exact h3 j (by omega)
theorem c_write {g wk hs en n2 en2 : Nat} {bf_ bs_ bk f2 s2 bk2 : Nat → Int32} {w h r1 r2 : Int32} (hg : g ≤ 8) (hwk : wk ≤ 4) (hhs : (g = 0 ∧ hs = 0) ∨ (0 < g ∧ hs = g + 1)) (hI : iBook wk en bf_ bs_ bk)
    (hA : r1 = spWrite wk hs en w h ∧ (¬ spWrite wk hs en w h < 0 → n2 = en + 1 ∧ f2 = upd bf_ en w ∧ s2 = upd bs_ en h) ∧ (spWrite wk hs en w h < 0 → n2 = en ∧ f2 = bf_ ∧ s2 = bs_))
    (hB : r2 = spWrite wk hs en w h ∧ (¬ spWrite wk hs en w h < 0 → en2 = en + 1 ∧ bk2 = upd (upd bk (2 * en) w) (2 * en + 1) h) ∧ (spWrite wk hs en w h < 0 → en2 = en ∧ bk2 = bk)) : r1 = r2 ∧ en2 = n2 ∧ iBook wk n2 f2 s2 bk2 := by
  obtain ⟨a0, a1, a2⟩ := hA
  obtain ⟨b0, b1, b2⟩ := hB
  by_cases hz : spWrite wk hs en w h < 0
  · obtain ⟨a3, a4, a5⟩ := a2 hz
    obtain ⟨b3, b4⟩ := b2 hz
    exact ⟨by rw [a0, b0], by omega, by rw [a3, a4, a5, b4]; exact hI⟩
  · obtain ⟨a3, a4, a5⟩ := a1 hz
    obtain ⟨b3, b4⟩ := b1 hz
    have hk : inB w wk ∧ inB h hs := Decidable.byContradiction (fun q => hz (by rw [spWrite, if_neg q]; decide))
    have hf : ¬ en = 20 := fun q => hz (by rw [spWrite, if_pos hk, if_pos q]; decide)
    obtain ⟨h1, h2, h3⟩ := hI
    obtain ⟨wn, hwn, rfl⟩ := inB_ex (by omega) hk.1
    obtain ⟨hn, hhn, rfl⟩ := inB_ex (by omega) hk.2
    refine ⟨by rw [a0, b0], by omega, ?_⟩
    rw [a3, a4, a5, b4]
    refine ⟨by omega, fun j hj => ?_, fun j hj => ?_⟩
    · by_cases e : j = en
      · exact ⟨wn, hn, hwn, by rw [e, upd_n (by omega), upd_s], by omega, by rw [e, upd_s]⟩
      · obtain ⟨x, y, hx1, hx2, hx3, hx4⟩ := h2 j (by omega)
        exact ⟨x, y, hx1, by rw [upd_n (by omega), upd_n (by omega)]; exact hx2, hx3, by rw [upd_n (by omega), upd_n (by omega)]; exact hx4⟩
    · by_cases e : j = en
      · rw [e, upd_s, upd_s, upd_n (by omega), upd_s, upd_s]; exact ⟨rfl, rfl⟩
      · rw [upd_n e, upd_n e, upd_n (by omega), upd_n (by omega), upd_n (by omega), upd_n (by omega)]
        exact h3 j (by omega)
/-- keep, goBack -/
theorem c_keep {g wk o dn o2 n2 dn2 : Nat} {c nw rw_ ps ri se so im isd kp ri2 se2 so2 im2 is2 kp2 : Nat → Int32} {i r1 r2 sd : Int32} (hwk : wk ≤ 4) (hN : iNow g wk c nw) (hP : iPast g wk o dn rw_ ps) (hI : iImg g wk ri se so im isd kp)
    (hA : r1 = kpR i ∧ (wIn i 0 1 → ri2 = va_cpy c ri 0 (18 * i.toNatClampNeg) 18 ∧ se2 = upd se i.toNatClampNeg sd ∧ so2 = upd so i.toNatClampNeg 1 ∧ o2 = 0 ∧ n2 = 0) ∧ (¬ wIn i 0 1 → ri2 = ri ∧ se2 = se ∧ so2 = so ∧ o2 = o ∧ n2 = dn))
    (hB : r2 = kpR i ∧ (wIn i 0 1 → im2 = va_cpy nw im 0 (14 * i.toNatClampNeg) 14 ∧ is2 = upd isd i.toNatClampNeg sd ∧ kp2 = upd kp i.toNatClampNeg 1 ∧ dn2 = 0) ∧ (¬ wIn i 0 1 → im2 = im ∧ is2 = isd ∧ kp2 = kp ∧ dn2 = dn)) : r1 = r2 ∧ dn2 = n2 ∧ iPast g wk o2 n2 rw_ ps ∧ iImg g wk ri2 se2 so2 im2 is2 kp2 := by
  obtain ⟨a0, a1, a2⟩ := hA
  obtain ⟨b0, b1, b2⟩ := hB
  by_cases hz : wIn i 0 1
  · obtain ⟨a3, a4, a5, a6, a7⟩ := a1 hz
    obtain ⟨b3, b4, b5, b6⟩ := b1 hz
    obtain ⟨k, _, hk, rfl⟩ := wIn_ex 0 1 (by decide) (by decide) hz
    rw [nI_clamp (by omega)] at a3 a4 a5 b3 b4 b5
    refine ⟨by rw [a0, b0], by omega, ?_, ?_⟩
    · rw [a6, a7]; exact ⟨by omega, by omega, fun j hj => absurd hj (by omega), fun j hj => absurd hj (by omega)⟩
    · intro j hj
      rw [a3, a4, a5, b3, b4, b5]
      by_cases e : j = k
      · subst e
        rw [upd_s, upd_s, upd_s, upd_s]
        refine ⟨rfl, fun _ => ⟨?_, ?_, rfl⟩⟩
        · exact scR_congr hwk hN.1 (fun z hz => row_new hz) (fun z hz => by unfold va_cpy; rw [if_pos (by omega)]; exact congrArg nw (by omega))
        · exact okS_congr hwk hN.2 (fun z hz => by unfold va_cpy; rw [if_pos (by omega)]; exact congrArg nw (by omega))
      · rw [upd_n e, upd_n e, upd_n e, upd_n e]
        obtain ⟨q1, q2⟩ := hI j hj
        refine ⟨q1, fun z => ?_⟩
        obtain ⟨q3, q4, q5⟩ := q2 z
        refine ⟨?_, ?_, q5⟩
        · exact scR_congr hwk q3 (fun z hz => row_old (by omega) hz) (fun z hz => by unfold va_cpy; rw [if_neg (by omega)])
        · exact okS_congr hwk q4 (fun z hz => by unfold va_cpy; rw [if_neg (by omega)])
  · obtain ⟨a3, a4, a5, a6, a7⟩ := a2 hz
    obtain ⟨b3, b4, b5, b6⟩ := b2 hz
    refine ⟨by rw [a0, b0], by omega, ?_, ?_⟩
    · rw [a6, a7]; exact hP
    · rw [a3, a4, a5, b3, b4, b5]; exact hI
theorem c_back {g wk o dn o2 n2 dn2 : Nat} {c c2 nw nw2 rw_ ps ri se so im isd kp : Nat → Int32} {i r1 r2 sd sA sB : Int32} (hwk : wk ≤ 4) (hN : iNow g wk c nw) (hP : iPast g wk o dn rw_ ps) (hI : iImg g wk ri se so im isd kp)
    (hA : r1 = bkR so i ∧ (bkR so i = 1 → c2 = va_cpy ri c (18 * i.toNatClampNeg) 0 18 ∧ o2 = 0 ∧ n2 = 0 ∧ sA = se i.toNatClampNeg) ∧ (¬ bkR so i = 1 → c2 = c ∧ o2 = o ∧ n2 = dn ∧ sA = sd))
    (hB : r2 = bkR kp i ∧ (bkR kp i = 1 → nw2 = va_cpy im nw (14 * i.toNatClampNeg) 0 14 ∧ sB = isd i.toNatClampNeg ∧ dn2 = 0) ∧ (¬ bkR kp i = 1 → nw2 = nw ∧ sB = sd ∧ dn2 = dn)) : r1 = r2 ∧ dn2 = n2 ∧ sB = sA ∧ iNow g wk c2 nw2 ∧ iPast g wk o2 n2 rw_ ps := by
  obtain ⟨a0, a1, a2⟩ := hA
  obtain ⟨b0, b1, b2⟩ := hB
  have he : bkR so i = bkR kp i := by
    unfold bkR
    by_cases hz : wIn i 0 1
    · obtain ⟨k, _, hk, rfl⟩ := wIn_ex 0 1 (by decide) (by decide) hz
      rw [if_pos hz, if_pos hz, nI_clamp (by omega), (hI k (by omega)).1]
    · rw [if_neg hz, if_neg hz]
  rw [he] at a0 a1 a2
  by_cases hz : bkR kp i = 1
  · obtain ⟨a3, a4, a5, a6⟩ := a1 hz
    obtain ⟨b3, b4, b5⟩ := b1 hz
    have hw : wIn i 0 1 := Decidable.byContradiction (fun q => absurd hz (by rw [bkR, if_neg q]; decide))
    obtain ⟨k, _, hk, rfl⟩ := wIn_ex 0 1 (by decide) (by decide) hw
    rw [nI_clamp (by omega)] at a3 a6 b3 b4
    have hkp : ¬ kp k = 0 := fun q => absurd hz (by rw [bkR, if_pos hw, nI_clamp (by omega), if_pos q]; decide)
    obtain ⟨q1, q2⟩ := hI k (by omega)
    obtain ⟨q3, q4, q5⟩ := q2 hkp
    refine ⟨by rw [a0, b0], by omega, by rw [a6, b4, q5], ⟨?_, ?_⟩, ?_⟩
    · rw [a3, b3]
      exact scR_congr hwk q3 (fun z hz => by unfold va_cpy; rw [if_pos (by omega), Nat.sub_zero]) (fun z hz => by unfold va_cpy; rw [if_pos (by omega), Nat.sub_zero])
    · rw [b3]
      exact okS_congr hwk q4 (fun z hz => by unfold va_cpy; rw [if_pos (by omega), Nat.sub_zero])
    · rw [a4, a5]; exact ⟨by omega, by omega, fun j hj => absurd hj (by omega), fun j hj => absurd hj (by omega)⟩
  · obtain ⟨a3, a4, a5, a6⟩ := a2 hz
    obtain ⟨b3, b4, b5⟩ := b2 hz
    exact ⟨by rw [a0, b0], by omega, by rw [a6, b4], by rw [a3, b3]; exact hN, by rw [a4, a5]; exact hP⟩
theorem c_tear_m {g : Nat} {fs_ sc_ fd : Nat → Int32} : iMet g 0 fs_ sc_ fd := ⟨by omega, fun _ h => absurd h (by omega), fun _ h => absurd h (by omega)⟩
theorem c_tear_b {wk : Nat} {bf_ bs_ bk : Nat → Int32} : iBook wk 0 bf_ bs_ bk := ⟨by omega, fun _ h => absurd h (by omega), fun _ h => absurd h (by omega)⟩
/-- the street -/
theorem c_st_same {tx dl dg dh dp : Nat → Int32} {ln at2 fk2 wr2 : Nat} {fa2 : Int32} {b1 : Nat} {b3 : Int32} {b4 b5 b6 b7 : Nat → Int32} {b8 : Int32} {fb : Int32} (h1 : rdR ln at2 fk2 fa2 (rdS tx ln dl dg dh dp).1 (rdS tx ln dl dg dh dp).2.1) (h2 : (b1, wr2, b3, b4, b5, b6, b7, b8) = rdS tx ln dl dg dh dp) (h3 : fb = (if wr2 = 0 then -1 else nI b1)) : fk2 = wr2 ∧ fb = fa2 := by
  rw [← h2] at h1
  obtain ⟨e1, e2, e3, e4, e5⟩ := h1
  refine ⟨e1, ?_⟩
  rw [h3]
  dsimp only at e4 e5
  by_cases hz : wr2 = 0
  · rw [if_pos hz]; exact (e4 hz).2.symm
  · rw [if_neg hz]; exact (e5 hz).symm
theorem c_st_new {tx dl dg dh dp : Nat → Int32} {ln : Nat} {b1 wr2 : Nat} {b3 : Int32} {dl2 dg2 dh2 dp2 : Nat → Int32} {dr2 : Int32} {Pn wdn gn_ wkn g2 wk2 : Nat} {grn frn : Int32} {dyn hon pan lw gp pcs lw2 gp2 pc2 c2 nw2 : Nat → Int32} (h2 : (b1, wr2, b3, dl2, dg2, dh2, dp2, dr2) = rdS tx ln dl dg dh dp) (hw : wr2 = 0) (hb1 : Pn ≤ 60) (hb2 : gn_ ≤ 8) (hb3 : wkn ≤ 4) (hb4 : wdn ≤ 50) (hd : dpR Pn grn wdn gn_ wkn frn dyn hon pan (rdS tx ln dl dg dh dp).2.2) (hg : bgI c2 hon wkn frn 4) (e4 : dl2 4 = nI wk2) (hk2 : wk2 ≤ 4) (k1 : lw2 = va_cpy dl2 lw 0 0 5) (k2 : gp2 = va_cpy dg2 gp 0 0 8) (k3 : pc2 = va_cpy dp2 pcs 0 0 4) (k4 : stN nw2 dh2 dr2) :
    wkn = wk2 ∧ iLaw Pn wdn gn_ wkn grn dyn pan lw2 gp2 pc2 ∧ iNow gn_ wkn c2 nw2 := by
  have hz : (rdS tx ln dl dg dh dp).2.1 = 0 := by rw [← h2]; exact hw
  have ho := rdS_okD hz
  rw [← h2] at hd ho
  obtain ⟨d1, d2, d3, d4, d5, d6, d7, d8, d9, d10⟩ := hd
  obtain ⟨g, wk, gn, wd, o1, o2, o3, o4, o5, o6, o7, o8, o9, o10, o11, o12⟩ := ho
  dsimp only at d1 d2 d3 d4 d5 d6 d7 d8 d9 d10 o1 o3 o5 o7 o9 o10 o11 o12
  have eg : g = gn_ := n_eq_of (by omega) (by omega) (o1.symm.trans d5)
  have ew : wk = wkn := n_eq_of (by omega) (by omega) (o3.symm.trans d6)
  have ed : wd = wdn := n_eq_of (by omega) (by omega) (o7.symm.trans d4)
  have ek : wkn = wk2 := n_eq_of (by omega) (by omega) (d6.symm.trans e4)
  subst eg ew ed
  have hP0 : 0 < g → 0 < Pn := fun q => Nat.pos_of_ne_zero (fun z => o12 q (d1.mpr z))
  refine ⟨ek, ⟨hb1, hb2, hb3, hb4, hP0, fun q => o9 (o12 q), ?_, ?_, ?_, ?_, ?_, ?_, ?_, ?_, gn, d3.symm.trans o5, o6⟩, ?_⟩
  · rw [k1, cpy0_at (by omega)]; exact d2
  · rw [k1, cpy0_at (by omega)]; exact d3
  · rw [k1, cpy0_at (by omega)]; exact d4
  · rw [k1, cpy0_at (by omega)]; exact d5
  · rw [k1, cpy0_at (by omega)]; exact d6
  · intro k hk; rw [k2, cpy0_at (by omega)]; exact d7 k hk
  · intro k hk; rw [k3, cpy0_at (by omega)]; exact d9 k hk
  · intro k hk
    obtain ⟨x, hx, e⟩ := o10 k hk
    exact ⟨x, hx, by rw [k2, cpy0_at (by omega)]; exact e⟩
  · obtain ⟨s1, s2, s3⟩ := k4
    obtain ⟨t1, t2, t3⟩ := hg
    refine ⟨⟨by rw [t1, s1], by rw [t2, s2, d10], fun w hw => ?_⟩, fun w hw => ?_⟩
    · obtain ⟨h, hh, e⟩ := o11 w hw
      obtain ⟨u1, u2, u3, u4⟩ := t3 w (by omega)
      obtain ⟨v1, v2, v3⟩ := s3 w (by omega)
      have ep : posF nw2 w = h := posF_of (by rw [v1]; exact e) (by omega)
      unfold quad
      rw [ep, hsN_t (by omega), gpN_t (by omega), u1, if_pos hw, u2, u3, u4, v2, v3, d8 w hw]
      exact ⟨e, rfl, rfl, rfl⟩
    · obtain ⟨h, hh, e⟩ := o11 w hw
      obtain ⟨v1, v2, v3⟩ := s3 w (by omega)
      exact ⟨h, by rw [v1]; exact e, Or.inl hh⟩
theorem c_st_img {g wk : Nat} {ri se so2 im isd kp kp2 : Nat → Int32} (h1 : ∀ j, j < 2 → so2 j = 0) (h2 : kp2 = upd (upd kp 0 (vp_nar .boolean 0)) 1 (vp_nar .boolean 0)) : iImg g wk ri se so2 im isd kp2 := by
  have e0 : vp_nar .boolean 0 = 0 := rfl
  have e : ∀ j, j < 2 → kp2 j = 0 := by
    intro j hj
    rw [h2, e0]
    rcases (show j = 0 ∨ j = 1 by omega) with rfl | rfl
    · rw [upd_n (by decide), upd_s]
    · rw [upd_s]
  intro j hj
  exact ⟨by rw [h1 j hj, e j hj], fun z => absurd (e j hj) z⟩
theorem c_past0 {g wk : Nat} {rw_ ps : Nat → Int32} : iPast g wk 0 0 rw_ ps := ⟨by omega, by omega, fun j hj => absurd hj (by omega), fun j hj => absurd hj (by omega)⟩
theorem c_text0 {lt tx : Nat → Int32} : iText 0 lt tx := ⟨by omega, fun _ h => absurd h (by omega), fun _ h => absurd h (by omega)⟩
theorem c_end {L i : Nat} (hL : L ≤ 384) (hi : i ≤ 390) (h : ¬ nI L - 6 < nI i) : i + 6 ≤ L := by
  refine Decidable.byContradiction (fun z => h ?_)
  rw [Int32.lt_iff_toInt_lt, nI_toInt (by omega)]
  have := pk_sub_toInt (a := L) (b := 6) (by omega) (by omega)
  rw [show nI L - 6 = nI L - nI 6 from rfl, this]
  omega
