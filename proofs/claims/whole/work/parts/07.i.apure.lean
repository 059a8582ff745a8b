/-! Walks: how long at most, on the way to a house further on -/
section WM
variable {f : Nat → Int32 → Int32} {rp v t : Int32} {b : Nat}
theorem wT_ge (M : Nat) : ∀ (h : Nat) (y : Int32) (m n : Nat), wT f rp v t b M h y m = some n → m ≤ n ∧ n ≤ m + M := by
  induction M with
  | zero =>
    intro h y m n e
    unfold wT at e
    split at e
    · cases e; omega
    · cases e
  | succ M ih =>
    intro h y m n e
    unfold wT at e
    split at e
    · cases e; omega
    · split at e
      · split at e
        · have := ih _ _ _ _ e; omega
        · have := ih _ _ _ _ e; omega
      · split at e
        · have := ih _ _ _ _ e; omega
        · have := ih _ _ _ _ e; omega
theorem wT_more (M : Nat) : ∀ (h : Nat) (y : Int32) (m n : Nat), wT f rp v t b M h y m = some n → ∀ K, n ≤ m + K → wT f rp v t b K h y m = some n := by
  induction M with
  | zero =>
    intro h y m n e K hK
    unfold wT at e
    split at e
    · next hb => cases e; subst hb; exact wT_done K
    · cases e
  | succ M ih =>
    intro h y m n e K hK
    by_cases hb : h = b
    · subst hb; rw [wT_done] at e ⊢; exact e
    · rw [wT, if_neg hb] at e
      by_cases h1 : h < b
      · rw [if_pos h1] at e
        by_cases h2 : f h (t + nI m) ≤ y + pce rp v h
        · rw [if_pos h2] at e
          have hg := wT_ge M _ _ _ _ e
          obtain ⟨J, rfl⟩ : ∃ J, K = J + 1 := ⟨K - 1, by omega⟩
          rw [wT, if_neg hb, if_pos h1, if_pos h2]
          exact ih _ _ _ _ e J (by omega)
        · rw [if_neg h2] at e
          have hg := wT_ge M _ _ _ _ e
          obtain ⟨J, rfl⟩ : ∃ J, K = J + 1 := ⟨K - 1, by omega⟩
          rw [wT, if_neg hb, if_pos h1, if_neg h2]
          exact ih _ _ _ _ e J (by omega)
      · rw [if_neg h1] at e
        by_cases h2 : f (h - 1) (t + nI m) ≤ y + pce rp v (h - 1)
        · rw [if_pos h2] at e
          have hg := wT_ge M _ _ _ _ e
          obtain ⟨J, rfl⟩ : ∃ J, K = J + 1 := ⟨K - 1, by omega⟩
          rw [wT, if_neg hb, if_neg h1, if_pos h2]
          exact ih _ _ _ _ e J (by omega)
        · rw [if_neg h2] at e
          have hg := wT_ge M _ _ _ _ e
          obtain ⟨J, rfl⟩ : ∃ J, K = J + 1 := ⟨K - 1, by omega⟩
          rw [wT, if_neg hb, if_neg h1, if_neg h2]
          exact ih _ _ _ _ e J (by omega)
theorem wT_up {b1 b2 : Nat} (hbb : b1 ≤ b2) (M : Nat) : ∀ (h : Nat) (y : Int32) (m n : Nat), h ≤ b1 → wT f rp v t b2 M h y m = some n → ∃ k, k ≤ n ∧ wT f rp v t b1 M h y m = some k := by
  induction M with
  | zero =>
    intro h y m n hh e
    unfold wT at e
    split at e
    · next hb => cases e; refine ⟨m, Nat.le_refl m, ?_⟩; rw [wT, if_pos (by omega)]
    · cases e
  | succ M ih =>
    intro h y m n hh e
    by_cases hb : h = b1
    · subst hb; exact ⟨m, (wT_ge (M + 1) _ _ _ _ e).1, wT_done (M + 1)⟩
    · rw [wT, if_neg (show ¬ h = b2 by omega), if_pos (show h < b2 by omega)] at e
      rw [wT, if_neg hb, if_pos (show h < b1 by omega)]
      by_cases h2 : f h (t + nI m) ≤ y + pce rp v h
      · rw [if_pos h2] at e ⊢; exact ih _ _ _ _ (by omega) e
      · rw [if_neg h2] at e ⊢; exact ih _ _ _ _ (by omega) e
theorem wT_dn {b1 b2 : Nat} (hbb : b2 ≤ b1) (M : Nat) : ∀ (h : Nat) (y : Int32) (m n : Nat), b1 ≤ h → wT f rp v t b2 M h y m = some n → ∃ k, k ≤ n ∧ wT f rp v t b1 M h y m = some k := by
  induction M with
  | zero =>
    intro h y m n hh e
    unfold wT at e
    split at e
    · next hb => cases e; refine ⟨m, Nat.le_refl m, ?_⟩; rw [wT, if_pos (by omega)]
    · cases e
  | succ M ih =>
    intro h y m n hh e
    by_cases hb : h = b1
    · subst hb; exact ⟨m, (wT_ge (M + 1) _ _ _ _ e).1, wT_done (M + 1)⟩
    · rw [wT, if_neg (show ¬ h = b2 by omega), if_neg (show ¬ h < b2 by omega)] at e
      rw [wT, if_neg hb, if_neg (show ¬ h < b1 by omega)]
      by_cases h2 : f (h - 1) (t + nI m) ≤ y + pce rp v (h - 1)
      · rw [if_pos h2] at e ⊢; exact ih _ _ _ _ (by omega) e
      · rw [if_neg h2] at e ⊢; exact ih _ _ _ _ (by omega) e
/-- only the ropes on the way count -/
theorem wT_rp {rq : Int32} {lo hi : Nat} (hp : ∀ k, lo ≤ k → k < hi → pce rp v k = pce rq v k) (M : Nat) : ∀ (h : Nat) (y : Int32) (m : Nat), lo ≤ h → h ≤ hi → lo ≤ b → b ≤ hi → wT f rp v t b M h y m = wT f rq v t b M h y m := by
  induction M with
  | zero => intro h y m _ _ _ _; rfl
  | succ M ih =>
    intro h y m h1 h2 h3 h4
    by_cases hb : h = b
    · rw [hb, wT_done, wT_done]
    · rw [wT, wT, if_neg hb, if_neg hb]
      by_cases hl : h < b
      · rw [if_pos hl, if_pos hl, hp h h1 (by omega), ih _ _ _ (by omega) (by omega) h3 h4, ih _ _ _ h1 h2 h3 h4]
      · rw [if_neg hl, if_neg hl, hp (h - 1) (by omega) (by omega), ih _ _ _ (by omega) (by omega) h3 h4, ih _ _ _ h1 h2 h3 h4]
end WM
theorem so_iff {F : Nat → Int32 → Int32} {rp v : Int32} {a b t uu : Nat} (ht : t ≤ uu) (hu : uu ≤ 119) : soQ F rp v a b uu t ↔ ¬ rT (wT F rp v (nI t) b (uu - t) a 0 0) = -1 := by
  constructor
  · intro hh
    obtain ⟨h1, h2⟩ := hh
    cases e : wT F rp v (nI t) b 300 a 0 0 with
    | none => rw [e] at h1; exact absurd rfl h1
    | some n =>
      rw [e] at h2
      have g1 := wT_ge 300 _ _ _ _ e
      have h3 : ¬ nI uu < nI (t + n) := by
        have e9 : nI t + rT (some n) = nI (t + n) := n_add (x := t) (y := n) rfl rfl rfl
        rw [e9] at h2; exact h2
      have h4 := n_nlt_of (by omega) (by omega) h3
      rw [wT_more 300 _ _ _ _ e (uu - t) (by omega)]
      exact nI_ne_m1 (by omega)
  · intro h
    cases e : wT F rp v (nI t) b (uu - t) a 0 0 with
    | none => rw [e] at h; exact absurd rfl h
    | some n =>
      have g1 := wT_ge (uu - t) _ _ _ _ e
      have e3 := wT_more (uu - t) _ _ _ _ e 300 (by omega)
      show ¬ rT (wT F rp v (nI t) b 300 a 0 0) = -1 ∧ ¬ nI uu < nI t + rT (wT F rp v (nI t) b 300 a 0 0)
      rw [e3]
      refine ⟨nI_ne_m1 (by omega), ?_⟩
      show ¬ nI uu < nI t + nI n
      rw [nI_add]
      intro z
      have := n_lt_of (by omega) (by omega) z
      omega
/-! The doctor: how far the farthest is -/
section FA
variable {F : Nat → Int32 → Int32} {rp v t : Int32} {a : Nat}
theorem faI_eq (b : Nat) : faI F rp v t a b = rT (wT F rp v t b 300 a 0 0) := by
  show (if b = a then (0 : Int32) else rT (wT F rp v t b 300 a 0 0)) = _
  by_cases h : b = a
  · subst h; rw [if_pos rfl, wT_done]; rfl
  · rw [if_neg h]
theorem fa_none {k b : Nat} (hb : b < k) (h : wT F rp v t b 300 a 0 0 = none) : faTo F rp v t a k = -1 := by
  induction k with
  | zero => omega
  | succ k ih =>
    rw [faTo, faI_eq]
    by_cases e : b = k
    · rw [← e, h]; exact if_pos (Or.inl rfl)
    · rw [ih (by omega), if_pos (Or.inr rfl)]
theorem fa_all {k : Nat} (h : ∀ b, b < k → ∃ n, wT F rp v t b 300 a 0 0 = some n) : ∃ M, M ≤ 300 ∧ faTo F rp v t a k = nI M ∧ (∀ b, b < k → ∀ n, wT F rp v t b 300 a 0 0 = some n → n ≤ M) ∧ (M = 0 ∨ ∃ b, b < k ∧ wT F rp v t b 300 a 0 0 = some M) := by
  induction k with
  | zero => exact ⟨0, by omega, rfl, fun b hb => absurd hb (by omega), Or.inl rfl⟩
  | succ k ih =>
    obtain ⟨M, hM, e, h1, h2⟩ := ih (fun b hb => h b (by omega))
    obtain ⟨n, en⟩ := h k (by omega)
    have gn := wT_ge 300 _ _ _ _ en
    have e1 : faTo F rp v t a (k + 1) = if nI M < nI n then nI n else nI M := by
      rw [faTo, faI_eq, en, e]
      show (if nI n = -1 ∨ nI M = -1 then _ else _) = _
      rw [if_neg (fun z => z.elim (nI_ne_m1 (by omega)) (nI_ne_m1 (by omega)))]
      rfl
    by_cases hc : M < n
    · refine ⟨n, by omega, by rw [e1, if_pos ((nI_ltI (by omega) (by omega)).mpr hc)], fun b hb x hx => ?_, Or.inr ⟨k, by omega, en⟩⟩
      by_cases eb : b = k
      · rw [eb, en] at hx; cases hx; omega
      · have := h1 b (by omega) x hx; omega
    · refine ⟨M, hM, by rw [e1, if_neg (fun z => hc (n_lt_of (by omega) (by omega) z))], fun b hb x hx => ?_, ?_⟩
      · by_cases eb : b = k
        · rw [eb, en] at hx; cases hx; omega
        · exact h1 b (by omega) x hx
      · rcases h2 with z | ⟨b, hb, z⟩
        · exact Or.inl z
        · exact Or.inr ⟨b, by omega, z⟩
theorem fa_far {g : Nat} (ha : a ≤ g) : (if rT (wT F rp v t 0 300 a 0 0) = -1 ∨ rT (wT F rp v t g 300 a 0 0) = -1 then (-1 : Int32) else if rT (wT F rp v t 0 300 a 0 0) < rT (wT F rp v t g 300 a 0 0) then rT (wT F rp v t g 300 a 0 0) else rT (wT F rp v t 0 300 a 0 0)) = faTo F rp v t a (g + 1) := by
  cases eL : wT F rp v t 0 300 a 0 0 with
  | none => rw [fa_none (b := 0) (by omega) eL]; exact if_pos (Or.inl rfl)
  | some x =>
    cases eU : wT F rp v t g 300 a 0 0 with
    | none => rw [fa_none (b := g) (by omega) eU]; exact if_pos (Or.inr rfl)
    | some y =>
      have gx := wT_ge 300 _ _ _ _ eL
      have gy := wT_ge 300 _ _ _ _ eU
      have key : ∀ b, b < g + 1 → ∃ n, (n ≤ x ∨ n ≤ y) ∧ wT F rp v t b 300 a 0 0 = some n := by
        intro b hb
        by_cases hc : b ≤ a
        · obtain ⟨k, h1, h2⟩ := wT_dn (b1 := b) (b2 := 0) (by omega) 300 a 0 0 x hc eL
          exact ⟨k, Or.inl h1, h2⟩
        · obtain ⟨k, h1, h2⟩ := wT_up (b1 := b) (b2 := g) (by omega) 300 a 0 0 y (by omega) eU
          exact ⟨k, Or.inr h1, h2⟩
      obtain ⟨M, hM, e, h1, h2⟩ := fa_all (k := g + 1) (fun b hb => (key b hb).imp (fun _ q => q.2))
      have lx := h1 0 (by omega) x eL
      have ly := h1 g (by omega) y eU
      have hm : M ≤ x ∨ M ≤ y := by
        rcases h2 with z | ⟨b, hb, z⟩
        · left; omega
        · obtain ⟨n, h3, h4⟩ := key b hb
          rw [z] at h4; cases h4; exact h3
      rw [e]
      show (if nI x = -1 ∨ nI y = -1 then (-1 : Int32) else if nI x < nI y then nI y else nI x) = nI M
      rw [if_neg (fun z => z.elim (nI_ne_m1 (by omega)) (nI_ne_m1 (by omega)))]
      by_cases hc : x < y
      · rw [if_pos ((nI_ltI (by omega) (by omega)).mpr hc)]; exact congrArg nI (by omega)
      · rw [if_neg (fun z => hc (n_lt_of (by omega) (by omega) z))]; exact congrArg nI (by omega)
end FA
theorem dc_iff {f : Nat → Int32} : ∀ (a : Nat), a ≤ 1000 → ((dcTo f a).1 = -1 ↔ (dcTo f a).2 = -1)
  | 0, _ => ⟨fun _ => rfl, fun _ => rfl⟩
  | a + 1, h => by
    rw [dcTo]
    split
    · next hc => exact ⟨fun z => absurd z (nI_ne_m1 (by omega)), fun z => absurd z hc.1⟩
    · exact dc_iff a (by omega)
theorem dc_iff2 {f : Nat → Int32} {a : Nat} {x y : Int32} (h : (x, y) = dcTo f a) (ha : a ≤ 1000) : x = -1 ↔ y = -1 := by
  have := dc_iff (f := f) a ha
  rw [← h] at this
  exact this
/-! Beat -/
theorem bt_n1 {F : Nat → Int32 → Int32} {rp v t : Int32} {g : Nat} (h : wT F rp v t g 600 0 0 0 = none) : (-1 : Int32) = btT F rp v t g := by
  unfold btT; rw [h]
theorem bt_n2 {F : Nat → Int32 → Int32} {rp v t : Int32} {g m1 : Nat} (h : wT F rp v t g 600 0 0 0 = some m1) (h2 : wT F rp v (t + nI m1) 0 (600 - m1) g 0 0 = none) : (-1 : Int32) = btT F rp v t g := by
  unfold btT; rw [h]; dsimp only; rw [h2]
theorem bt_s {F : Nat → Int32 → Int32} {rp v t : Int32} {g m1 m2 : Nat} (h : wT F rp v t g 600 0 0 0 = some m1) (h2 : wT F rp v (t + nI m1) 0 (600 - m1) g 0 0 = some m2) : nI (m1 + m2) = btT F rp v t g := by
  unfold btT; rw [h]; dsimp only; rw [h2]
/-! One walker's course within all minutes -/
section CO
variable {g wk : Nat} {F : Nat → Int32 → Int32} {pa nw : Nat → Int32}
theorem pmTo_out : ∀ (i j : Nat), (j < 2 ∨ 3 * i + 2 ≤ j) → pmTo g F pa nw i j = nw j
  | 0, _, _ => rfl
  | i + 1, j, h => by rw [pmTo, upd3_n (by omega)]; exact pmTo_out i j (by omega)
theorem pmTo_xW {w : Nat} (hlt : (stP g F (nw 1) (pa w) (nw 0) (posF nw w) (nw (3 * w + 3)) (nw (3 * w + 4))).1 < 1000) : ∀ (i : Nat), w < i → xW (pmTo g F pa nw i) w = stP g F (nw 1) (pa w) (nw 0) (posF nw w) (nw (3 * w + 3)) (nw (3 * w + 4))
  | 0, h => absurd h (by omega)
  | i + 1, h => by
    by_cases e : w = i
    · subst e
      have e0 : pmTo g F pa nw w 0 = nw 0 := pmTo_out w 0 (by omega)
      have e1 : pmTo g F pa nw w 1 = nw 1 := pmTo_out w 1 (by omega)
      have e2 : posF (pmTo g F pa nw w) w = posF nw w := by unfold posF; rw [pmTo_out w _ (by omega)]
      have e3 : pmTo g F pa nw w (3 * w + 3) = nw (3 * w + 3) := pmTo_out w _ (by omega)
      have e4 : pmTo g F pa nw w (3 * w + 4) = nw (3 * w + 4) := pmTo_out w _ (by omega)
      rw [pmTo, e0, e1, e2, e3, e4, xW, posF_upd3 hlt, upd3_1, upd3_2]
    · have ih := pmTo_xW hlt i (by omega)
      rw [← ih, pmTo]
      unfold xW
      have e2 : ∀ x, posF (upd3 (pmTo g F pa nw i) i x) w = posF (pmTo g F pa nw i) w := fun x => by unfold posF; rw [upd3_n (by omega)]
      rw [e2, upd3_n (by omega), upd3_n (by omega)]
theorem pm_xW {w : Nat} (hlt : (stP g F (nw 1) (pa w) (nw 0) (posF nw w) (nw (3 * w + 3)) (nw (3 * w + 4))).1 < 1000) (hw : w < wk) : xW (pm g F pa wk nw) w = stP g F (nw 1) (pa w) (nw 0) (posF nw w) (nw (3 * w + 3)) (nw (3 * w + 4)) := by
  rw [← pmTo_xW hlt wk hw]
  unfold pm xW
  rw [posF_upd (by omega), upd_n (by omega), upd_n (by omega)]
theorem pm_0 : pm g F pa wk nw 0 = nw 0 + 1 := by
  unfold pm; rw [upd_s, pmTo_out wk 0 (by omega)]
theorem pm_1 : pm g F pa wk nw 1 = nw 1 := by
  unfold pm; rw [upd_n (by omega), pmTo_out wk 1 (by omega)]
theorem okS_pmTo (hg : g ≤ 8) (h : okS g wk nw) : ∀ (i : Nat), i ≤ wk → okS g wk (pmTo g F pa nw i)
  | 0, _ => h
  | i + 1, hi => by
    obtain ⟨pos, h1, h2⟩ := okS_pmTo hg h i (by omega) i (by omega)
    exact pm_ok hg h1 h2 (okS_pmTo hg h i (by omega))
theorem okS_pm (hg : g ≤ 8) (h : okS g wk nw) : okS g wk (pm g F pa wk nw) := okS_0 (okS_pmTo hg h wk (Nat.le_refl _))
theorem itr_x (hg : g ≤ 8) (h : okS g wk nw) (n : Nat) : okS g wk (itr (pm g F pa wk) n nw) ∧ itr (pm g F pa wk) n nw 0 = nw 0 + nI n ∧ itr (pm g F pa wk) n nw 1 = nw 1 ∧ ∀ w, w < wk → xW (itr (pm g F pa wk) n nw) w = onW g F (nw 1) (pa w) (nw 0) (xW nw w) n := by
  induction n with
  | zero => exact ⟨h, (Int32.add_zero _).symm, rfl, fun _ _ => rfl⟩
  | succ n ih =>
    obtain ⟨i1, i2, i3, i4⟩ := ih
    refine ⟨okS_pm hg i1, ?_, ?_, fun w hw => ?_⟩
    · rw [itr, pm_0, i2, Int32.add_assoc]; exact congrArg (HAdd.hAdd _) (n_add (x := n) (y := 1) rfl rfl rfl)
    · rw [itr, pm_1, i3]
    · have h4 := i4 w hw
      obtain ⟨pos, h5, h6⟩ := i1 w hw
      have hl := posOk_lt hg h6
      have hlt : (stP g F (itr (pm g F pa wk) n nw 1) (pa w) (itr (pm g F pa wk) n nw 0) (posF (itr (pm g F pa wk) n nw) w) (itr (pm g F pa wk) n nw (3 * w + 3)) (itr (pm g F pa wk) n nw (3 * w + 4))).1 < 1000 := by
        rw [posF_of h5 hl]; exact posOk_lt hg (stP_ok hg h6)
      rw [itr, pm_xW hlt hw, i2, i3, onW, ← h4]; rfl
theorem co_iff {cc nwc : Nat → Int32} {w h n : Nat} (hg : g ≤ 8) (ho : okS g wk nw) (hn : nwc = itr (pm g F pa wk) n nw) (hs : scR cc nwc wk) (hw : w < wk) (hh : h < 100) : coQ g F pa nw w h n ↔ cc (4 * w + 2) = nI h := by
  obtain ⟨i1, i2, i3, i4⟩ := itr_x (F := F) (pa := pa) hg ho n
  rw [← hn] at i1 i4
  rw [← jd_iff hg hs i1 hw hh]
  show (onW g F (nw 1) (pa w) (nw 0) (xW nw w) n).1 = h ↔ _
  rw [← i4 w hw]
  show posF nwc w = h ↔ _
  obtain ⟨pos, h5, h6⟩ := i1 w hw
  have hl := posOk_lt hg h6
  rw [posF_of h5 hl, h5]
  exact ⟨fun e => congrArg nI e, fun e => n_eq_of (by omega) (by omega) e⟩
theorem cW_eq {nwc : Nat → Int32} {w n : Nat} (hg : g ≤ 8) (ho : okS g wk nw) (hn : nwc = itr (pm g F pa wk) n nw) (hw : w < wk) : whN F nwc w = cW g F pa nw w n := by
  obtain ⟨i1, i2, i3, i4⟩ := itr_x (F := F) (pa := pa) hg ho n
  rw [← hn] at i2 i4
  have h4 := i4 w hw
  show whP (fun k => F k (nwc 0)) (xW nwc w).1 (xW nwc w).2.1 (xW nwc w).2.2 = whP (fun k => F k (nw 0 + nI n)) _ _ _
  rw [h4, i2]
end CO
theorem scR_cpy {c c9 nw : Nat → Int32} {wk : Nat} (hwk : wk ≤ 4) (h : scR c nw wk) : scR (va_cpy c c9 0 0 18) nw wk :=
  scR_congr hwk h (fun j hj => cpy0_at hj) (fun _ _ => rfl)
def cmp3 (x y : Int32) : Int32 := if x < y then -1 else if x = y then 0 else 1
theorem cmp3_0 {x y : Int32} : cmp3 x y = 0 ↔ x = y := by
  unfold cmp3
  by_cases h : x < y
  · rw [if_pos h]
    exact ⟨fun z => absurd z (by decide), fun z => by rw [z] at h; exact absurd h Int32.lt_irrefl⟩
  · rw [if_neg h]
    by_cases h2 : x = y
    · rw [if_pos h2]; exact ⟨fun _ => h2, fun _ => rfl⟩
    · rw [if_neg h2]; exact ⟨fun z => absurd z (by decide), fun z => absurd z h2⟩
theorem cmp3_b {x y a b : Int32} (h1 : ¬ x = y) (h2 : ¬ a = b) : cmp3 x y = cmp3 a b ↔ bI (x < y) = bI (a < b) := by
  unfold cmp3 bI
  rw [if_neg h1, if_neg h2]
  by_cases p : x < y <;> by_cases q : a < b
  · rw [if_pos p, if_pos q, if_pos p, if_pos q]; exact ⟨fun _ => rfl, fun _ => rfl⟩
  · rw [if_pos p, if_neg q, if_pos p, if_neg q]; exact ⟨fun z => absurd z (by decide), fun z => absurd z (by decide)⟩
  · rw [if_neg p, if_pos q, if_neg p, if_pos q]; exact ⟨fun z => absurd z (by decide), fun z => absurd z (by decide)⟩
  · rw [if_neg p, if_neg q, if_neg p, if_neg q]; exact ⟨fun _ => rfl, fun _ => rfl⟩
theorem me_iff {f h : Nat → Int32} {n : Nat} (h0 : n = 0 ∨ ¬ f 0 = h 0) : meQ f h n ↔ (cmp3 (f n) (h n) = 0 ∨ ¬ cmp3 (f n) (h n) = cmp3 (f 0) (h 0)) := by
  show (f n = h n ∨ ¬ bI (f n < h n) = bI (f 0 < h 0)) ↔ _
  rw [cmp3_0]
  by_cases e : f n = h n
  · exact ⟨fun _ => Or.inl e, fun _ => Or.inl e⟩
  · rcases h0 with rfl | h0
    · exact ⟨fun z => z.elim Or.inl (fun q => absurd rfl q), fun z => z.elim Or.inl (fun q => absurd rfl q)⟩
    · rw [cmp3_b e h0]
