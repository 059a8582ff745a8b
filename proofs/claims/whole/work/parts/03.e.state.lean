/-! The walkers in a row of ints: minutes, ropes, then place, yards, way of each -/
def upd3 (nw : Nat → Int32) (w : Nat) (x : Nat × Int32 × Int32) : Nat → Int32 := upd (upd (upd nw (3 * w + 2) (nI x.1)) (3 * w + 3) x.2.1) (3 * w + 4) x.2.2
def posF (nw : Nat → Int32) (w : Nat) : Nat := (nw (3 * w + 2)).toNatClampNeg
def okS (g wk : Nat) (nw : Nat → Int32) : Prop := ∀ w, w < wk → ∃ pos, nw (3 * w + 2) = nI pos ∧ posOk g pos
def pmTo (g : Nat) (f : Nat → Int32 → Int32) (pa nw : Nat → Int32) : Nat → (Nat → Int32)
  | 0 => nw
  | w + 1 => upd3 (pmTo g f pa nw w) w (stP g f (pmTo g f pa nw w 1) (pa w) (pmTo g f pa nw w 0) (posF (pmTo g f pa nw w) w) (pmTo g f pa nw w (3 * w + 3)) (pmTo g f pa nw w (3 * w + 4)))
def pm (g : Nat) (f : Nat → Int32 → Int32) (pa : Nat → Int32) (wk : Nat) (nw : Nat → Int32) : Nat → Int32 := upd (pmTo g f pa nw wk) 0 (pmTo g f pa nw wk 0 + 1)
theorem posOk_lt {g pos : Nat} (hg : g ≤ 8) (h : posOk g pos) : pos < 1000 := by
  rcases h with h | h <;> omega
theorem posF_of {nw : Nat → Int32} {w pos : Nat} (h : nw (3 * w + 2) = nI pos) (hb : pos < 1000) : posF nw w = pos := by
  unfold posF; rw [h, nI_clamp (by omega)]
theorem pm_step {g : Nat} {f : Nat → Int32 → Int32} {pa nw cur : Nat → Int32} {i pos pos2 : Nat} {y2 w2 : Int32} (hcur : cur = pmTo g f pa nw i) (hpos : cur (3 * i + 2) = nI pos) (hb : pos < 1000) (hs : (pos2, y2, w2) = stP g f (cur 1) (pa i) (cur 0) pos (cur (3 * i + 3)) (cur (3 * i + 4))) :
    upd (upd (upd cur (3 * i + 2) (nI pos2)) (3 * i + 3) y2) (3 * i + 4) w2 = pmTo g f pa nw (i + 1) := by
  rw [pmTo, ← hcur, posF_of hpos hb, ← hs]; rfl
theorem upd_s {f : Nat → Int32} {k : Nat} {x : Int32} : upd f k x k = x := pk_us
theorem upd_n {f : Nat → Int32} {k j : Nat} {x : Int32} (h : j ≠ k) : upd f k x j = f j := pk_un h
theorem ok_step {g wk : Nat} {f : Nat → Int32 → Int32} {cur : Nat → Int32} {i pos pos2 : Nat} {y2 w2 rp v t y w : Int32} (hg : g ≤ 8) (hok : okS g wk cur) (hp : posOk g pos) (hs : (pos2, y2, w2) = stP g f rp v t pos y w) :
    okS g wk (upd (upd (upd cur (3 * i + 2) (nI pos2)) (3 * i + 3) y2) (3 * i + 4) w2) := by
  intro j hj
  by_cases e : j = i
  · subst e
    refine ⟨pos2, ?_, ?_⟩
    · rw [upd_n (by omega), upd_n (by omega), upd_s]
    · have := stP_ok (f := f) (rp := rp) (v := v) (t := t) (y := y) (w := w) hg hp
      rw [← hs] at this
      exact this
  · obtain ⟨pj, h1, h2⟩ := hok j hj
    exact ⟨pj, by rw [upd_n (by omega), upd_n (by omega), upd_n (by omega)]; exact h1, h2⟩
theorem cpy_0 {α : Type} {f g : Nat → α} {a b : Nat} : va_cpy f g a b 0 = g := by
  funext k
  unfold va_cpy
  rw [if_neg (by omega)]
theorem cpy_step {fa fb : Nat → Int32} {a b i : Nat} : upd (va_cpy fa fb a b i) (b + i) (fa (a + i)) = va_cpy fa fb a b (i + 1) := by
  funext k
  unfold upd va_cpy
  by_cases h : k = b + i
  · subst h
    rw [if_pos rfl, if_pos (by omega), show b + i - b = i from by omega]
  · rw [if_neg h]
    by_cases h2 : b ≤ k ∧ k < b + i
    · rw [if_pos h2, if_pos (by omega)]
    · rw [if_neg h2, if_neg (by omega)]
def shf (ps : Nat → Int32) (n : Nat) : Nat → Int32 := fun j => if j < n then ps (j + 14) else ps j
theorem shf_0 {ps : Nat → Int32} : shf ps 0 = ps := by
  funext k; unfold shf; rw [if_neg (by omega)]
theorem shf_at {ps : Nat → Int32} {i : Nat} : shf ps i (i + 14) = ps (i + 14) := by
  unfold shf; rw [if_neg (by omega)]
theorem shf_step {ps : Nat → Int32} {i : Nat} : upd (shf ps i) i (ps (i + 14)) = shf ps (i + 1) := by
  funext k
  unfold upd shf
  by_cases h : k = i
  · subst h; rw [if_pos rfl, if_pos (by omega)]
  · rw [if_neg h]
    by_cases h2 : k < i
    · rw [if_pos h2, if_pos (by omega)]
    · rw [if_neg h2, if_neg (by omega)]
/-- what can be undone, one more: rows of 14 -/
def pushF (n : Nat) (nw ps : Nat → Int32) : Nat → Int32 := if n = 30 then va_cpy nw (shf ps 406) 0 406 14 else va_cpy nw ps 0 (14 * n) 14
def rnd (s : Int32) : Int32 := ((s.toInt64 * 1103515245 + 12345) &&& 2147483647).toInt32
def drw (s : Int32) : Int32 := rnd s / 65536 - rnd s / 65536 / 4 * 4
/-- what bars n minutes -/
def barP (n : Int32) (P : Nat) (t : Int32) : Int32 := if wIn n 1 60 then (if 0 < P then (if 90000 < t then -1000000004 else 0) else -1000000003) else -1000000002
theorem okS_0 {g wk : Nat} {cur : Nat → Int32} {x : Int32} (h : okS g wk cur) : okS g wk (upd cur 0 x) := by
  intro w hw
  obtain ⟨pos, h1, h2⟩ := h w hw
  exact ⟨pos, by rw [upd_n (by omega)]; exact h1, h2⟩
theorem okS_w {g wk : Nat} {cur : Nat → Int32} {x : Int32} {i : Nat} (h : okS g wk cur) : okS g wk (upd cur (3 * i + 4) x) := by
  intro w hw
  obtain ⟨pos, h1, h2⟩ := h w hw
  exact ⟨pos, by rw [upd_n (by omega)]; exact h1, h2⟩
def itr {α : Type} (F : α → α) : Nat → α → α
  | 0, x => x
  | i + 1, x => F (itr F i x)
def psh (n : Nat) : Nat := if n = 30 then 30 else n + 1
/-- a minute with what can be undone -/
def miS (g : Nat) (f : Nat → Int32 → Int32) (pa : Nat → Int32) (wk : Nat) (s : (Nat → Int32) × Nat × (Nat → Int32)) : (Nat → Int32) × Nat × (Nat → Int32) := (pm g f pa wk s.1, psh s.2.1, pushF s.2.1 s.1 s.2.2)
theorem mi_step {g wk : Nat} {f : Nat → Int32 → Int32} {pa nwc psc nw2 : Nat → Int32} {dnc dn2 i : Nat} {s0 : (Nat → Int32) × Nat × (Nat → Int32)} (h : (nwc, dnc, psc) = itr (miS g f pa wk) i s0) (h1 : nw2 = pm g f pa wk nwc) (h2 : (dnc < 30 ∧ dn2 = dnc + 1) ∨ (dnc = 30 ∧ dn2 = 30)) : (nw2, dn2, pushF dnc nwc psc) = itr (miS g f pa wk) (i + 1) s0 := by
  rw [itr, ← h, miS, h1]
  have : dn2 = psh dnc := by unfold psh; split <;> omega
  rw [this]
def minS (g : Nat) (f : Nat → Int32 → Int32) (pa : Nat → Int32) (wk P : Nat) (n : Int32) (s : (Nat → Int32) × Nat × (Nat → Int32)) : (Nat → Int32) × Nat × (Nat → Int32) := if barP n P (s.1 0) = 0 then itr (miS g f pa wk) n.toNatClampNeg s else s
theorem barP_ok {n : Int32} {P : Nat} {t : Int32} (h : barP n P t = 0) : (∃ nn : Nat, 1 ≤ nn ∧ nn ≤ 60 ∧ n = nI nn) ∧ 0 < P := by
  unfold barP at h
  by_cases h1 : wIn n 1 60
  · rw [if_pos h1] at h
    by_cases h2 : 0 < P
    · refine ⟨?_, h2⟩
      obtain ⟨a, b⟩ := h1
      have a1 := Int32.le_iff_toInt_le.mp a
      have b1 := Int32.le_iff_toInt_le.mp b
      have e1 : (1 : Int32).toInt = 1 := by decide
      have e2 : (60 : Int32).toInt = 60 := by decide
      rw [e1] at a1; rw [e2] at b1
      obtain ⟨j, hj, rfl⟩ := inB_ex (x := n) (n := 61) (by omega) ⟨by omega, by omega⟩
      rw [nI_toInt (by omega)] at a1 b1
      exact ⟨j, by omega, by omega, rfl⟩
    · rw [if_neg h2] at h; exact absurd h (by decide)
  · rw [if_neg h1] at h; exact absurd h (by decide)
theorem push_some {dn b : Nat} {nw ps : Nat → Int32} (hd : dn < 30) (hb : b = 14 * dn) : va_cpy nw ps 0 b 14 = pushF dn nw ps := by
  rw [pushF, if_neg (by omega), hb]
theorem push_full {dn b i : Nat} {nw ps cur : Nat → Int32} (hd : dn = 30) (hc : cur = shf ps i) (hi : i = 406) (hb : b = 406) : va_cpy nw cur 0 b 14 = pushF dn nw ps := by
  rw [pushF, if_pos hd, hb, hc, hi]
theorem wIn_ex {x : Int32} (a b : Nat) (ha : a < 2147483647) (hb : b < 2147483647) (h : wIn x (nI a) (nI b)) : ∃ n : Nat, a ≤ n ∧ n ≤ b ∧ x = nI n := by
  have a1 := Int32.le_iff_toInt_le.mp h.1
  have b1 := Int32.le_iff_toInt_le.mp h.2
  rw [nI_toInt (by omega)] at a1 b1
  obtain ⟨j, hj, rfl⟩ := inB_ex (x := x) (n := b + 1) (by omega) ⟨by omega, by omega⟩
  rw [nI_toInt (by omega)] at a1 b1
  exact ⟨j, by omega, by omega, rfl⟩
/-- ways by draws, ahead of a minute -/
def dwTo (nw : Nat → Int32) (sd : Int32) : Nat → (Nat → Int32) × Int32
  | 0 => (nw, sd)
  | w + 1 => if posF (dwTo nw sd w).1 w < 100 then (upd (dwTo nw sd w).1 (3 * w + 4) (if drw (dwTo nw sd w).2 = 0 then 2 else if drw (dwTo nw sd w).2 = 1 then 0 else if drw (dwTo nw sd w).2 = 2 then 1 else (dwTo nw sd w).1 (3 * w + 4)), rnd (dwTo nw sd w).2) else dwTo nw sd w
abbrev SG : Type := (Nat → Int32) × Nat × (Nat → Int32) × Int32
def drS (g : Nat) (f : Nat → Int32 → Int32) (pa : Nat → Int32) (wk : Nat) (s : SG) : SG := (pm g f pa wk (dwTo s.1 s.2.2.2 wk).1, psh s.2.1, pushF s.2.1 s.1 s.2.2.1, (dwTo s.1 s.2.2.2 wk).2)
theorem dw_in {nw cur : Nat → Int32} {sd sdc : Int32} {i pos : Nat} {x : Int32} (h : (cur, sdc) = dwTo nw sd i) (hpos : cur (3 * i + 2) = nI pos) (hb : pos < 1000) (hp : pos < 100) (hx : x = if drw sdc = 0 then 2 else if drw sdc = 1 then 0 else if drw sdc = 2 then 1 else cur (3 * i + 4)) : (upd cur (3 * i + 4) x, rnd sdc) = dwTo nw sd (i + 1) := by
  rw [dwTo, ← h]
  dsimp only
  rw [posF_of hpos hb, if_pos hp, hx]
theorem dw_out {nw cur : Nat → Int32} {sd sdc : Int32} {i pos : Nat} (h : (cur, sdc) = dwTo nw sd i) (hpos : cur (3 * i + 2) = nI pos) (hb : pos < 1000) (hp : ¬ pos < 100) : (cur, sdc) = dwTo nw sd (i + 1) := by
  rw [dwTo, ← h]
  dsimp only
  rw [posF_of hpos hb, if_neg hp]
theorem dr_step {g wk : Nat} {f : Nat → Int32 → Int32} {pa nwc psc nw2 nwd : Nat → Int32} {dnc dn2 i : Nat} {sdc sd2 : Int32} {s0 : SG} (h : (nwc, dnc, psc, sdc) = itr (drS g f pa wk) i s0) (h0 : (nwd, sd2) = dwTo nwc sdc wk) (h1 : nw2 = pm g f pa wk nwd) (h2 : (dnc < 30 ∧ dn2 = dnc + 1) ∨ (dnc = 30 ∧ dn2 = 30)) : (nw2, dn2, pushF dnc nwc psc, sd2) = itr (drS g f pa wk) (i + 1) s0 := by
  rw [itr, ← h, drS]
  dsimp only
  rw [← h0, h1]
  have : dn2 = psh dnc := by unfold psh; split <;> omega
  rw [this]
def driS (g : Nat) (f : Nat → Int32 → Int32) (pa : Nat → Int32) (wk P : Nat) (n : Int32) (s : SG) : SG := if barP n P (s.1 0) = 0 then itr (drS g f pa wk) n.toNatClampNeg s else s
/-- undone -/
def undR (n : Int32) (dn : Nat) : Int32 := if wIn n 1 30 then (if dn < n.toNatClampNeg then -1000000003 else 0) else -1000000002
def unS (n : Int32) (s : (Nat → Int32) × Nat × (Nat → Int32)) : (Nat → Int32) × Nat × (Nat → Int32) := if undR n s.2.1 = 0 then (va_cpy s.2.2 s.1 (14 * (s.2.1 - n.toNatClampNeg)) 0 14, s.2.1 - n.toNatClampNeg, s.2.2) else s
def okP (g wk n : Nat) (ps : Nat → Int32) : Prop := ∀ i, i < n → okS g wk (fun j => ps (14 * i + j))
theorem okS_cpy {g wk n i : Nat} {ps nw : Nat → Int32} (hwk : wk ≤ 4) (h : okP g wk n ps) (hi : i < n) : okS g wk (va_cpy ps nw (14 * i) 0 14) := by
  intro w hw
  obtain ⟨pos, h1, h2⟩ := h i hi w hw
  refine ⟨pos, ?_, h2⟩
  unfold va_cpy
  rw [if_pos (by omega)]
  exact h1
/-- a gap's answers -/
def spGap (g P wd : Nat) (gr t rp : Int32) (gp : Nat → Int32) (k what : Int32) : Int32 := if inB k g then (if what = 0 then gp k.toNatClampNeg else if what = 1 then yG P (gp k.toNatClampNeg) gr t else if what = 2 then nH wd (yG P (gp k.toNatClampNeg) gr t) else if what = 3 then rp >>> (k &&& 31) &&& 1 else -1000000002) else -1000000001
def spWalker (wk : Nat) (f : Nat → Int32) (pa nw : Nat → Int32) (w what : Int32) : Int32 := if inB w wk then (if what = 0 then (if posF nw w.toNatClampNeg < 100 then nI (posF nw w.toNatClampNeg) else -1) else if what = 1 then (if posF nw w.toNatClampNeg < 100 then -1 else nI (posF nw w.toNatClampNeg - 100)) else if what = 2 then nw (3 * w.toNatClampNeg + 3) else if what = 3 then nw (3 * w.toNatClampNeg + 4) else if what = 4 then pa w.toNatClampNeg else if what = 5 then whP f (posF nw w.toNatClampNeg) (nw (3 * w.toNatClampNeg + 3)) (nw (3 * w.toNatClampNeg + 4)) else -1000000002) else -1000000001
theorem sw_a {x : Int32} {j : Nat} (hj : j < 2147483648) (h : x < 0) : ¬ x = nI j := by
  intro e; subst e; exact nI_pos hj h
theorem sw_b {x : Int32} {j n : Nat} (hn : n < 2147483648) (hj : j < n) (h : nI n ≤ x) : ¬ x = nI j := by
  intro e; subst e
  have := n_le_of hn (by omega) h
  omega
def spTold (P wd hs wk ln fn en dn : Nat) (gr t rp what : Int32) : Int32 := if what = 0 then nI P else if what = 1 then gr else if what = 2 then nI wd else if what = 3 then nI hs else if what = 4 then nI wk else if what = 5 then nI ln else if what = 6 then t else if what = 7 then rp else if what = 8 then nI fn else if what = 9 then nI en else if what = 10 then nI dn else -1000000002
theorem undR_ok {n : Int32} {dn : Nat} (hd : dn ≤ 30) (h : undR n dn = 0) : ∃ nn : Nat, 1 ≤ nn ∧ nn ≤ dn ∧ n = nI nn := by
  unfold undR at h
  by_cases h1 : wIn n 1 30
  · rw [if_pos h1] at h
    obtain ⟨nn, a, b, rfl⟩ := wIn_ex 1 30 (by decide) (by decide) h1
    rw [nI_clamp (by omega)] at h
    by_cases h2 : dn < nn
    · rw [if_pos h2] at h; exact absurd h (by decide)
    · exact ⟨nn, a, by omega, rfl⟩
  · rw [if_neg h1] at h; exact absurd h (by decide)
