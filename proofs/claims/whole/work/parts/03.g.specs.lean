/-! What the calls answer -/
def spTakes (hs : Nat) (F : Nat → Int32 → Int32) (rp a b v t : Int32) : Int32 := if two a b hs then (if wIn v 1 40 ∧ wIn t 0 119 then rT (wT F rp v t b.toNatClampNeg 300 a.toNatClampNeg 0 0) else -1000000002) else -1000000001
/-- the first, the last, how many of those below i for which q holds -/
def spn (q : Nat → Prop) [DecidablePred q] : Nat → Int32 × Int32 × Nat
  | 0 => (-1, -1, 0)
  | i + 1 => if q i then ((if (spn q i).2.2 = 0 then nI i else (spn q i).1), nI i, (spn q i).2.2 + 1) else spn q i
theorem spn_in {q : Nat → Prop} [DecidablePred q] {i n : Nat} {a b : Int32} (h : (a, b, n) = spn q i) (hq : q i) : ((if n = 0 then nI i else a), nI i, n + 1) = spn q (i + 1) := by
  rw [spn, if_pos hq, ← h]
theorem spn_out {q : Nat → Prop} [DecidablePred q] {i n : Nat} {a b : Int32} (h : (a, b, n) = spn q i) (hq : ¬ q i) : (a, b, n) = spn q (i + 1) := by
  rw [spn, if_neg hq, ← h]
theorem spn_le {q : Nat → Prop} [DecidablePred q] (i : Nat) : (spn q i).2.2 ≤ i := by
  induction i with
  | zero => exact Nat.le_refl 0
  | succ i ih =>
    rw [spn]
    split
    · exact Nat.succ_le_succ ih
    · omega
def pick3 (what : Int32) (x : Int32 × Int32 × Nat) : Int32 := if what = 0 then x.1 else if what = 1 then x.2.1 else nI x.2.2
abbrev soQ (F : Nat → Int32 → Int32) (rp v : Int32) (a b u : Nat) (t : Nat) : Prop := ¬ rT (wT F rp v (nI t) b 300 a 0 0) = -1 ∧ ¬ nI u < nI t + rT (wT F rp v (nI t) b 300 a 0 0)
def spSetOut (hs : Nat) (F : Nat → Int32 → Int32) (rp a b v u what : Int32) : Int32 := if two a b hs then (if wIn v 1 40 ∧ wIn u 0 119 ∧ wIn what 0 2 then pick3 what (spn (soQ F rp v a.toNatClampNeg b.toNatClampNeg u.toNatClampNeg) (u.toNatClampNeg + 1)) else -1000000002) else -1000000001
def xW (nw : Nat → Int32) (w : Nat) : Nat × Int32 × Int32 := (posF nw w, nw (3 * w + 3), nw (3 * w + 4))
abbrev coQ (g : Nat) (F : Nat → Int32 → Int32) (pa nw : Nat → Int32) (w h n : Nat) : Prop := (onW g F (nw 1) (pa w) (nw 0) (xW nw w) n).1 = h
def spComes (g wk hs : Nat) (F : Nat → Int32 → Int32) (pa nw : Nat → Int32) (w h : Int32) : Int32 := if inB w wk ∧ inB h hs then fstN (coQ g F pa nw w.toNatClampNeg h.toNatClampNeg) 301 0 else -1000000001
def spRent (g P wd : Nat) (gp : Nat → Int32) (gr t n : Int32) : Int32 := if wIn n 0 120 then (if 0 < P then sumI (fun i => sumI (fun k => nH wd (yG P (gp k) gr (t + nI i))) g) n.toNatClampNeg else -1000000003) else -1000000002
def lampTo (q : Int32) : Nat → Int64
  | 0 => 1000000000
  | n + 1 => lampTo q n * (1000 - q).toInt64 / 1000
def spLamp (g : Nat) (n q : Int32) : Int32 := if wIn n 0 60 ∧ wIn q 0 1000 then (lampTo q (n.toNatClampNeg * g)).toInt32 else -1000000002
def jdQ (nw bk : Nat → Int32) (i : Nat) : Prop := ¬ nw (3 * (bk (2 * i)).toNatClampNeg + 2) = bk (2 * i + 1)
abbrev whN (F : Nat → Int32 → Int32) (nw : Nat → Int32) (w : Nat) : Int32 := whP (fun k => F k (nw 0)) (posF nw w) (nw (3 * w + 3)) (nw (3 * w + 4))
def spApart (wk : Nat) (F : Nat → Int32 → Int32) (nw : Nat → Int32) (w z : Int32) : Int32 := if two w z wk then (if whN F nw w.toNatClampNeg - whN F nw z.toNatClampNeg < 0 then -(whN F nw w.toNatClampNeg - whN F nw z.toNatClampNeg) else whN F nw w.toNatClampNeg - whN F nw z.toNatClampNeg) else -1000000001
/-- found, the book: one more -/
def addR (n most : Nat) (f : Nat → Int32) (a b : Int32) : Nat → Int32 := if n < most then upd (upd f (2 * n) a) (2 * n + 1) b else f
def addN (n most : Nat) : Nat := if n < most then n + 1 else n
/-- go: how it is refused -/
def goR (wk : Nat) (nw : Nat → Int32) (w way : Int32) : Int32 := if inB w wk then (if wIn way 0 2 then (if 100 ≤ posF nw w.toNatClampNeg ∧ way = 1 then -1000000003 else 0) else -1000000002) else -1000000001
/-- go: the row behind it -/
def goN (F : Nat → Int32 → Int32) (nw : Nat → Int32) (w : Nat) (way : Int32) : Nat → Int32 := upd (if 100 ≤ posF nw w ∧ ¬ nw (3 * w + 4) = way then upd nw (3 * w + 3) (if F (posF nw w - 100) (nw 0) - nw (3 * w + 3) < 0 then 0 else F (posF nw w - 100) (nw 0) - nw (3 * w + 3)) else nw) (3 * w + 4) way
def ropN (nw : Nat → Int32) (k : Int32) (is : Int32) : Nat → Int32 := upd nw 1 (if is = 0 then nw 1 &&& ((1 : Int32) <<< (k &&& 31) ^^^ (-1)) else nw 1 ||| (1 : Int32) <<< (k &&& 31))
theorem undR_f1 {n : Int32} {dn : Nat} (h : ¬ wIn n 1 30) : undR n dn = -1000000002 := if_neg h
theorem undR_f2 {nn dn : Nat} (h : wIn (nI nn) 1 30) (hb : nn < 1000) (h2 : dn < nn) : undR (nI nn) dn = -1000000003 := by
  rw [undR, if_pos h, nI_clamp (by omega), if_pos h2]
theorem undR_t {nn dn : Nat} (h : wIn (nI nn) 1 30) (hb : nn < 1000) (h2 : nn ≤ dn) : undR (nI nn) dn = 0 := by
  rw [undR, if_pos h, nI_clamp (by omega), if_neg (by omega)]
theorem unS_t {nn dn : Nat} {nw ps : Nat → Int32} (h : undR (nI nn) dn = 0) (hb : nn < 1000) : unS (nI nn) (nw, dn, ps) = (va_cpy ps nw (14 * (dn - nn)) 0 14, dn - nn, ps) := by
  rw [unS]; dsimp only; rw [if_pos h, nI_clamp (by omega)]
theorem unS_f {n : Int32} {dn : Nat} {nw ps : Nat → Int32} (h : ¬ undR n dn = 0) : unS n (nw, dn, ps) = (nw, dn, ps) := by
  rw [unS]; dsimp only; rw [if_neg h]
/-- an image is kept, gone back to -/
def kpR (i : Int32) : Int32 := if wIn i 0 1 then 1 else -1000000001
def bkR (kp : Nat → Int32) (i : Int32) : Int32 := if wIn i 0 1 then (if kp i.toNatClampNeg = 0 then -1000000003 else 1) else -1000000001
theorem goR_0 {wk wn pos : Nat} {nw : Nat → Int32} {way : Int32} (h1 : inB (nI wn) wk) (hb : wn < 1000) (h2 : wIn way 0 2) (hp : posF nw wn = pos) (h3 : ¬ (100 ≤ pos ∧ way = 1)) : goR wk nw (nI wn) way = 0 := by
  rw [goR, if_pos h1, if_pos h2, nI_clamp (by omega), hp, if_neg h3]
theorem goN_a {F : Nat → Int32 → Int32} {nw : Nat → Int32} {w pos : Nat} {way : Int32} (hp : posF nw w = pos) (h : ¬ (100 ≤ pos ∧ ¬ nw (3 * w + 4) = way)) : upd nw (3 * w + 4) way = goN F nw w way := by
  rw [goN, hp, if_neg h]
theorem goN_b {F : Nat → Int32 → Int32} {nw : Nat → Int32} {w pos : Nat} {way x : Int32} (hp : posF nw w = pos) (h : 100 ≤ pos ∧ ¬ nw (3 * w + 4) = way) (hx : x = if F (pos - 100) (nw 0) - nw (3 * w + 3) < 0 then 0 else F (pos - 100) (nw 0) - nw (3 * w + 3)) : upd (upd nw (3 * w + 3) x) (3 * w + 4) way = goN F nw w way := by
  rw [goN, hp, if_pos h, hx]
theorem all_0 {Q : Nat → Prop} [DecidablePred Q] {i : Nat} {x : Int32} (h : x = bI (∀ j, j < i → Q j)) (h0 : x = 0) : (0 : Int32) = bI (∀ j, j < i + 1 → Q j) := by
  rw [h] at h0
  have := bI_eq0.mp h0
  rw [bI_f (fun z => this (fun j hj => z j (by omega)))]
theorem all_t {Q : Nat → Prop} [DecidablePred Q] {i : Nat} {x : Int32} (h : x = bI (∀ j, j < i → Q j)) (h0 : ¬ x = 0) (hq : Q i) : (1 : Int32) = bI (∀ j, j < i + 1 → Q j) := by
  have h1 : ∀ j, j < i → Q j := Decidable.not_not.mp (fun z => h0 (by rw [h, bI_f z]))
  rw [bI_t (fun j hj => by
    by_cases e : j = i
    · rw [e]; exact hq
    · exact h1 j (by omega))]
theorem all_f {Q : Nat → Prop} [DecidablePred Q] {i : Nat} (hq : ¬ Q i) : (0 : Int32) = bI (∀ j, j < i + 1 → Q j) := by
  rw [bI_f (fun z => hq (z i (by omega)))]
abbrev fsQ (P wd fn : Nat) (gp fd : Nat → Int32) (gw t : Int32) : Prop := ∀ i, i < fn → nH wd (yG P (gp (fd (2 * i)).toNatClampNeg) gw t) = fd (2 * i + 1)
def pickF (what : Int32) (x : Int32 × Int32 × Nat) : Int32 := if what = 0 then nI x.2.2 else if what = 1 then x.1 else x.2.1
def spFits (P wd fn : Nat) (gp fd : Nat → Int32) (gr what : Int32) : Int32 := if wIn what 0 2 then pickF what (spn (fun t => fsQ P wd fn gp fd gr (nI t)) (2 * P)) else -1000000002
def exB (Q : Nat → Prop) [DecidablePred Q] : Nat → Bool
  | 0 => false
  | n + 1 => exB Q n || decide (Q n)
def grTo (P wd fn : Nat) (gp fd : Nat → Int32) : Nat → Int32
  | 0 => 0
  | g + 1 => grTo P wd fn gp fd g ||| (if exB (fun t => fsQ P wd fn gp fd (nI g) (nI t)) (2 * P) = true then (1 : Int32) <<< (nI g &&& 31) else 0)
theorem ex_0 {Q : Nat → Prop} [DecidablePred Q] : (0 : Int32) = bI (exB Q 0 = true) := by
  rw [bI_f]; exact Bool.false_ne_true
theorem ex_1 {Q : Nat → Prop} [DecidablePred Q] {i : Nat} {x : Int32} (h : x = bI (exB Q i = true)) (h0 : ¬ x = 0) : (1 : Int32) = bI (exB Q (i + 1) = true) := by
  have h1 : exB Q i = true := Decidable.not_not.mp (fun z => h0 (by rw [h, bI_f z]))
  rw [bI_t]; rw [exB, h1, Bool.true_or]
theorem ex_2 {Q : Nat → Prop} [DecidablePred Q] {i : Nat} (hq : Q i) : (1 : Int32) = bI (exB Q (i + 1) = true) := by
  rw [bI_t]; rw [exB, decide_eq_true hq, Bool.or_true]
theorem ex_3 {Q : Nat → Prop} [DecidablePred Q] {i : Nat} {x : Int32} (h : x = bI (exB Q i = true)) (h0 : x = 0) (hq : ¬ Q i) : (0 : Int32) = bI (exB Q (i + 1) = true) := by
  rw [h] at h0
  have h1 := bI_eq0.mp h0
  rw [bI_f]
  rw [exB, decide_eq_false hq, Bool.or_false]
  exact h1
def okFd (g fn : Nat) (fd : Nat → Int32) : Prop := ∀ i, i < fn → ∃ k, k < g ∧ fd (2 * i) = nI k
def okBk (wk en : Nat) (bk : Nat → Int32) : Prop := ∀ i, i < en → ∃ w h, w < wk ∧ bk (2 * i) = nI w ∧ h < 100 ∧ bk (2 * i + 1) = nI h
/-- the book's entry i is wrong -/
abbrev bkQ (nw bk : Nat → Int32) (i : Nat) : Prop := ¬ nw (3 * (bk (2 * i)).toNatClampNeg + 2) = bk (2 * i + 1)
def spMet (g fn : Nat) (k n : Int32) : Int32 := if inB k g then (if wIn n 0 999 then (if fn = 6 then -1000000004 else nI (fn + 1)) else -1000000002) else -1000000001
def spWrite (wk hs en : Nat) (w h : Int32) : Int32 := if inB w wk ∧ inB h hs then (if en = 20 then -1000000004 else nI (en + 1)) else -1000000001
