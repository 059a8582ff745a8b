/-! What the street is, in numbers: shared by the class and the reference -/
def mn (a b : Int32) : Int32 := if b < a then b else a
/-- YARDS: day D, growth gr, at t, of a night of 2 P -/
def yG (P : Nat) (D gr t : Int32) : Int32 := D + gr * mn (t - t / nI (2 * P) * nI (2 * P)) (nI (2 * P) - (t - t / nI (2 * P) * nI (2 * P))) / 10
/-- NIGHT HOUSES of y yards -/
def nH (wd : Nat) (y : Int32) : Int32 := if 0 < y / nI wd - 1 then y / nI wd - 1 else 0
def sumI (f : Nat → Int32) : Nat → Int32
  | 0 => 0
  | n + 1 => sumI f n + f n
/-- a rope lies along k -/
abbrev hasR (rp : Int32) (k : Nat) : Prop := (rp >>> (nI k &&& 31)) &&& 1 = 1
theorem mn_less (a b : Int32) : (if a < b then a else b) = mn a b := by
  unfold mn
  by_cases h1 : a < b <;> by_cases h2 : b < a
  · rw [Int32.lt_iff_toInt_lt] at h1 h2; omega
  · rw [if_pos h1, if_neg h2]
  · rw [if_neg h1, if_pos h2]
  · rw [if_neg h1, if_neg h2]
    rw [Int32.lt_iff_toInt_lt] at h1 h2
    exact Int32.toInt_inj.mp (by omega)
theorem nz_nI {n : Nat} (h0 : 0 < n) (h : n < 2147483648) : ¬ nI n = 0 := nI_ne0 h0 h
/-- an int that is a number below n -/
abbrev inB (x : Int32) (n : Nat) : Prop := 0 ≤ x.toInt ∧ x.toInt < (n : Int)
theorem inB_t {x : Int32} {n : Nat} (hn : n < 2147483648) (h0 : ¬ x < 0) (h : x < nI n) : inB x n := by
  rw [Int32.lt_iff_toInt_lt, Int32.toInt_zero] at h0
  rw [Int32.lt_iff_toInt_lt, nI_toInt hn] at h
  exact ⟨by omega, by omega⟩
theorem inB_f0 {x : Int32} {n : Nat} (h0 : x < 0) : ¬ inB x n := by
  rw [Int32.lt_iff_toInt_lt, Int32.toInt_zero] at h0
  intro h; have := h.1; omega
theorem inB_f1 {x : Int32} {n : Nat} (hn : n < 2147483648) (h : ¬ x < nI n) : ¬ inB x n := by
  rw [Int32.lt_iff_toInt_lt, nI_toInt hn] at h
  intro q; have := q.2; omega
theorem inB_ex {x : Int32} {n : Nat} (hn : n < 2147483648) (h : inB x n) : ∃ j : Nat, j < n ∧ x = nI j := vp_in_of (vp_in_iff.mpr h) hn
theorem inB_nI {j n : Nat} (hj : j < 2147483648) : inB (nI j) n ↔ j < n := by
  unfold inB; rw [nI_toInt hj]; omega
/-- low ≤ x ≤ high -/
abbrev wIn (x a b : Int32) : Prop := a ≤ x ∧ x ≤ b
theorem not_ge {a b : Int32} (h : ¬ a ≤ b) : b < a := Int32.not_le.mp h
theorem not_lt' {a b : Int32} (h : ¬ a < b) : b ≤ a := Int32.not_lt.mp h
def rT (o : Option Nat) : Int32 := match o with
  | none => -1
  | some n => nI n
/-- what a walker does in a minute along k -/
def pce (rp v : Int32) (k : Nat) : Int32 := if (rp >>> (nI k &&& 31)) &&& 1 = 1 then 2 * v else v
/-- MINUTES from house h, y yards on, to house b, the m-th minute from t on; at most n -/
def wT (f : Nat → Int32 → Int32) (rp v t : Int32) (b : Nat) : Nat → Nat → Int32 → Nat → Option Nat
  | 0, h, _, m => if h = b then some m else none
  | n + 1, h, y, m => if h = b then some m else
    if h < b then (if f h (t + nI m) ≤ y + pce rp v h then wT f rp v t b n (h + 1) 0 (m + 1) else wT f rp v t b n h (y + pce rp v h) (m + 1))
    else (if f (h - 1) (t + nI m) ≤ y + pce rp v (h - 1) then wT f rp v t b n (h - 1) 0 (m + 1) else wT f rp v t b n h (y + pce rp v (h - 1)) (m + 1))
/-- the set of gaps from a to b -/
def gB (lo hi : Nat) : Nat → Int32
  | 0 => 0
  | k + 1 => if lo ≤ k ∧ k < hi then gB lo hi k ||| ((1 : Int32) <<< (nI k &&& 31)) else gB lo hi k
