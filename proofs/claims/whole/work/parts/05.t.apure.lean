section RP
variable {tx : Nat → Int32} {n i g i1 a1 a2 d1 d2 : Nat} {dr v : Int32}
theorem rdRope_w (hi : i1 = sk tx n (i + 1)) (h0 : (a1, a2, v) = nmS tx n 0 (nI g - 1) i1 0) (h : ¬ a2 = 0) : (a1, a2, dr ||| 0) = rdRope tx n i g dr := by
  rw [rdRope, ← hi, ← h0]; dsimp only; rw [if_neg h]
theorem rdRope_4 (hi : i1 = sk tx n (i + 1)) (h0 : (a1, a2, v) = nmS tx n 0 (nI g - 1) i1 0) (h : a2 = 0) (hh : hasK dr v) : (i1, 4, dr ||| 0) = rdRope tx n i g dr := by
  rw [rdRope, ← hi, ← h0]; dsimp only; rw [if_pos h, if_pos hh]
theorem rdRope_0 (hi : i1 = sk tx n (i + 1)) (h0 : (a1, a2, v) = nmS tx n 0 (nI g - 1) i1 0) (h : a2 = 0) (hh : ¬ hasK dr v) (h2 : (d1, d2) = wdS tx n 59 a1 0) : (d1, d2, dr ||| (1 : Int32) <<< (v &&& 31)) = rdRope tx n i g dr := by
  rw [rdRope, ← hi, ← h0]; dsimp only; rw [if_pos h, if_neg hh, ← h2]
theorem wd_w {wr : Nat} {c : Int32} (h : ¬ wr = 0) : wdS tx n c i wr = (i, wr) := if_neg h
end RP
/-- the draft: told, law, gaps, homes, paces, ropes -/
abbrev DR : Type := Int32 × (Nat → Int32) × (Nat → Int32) × (Nat → Int32) × (Nat → Int32) × Int32
abbrev drG (D : DR) : Nat := (D.2.1 3).toNatClampNeg
abbrev drW (D : DR) : Nat := (D.2.1 4).toNatClampNeg
/-- one clause -/
def clS (tx : Nat → Int32) (n i : Nat) (D : DR) : Nat × Nat × DR :=
  if lk tx n i = 115 then ((rdLaw tx n i D.1 D.2.1).1, (rdLaw tx n i D.1 D.2.1).2.1, (rdLaw tx n i D.1 D.2.1).2.2.1, (rdLaw tx n i D.1 D.2.1).2.2.2, D.2.2.1, D.2.2.2.1, D.2.2.2.2.1, D.2.2.2.2.2)
  else if D.1 = 0 then (i, 1, D)
  else if lk tx n i = 104 then ((rdGaps tx n i (drG D) D.2.2.1).1, (rdGaps tx n i (drG D) D.2.2.1).2.1, D.1, upd D.2.1 3 (nI (rdGaps tx n i (drG D) D.2.2.1).2.2.1), (rdGaps tx n i (drG D) D.2.2.1).2.2.2, D.2.2.2.1, D.2.2.2.2.1, D.2.2.2.2.2)
  else if lk tx n i = 119 then ((rdWalk tx n i (drG D) (drW D) D.2.2.2.1 D.2.2.2.2.1).1, (rdWalk tx n i (drG D) (drW D) D.2.2.2.1 D.2.2.2.2.1).2.1, D.1, upd D.2.1 4 (nI (rdWalk tx n i (drG D) (drW D) D.2.2.2.1 D.2.2.2.2.1).2.2.1), D.2.2.1, (rdWalk tx n i (drG D) (drW D) D.2.2.2.1 D.2.2.2.2.1).2.2.2.1, (rdWalk tx n i (drG D) (drW D) D.2.2.2.1 D.2.2.2.2.1).2.2.2.2, D.2.2.2.2.2)
  else if lk tx n i = 114 then ((rdRope tx n i (drG D) D.2.2.2.2.2).1, (rdRope tx n i (drG D) D.2.2.2.2.2).2.1, D.1, D.2.1, D.2.2.1, D.2.2.2.1, D.2.2.2.2.1, (rdRope tx n i (drG D) D.2.2.2.2.2).2.2)
  else (i, 1, D)
def rdF (tx : Nat → Int32) (n : Nat) : Nat → Nat → Nat → DR → Nat × Nat × DR
  | 0, i, wr, D => (i, wr, D)
  | k + 1, i, wr, D => if wr = 0 ∧ ¬ lk tx n i = -1 then rdF tx n k (skS tx n (clS tx n i D).2.1 (clS tx n i D).1) (clS tx n i D).2.1 (clS tx n i D).2.2 else (i, wr, D)
section CL
variable {tx : Nat → Int32} {n i k a w i2 g wk : Nat} {tl dr tl2 dr2 : Int32} {dl dg dh dp dl2 dg2 dh2 dp2 : Nat → Int32} {T0 : Nat × Nat × DR}
theorem cl_law (h : lk tx n i = 115) (h1 : (a, w, tl2, dl2) = rdLaw tx n i tl dl) : (a, w, tl2, dl2, dg, dh, dp, dr) = clS tx n i (tl, dl, dg, dh, dp, dr) := by
  rw [clS, if_pos h]; dsimp only; rw [← h1]
theorem cl_no (h : ¬ lk tx n i = 115) (h1 : tl = 0) : (i, 1, tl, dl, dg, dh, dp, dr) = clS tx n i (tl, dl, dg, dh, dp, dr) := by
  rw [clS, if_neg h]; dsimp only; rw [if_pos h1]
theorem cl_gaps (h : ¬ lk tx n i = 115) (h1 : ¬ tl = 0) (h2 : lk tx n i = 104) (hg : drG (tl, dl, dg, dh, dp, dr) = g) (h3 : (a, w, k, dg2) = rdGaps tx n i g dg) : (a, w, tl, upd dl 3 (nI k), dg2, dh, dp, dr) = clS tx n i (tl, dl, dg, dh, dp, dr) := by
  rw [clS, if_neg h]; dsimp only; rw [if_neg h1, if_pos h2, hg, ← h3]
theorem cl_walk (h : ¬ lk tx n i = 115) (h1 : ¬ tl = 0) (h2 : ¬ lk tx n i = 104) (h4 : lk tx n i = 119) (hg : drG (tl, dl, dg, dh, dp, dr) = g) (hw : drW (tl, dl, dg, dh, dp, dr) = wk) (h3 : (a, w, k, dh2, dp2) = rdWalk tx n i g wk dh dp) : (a, w, tl, upd dl 4 (nI k), dg, dh2, dp2, dr) = clS tx n i (tl, dl, dg, dh, dp, dr) := by
  rw [clS, if_neg h]; dsimp only; rw [if_neg h1, if_neg h2, if_pos h4, hg, hw, ← h3]
theorem cl_rope (h : ¬ lk tx n i = 115) (h1 : ¬ tl = 0) (h2 : ¬ lk tx n i = 104) (h4 : ¬ lk tx n i = 119) (h5 : lk tx n i = 114) (hg : drG (tl, dl, dg, dh, dp, dr) = g) (h3 : (a, w, dr2) = rdRope tx n i g dr) : (a, w, tl, dl, dg, dh, dp, dr2) = clS tx n i (tl, dl, dg, dh, dp, dr) := by
  rw [clS, if_neg h]; dsimp only; rw [if_neg h1, if_neg h2, if_neg h4, if_pos h5, hg, ← h3]
theorem cl_bad (h : ¬ lk tx n i = 115) (h1 : ¬ tl = 0) (h2 : ¬ lk tx n i = 104) (h4 : ¬ lk tx n i = 119) (h5 : ¬ lk tx n i = 114) : (i, 1, tl, dl, dg, dh, dp, dr) = clS tx n i (tl, dl, dg, dh, dp, dr) := by
  rw [clS, if_neg h]; dsimp only; rw [if_neg h1, if_neg h2, if_neg h4, if_neg h5]
theorem rd_stop {wr : Nat} {D : DR} (h : rdF tx n k i wr D = T0) (h1 : ¬ (wr = 0 ∧ ¬ lk tx n i = -1)) : T0 = (i, wr, D) := by
  rw [← h]
  cases k with
  | zero => rfl
  | succ k => exact if_neg h1
theorem rd_go {wr : Nat} {D D2 : DR} (h : rdF tx n (k + 1) i wr D = T0) (h0 : wr = 0) (h1 : ¬ lk tx n i = -1) (hc : (a, w, D2) = clS tx n i D) (hs : i2 = skS tx n w a) : rdF tx n k i2 w D2 = T0 := by
  rw [← h, rdF, if_pos ⟨h0, h1⟩, ← hc, hs]
theorem rd_w {wr : Nat} {D : DR} (h : ¬ wr = 0) (j : Nat) : rdF tx n j i wr D = (i, wr, D) := by
  cases j with
  | zero => rfl
  | succ j => exact if_neg (fun z => h z.1)
end CL
