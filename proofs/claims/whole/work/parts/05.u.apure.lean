section GE
variable {tx : Nat → Int32} {n : Nat}
theorem scF_ge {fr : Nat} : ∀ (k i : Nat) (v : Int32), i ≤ (scF tx n fr k i v).1
  | 0, i, v => Nat.le_refl i
  | k + 1, i, v => by
    rw [scF]
    split
    · exact Nat.le_trans (Nat.le_succ i) (scF_ge k (i + 1) _)
    · exact Nat.le_refl i
theorem nm_ge (lo hi : Int32) (i wr : Nat) : i ≤ (nmS tx n lo hi i wr).1 := by
  unfold nmS
  split
  · have h1 : i ≤ sk tx n i := sk_ge _ _
    unfold nmR
    split
    · split
      · exact h1
      · exact Nat.le_trans h1 (scF_ge _ _ _)
    · exact h1
  · exact Nat.le_refl i
theorem wd_ge (c : Int32) (i wr : Nat) : i ≤ (wdS tx n c i wr).1 := by
  unfold wdS
  split
  · have h1 : i ≤ sk tx n i := sk_ge _ _
    split
    · exact Nat.le_trans h1 (Nat.le_succ _)
    · exact h1
  · exact Nat.le_refl i
theorem skS_ge (wr i : Nat) : i ≤ skS tx n wr i := by
  unfold skS
  split
  · exact sk_ge _ _
  · exact Nat.le_refl i
theorem gp_ge : ∀ (f i wr k : Nat) (dg : Nat → Int32), i ≤ (gpL tx n f i wr k dg).1
  | 0, i, wr, k, dg => Nat.le_refl i
  | f + 1, i, wr, k, dg => by
    rw [gpL]
    split
    · split
      · exact gp_ge f i 1 k dg
      · refine Nat.le_trans ?_ (gp_ge f _ _ _ _)
        have h1 := nm_ge (tx := tx) (n := n) 1 60 (i + 1) 0
        have h2 := skS_ge (tx := tx) (n := n) (nmS tx n 1 60 (i + 1) 0).2.1 (nmS tx n 1 60 (i + 1) 0).1
        omega
    · exact Nat.le_refl i
theorem cl_gt {i : Nat} {D : DR} (h : (clS tx n i D).2.1 = 0) : i < (clS tx n i D).1 := by
  unfold clS at h ⊢
  split
  · next h1 =>
    rw [if_pos h1] at h
    revert h
    unfold rdLaw
    split
    · intro _
      dsimp only
      refine Nat.lt_of_lt_of_le ?_ (wd_ge _ _ _)
      refine Nat.lt_of_lt_of_le ?_ (nm_ge _ _ _ _)
      refine Nat.lt_of_lt_of_le ?_ (nm_ge _ _ _ _)
      exact Nat.lt_of_lt_of_le (Nat.lt_succ_self i) (nm_ge _ _ _ _)
    · intro h; exact absurd h (Nat.succ_ne_zero _)
  · next h1 =>
    rw [if_neg h1] at h
    split
    · next h2 => rw [if_pos h2] at h; exact absurd h (Nat.succ_ne_zero _)
    · next h2 =>
      rw [if_neg h2] at h
      split
      · next h3 =>
        rw [if_pos h3] at h
        revert h
        unfold rdGaps
        split
        · intro h; exact absurd h (Nat.succ_ne_zero _)
        · intro _
          dsimp only
          refine Nat.lt_of_lt_of_le ?_ (wd_ge _ _ _)
          refine Nat.lt_of_lt_of_le ?_ (gp_ge _ _ _ _ _)
          refine Nat.lt_of_lt_of_le ?_ (skS_ge _ _)
          exact Nat.lt_of_lt_of_le (Nat.lt_succ_self i) (nm_ge _ _ _ _)
      · next h3 =>
        rw [if_neg h3] at h
        split
        · next h4 =>
          rw [if_pos h4] at h
          revert h
          unfold rdWalk
          split
          · intro h; exact absurd h (Nat.succ_ne_zero _)
          · intro _
            dsimp only
            refine Nat.lt_of_lt_of_le ?_ (wd_ge _ _ _)
            refine Nat.lt_of_lt_of_le ?_ (nm_ge _ _ _ _)
            exact Nat.lt_of_lt_of_le (Nat.lt_succ_self i) (nm_ge _ _ _ _)
        · next h4 =>
          rw [if_neg h4] at h
          split
          · next h5 =>
            rw [if_pos h5] at h
            revert h
            unfold rdRope
            split
            · split
              · intro h; exact absurd h (Nat.succ_ne_zero _)
              · intro _
                dsimp only
                refine Nat.lt_of_lt_of_le ?_ (wd_ge _ _ _)
                refine Nat.lt_of_lt_of_le ?_ (nm_ge _ _ _ _)
                exact Nat.lt_of_lt_of_le (Nat.lt_succ_self i) (sk_ge _ _)
            · next h6 => intro h; exact absurd h h6
          · next h5 => rw [if_neg h5] at h; exact absurd h (Nat.succ_ne_zero _)
theorem cl_gt2 {i i2 a w : Nat} {D D2 : DR} (hc : (a, w, D2) = clS tx n i D) (hs : i2 = skS tx n w a) (hw : w = 0) : i < i2 := by
  have h1 := cl_gt (tx := tx) (n := n) (i := i) (D := D) (by rw [← hc]; exact hw)
  rw [← hc] at h1
  have h2 := skS_ge (tx := tx) (n := n) w a
  have h3 : i < a := h1
  omega
theorem rdLaw_k {i a w : Nat} {tl tl2 : Int32} {dl dl2 : Nat → Int32} (h : (a, w, tl2, dl2) = rdLaw tx n i tl dl) {k : Nat} (hk : 3 ≤ k) : dl2 k = dl k := by
  have e : dl2 = (rdLaw tx n i tl dl).2.2.2 := by rw [← h]
  rw [e]
  unfold rdLaw
  split
  · dsimp only
    rw [upd_n (by omega), upd_n (by omega), upd_n (by omega)]
  · rfl
end GE
