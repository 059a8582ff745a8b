theorem gp_fin {tx dg : Nat → Int32} {n a w c : Nat} {T0 : Nat × Nat × Nat × (Nat → Int32)} (h : gpL tx n (9 - c) a w c dg = T0) (hc : c = 8 ∨ ¬ (w = 0 ∧ lk tx n a = 44)) : ∃ b1 b2, (b1, b2, c, dg) = T0 ∧ wdS tx n 59 b1 b2 = wdS tx n 59 a w := by
  by_cases q : w = 0 ∧ lk tx n a = 44
  · have h8 := hc.resolve_right (fun z => z q)
    have e := gp_stop (gp_8 h q.1 q.2 h8) (fun z => absurd z.1 (by decide))
    refine ⟨a, 1, e.symm, ?_⟩
    rw [wd_w (by decide)]
    unfold wdS
    have e2 : sk tx n a = a := sk_stop (by rw [q.2]; decide)
    rw [if_pos q.1, e2, if_neg (by rw [q.2]; decide)]
  · exact ⟨a, w, (gp_stop h q).symm, rfl⟩
theorem upd_rel {f g : Nat → Int32} {c : Nat} {x y : Int32} (h : ∀ j, j < c → f j = g j) (e : x = y) : ∀ j, j < c + 1 → upd f c x j = upd g c y j := by
  intro j hj
  unfold upd
  by_cases q : j = c
  · simp only [q, if_true]; exact e
  · simp only [q, if_false]; exact h j (by omega)
