theorem upd_id {f : Nat → Int32} {k : Nat} : upd f k (f k) = f := by
  funext j; unfold upd
  by_cases h : j = k
  · rw [if_pos h, h]
  · rw [if_neg h]
