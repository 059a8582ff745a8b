/-! Numbers, tables of classes and methods, and the rows that use them -/
abbrev tys3 (cI cC cZ : ClassId) : List (ClassId × FieldType) := [(cI, .int), (cC, .char), (cZ, .boolean)]
theorem n_add {a b : Int32} {x y z : Nat} (ha : a = nI x) (hb : b = nI y) (hz : x + y = z) : a + b = nI z := by rw [ha, hb, nI_add, hz]
theorem n_mul {a b : Int32} {x y z : Nat} (ha : a = nI x) (hb : b = nI y) (hz : x * y = z) : a * b = nI z := by rw [ha, hb, pk_mul, hz]
theorem n_sub {a b : Int32} {x y z : Nat} (ha : a = nI x) (hb : b = nI y) (hle : y ≤ x) (hz : x - y = z) : a - b = nI z := by rw [ha, hb, pk_sub hle, hz]
theorem n_neg {y : Nat} (x : Nat) (hle : y ≤ x) : nI x + (-nI y) = nI (x - y) := by
  rw [← pk_sub hle, Int32.sub_eq_add_neg]
theorem n_dec {a b : Int32} {x y z : Nat} (ha : a = nI x) (hb : b = -nI y) (hle : y ≤ x) (hz : x - y = z) : a + b = nI z := by rw [ha, hb, n_neg x hle, hz]
theorem n_le_of {a b : Nat} (ha : a < 2147483648) (hb : b < 2147483648) (h : nI a ≤ nI b) : a ≤ b := (nI_leI ha hb).mp h
theorem n_nle_of {a b : Nat} (ha : a < 2147483648) (hb : b < 2147483648) (h : ¬ nI a ≤ nI b) : b < a := Nat.lt_of_not_le (fun q => h ((nI_leI ha hb).mpr q))
theorem n_lt_of {a b : Nat} (ha : a < 2147483648) (hb : b < 2147483648) (h : nI a < nI b) : a < b := (nI_ltI ha hb).mp h
theorem n_nlt_of {a b : Nat} (ha : a < 2147483648) (hb : b < 2147483648) (h : ¬ nI a < nI b) : b ≤ a := Nat.le_of_not_lt (fun q => h ((nI_ltI ha hb).mpr q))
theorem n_eq_of {a b : Nat} (ha : a < 2147483648) (hb : b < 2147483648) (h : nI a = nI b) : a = b := (nI_eq ha hb).mp h
theorem n_ne_of {a b : Nat} (ha : a < 2147483648) (hb : b < 2147483648) (h : ¬ nI a = nI b) : ¬ a = b := fun q => h (congrArg nI q)
theorem n_ix {x : Int32} {n : Nat} (hn : n < 2147483648) (h0 : ¬ x < 0) (h : ¬ nI n ≤ x) : ∃ j : Nat, j < n ∧ x = nI j := by
  rcases pk_ix x hn with q | q | q
  · exact absurd q h0
  · exact absurd q h
  · exact q
section LSWI
variable {p : Program} {l : Launch} {e : Env} {R : Room} {s : State} {m : MethodId} {args : Array Value} {below : List Frame} {meth : Method} {c : Code} {A : Nat → Prop} {G : va_G} {ty : List (ClassId × FieldType)} {cc : ByteArray} {nL kc ks : Nat} {own : String} {a0 : Cond} {Q : State → Prop} {ws ws' : va_W} {pc : Nat} {lv lv' : List (Nat × Value)} {st : List Value}
theorem J_tin (X : Cx p s m args meth c A G ty cc nL own a0) {dflt hi off : Int} {offs : Array Int} {len : Nat} {x : Int32} (j tgt : Nat) (hx : x = nI j) (hd : decode cc pc = .ok (.tableswitch dflt 0 hi offs, len)) (hb : j < 2147483648) (hj : (j : Int) ≤ hi) (ho : offs[j]? = some off) (ht : (pc : Int) + off = (tgt : Int)) (k : JJ p l e R s m args below meth c A G nL kc ks Q ws tgt lv st) : JJ p l e R s m args below meth c A G nL kc ks Q ws pc lv (.int x :: st) := by
  subst hx
  have e0 : (nI j).toInt = (j : Int) := nI_toInt hb
  refine fun H locs ls hP hD hS hl => lv_tableIn X.1 X.2.1 hd ?_ ?_ (off := off) ?_ ht (k H locs ls hP hD hS hl)
  · rw [e0]; omega
  · rw [e0]; omega
  · rw [e0]; simpa using ho
theorem J_tout (X : Cx p s m args meth c A G ty cc nL own a0) {dflt hi : Int} {offs : Array Int} {len n : Nat} {x : Int32} (tgt : Nat) (hd : decode cc pc = .ok (.tableswitch dflt 0 hi offs, len)) (hx : x < 0 ∨ nI n ≤ x) (hn : (n : Int) = hi + 1 ∧ n < 2147483648) (ht : (pc : Int) + dflt = (tgt : Int)) (k : JJ p l e R s m args below meth c A G nL kc ks Q ws tgt lv st) : JJ p l e R s m args below meth c A G nL kc ks Q ws pc lv (.int x :: st) := by
  refine fun H locs ls hP hD hS hl => lv_tableOut X.1 X.2.1 hd ?_ ht (k H locs ls hP hD hS hl)
  rcases hx with h | h
  · left; have := Int32.lt_iff_toInt_lt.mp h; rw [Int32.toInt_zero] at this; exact this
  · right; have := Int32.le_iff_toInt_le.mp h; rw [nI_toInt hn.2] at this; omega
theorem J_mabs (X : Cx p s m args meth c A G ty cc nL own a0) {index : Nat} {x : Int32} (hlink : Cond.methodLink own index Lib.Math.abs.name ∈ gW) (hst : Cond.static Lib.Math.abs.name ∈ gW) (hini : Cond.initialized "java/lang/Math" ∈ gW) (hcode : Cond.code Lib.Math.abs.name Lib.Math.abs.code 1 (some .int) ∈ gW) (hf : 1 ≤ R.frames) (hlo : (st.map fun v => v.category).sum + 13 ≤ R.locals) (hc : kc ≤ R.cells) (hs : ks ≤ R.slots) (hd : decode cc pc = .ok (.invokestatic index, 3)) (k : JJ p l e R s m args below meth c A G nL kc ks Q ws (pc + 3) lv (.int (if 0 ≤ x then x else 0 - x) :: st)) : JJ p l e R s m args below meth c A G nL kc ks Q ws pc lv (.int x :: st) :=
  fun H locs ls hP hD hS hl => va_mabs X.1 X.2.1 (X.2.2.1.trans hl.1.symm) X.2.2.2.1 (X.w hlink) (X.w hst) (X.w hini) (X.w hcode) hf hlo hc hs hd (k H locs ls hP hD hS hl)
theorem J_acopy (X : Cx p s m args meth c A G ty cc nL own a0) {index : Nat} (hlink : Cond.methodLink own index arraycopyName ∈ gW) (hnat : Cond.native arraycopyName ∈ gW) (hst : Cond.static arraycopyName ∈ gW) (hini : Cond.initialized "java/lang/System" ∈ gW) (q0 q1 t0 sp dp n : Nat) {a0' a1 : Nat} {c0 : ClassId} {n0 n1 : Nat} {f g : Nat → Int32} {xs xd xn : Int32} (ws2 : va_W) (ha0 : ws[q0]? = some (a0', .inl (c0, n0, .inl f))) (ha1 : ws[q1]? = some (a1, .inl (c0, n1, .inl g))) (ht0 : ty[t0]? = some (c0, .int)) (es : xs = nI sp) (ed : xd = nI dp) (en : xn = nI n) (h4 : sp + n ≤ n0) (h5 : dp + n ≤ n1) (hb0 : n0 < 2147483648) (hb1 : n1 < 2147483648) (hw : ws.set q1 (a1, .inl (c0, n1, .inl (va_cpy f g sp dp n))) = ws2) (hf : 1 ≤ R.frames) (hlo : (st.map fun v => v.category).sum + (nativeFrameWords "java/lang/System" "arraycopy" 5 + 11) ≤ R.locals) (hd : decode cc pc = .ok (.invokestatic index, 3)) (k : JJ p l e R s m args below meth c A G nL kc ks Q ws2 (pc + 3) lv st) : JJ p l e R s m args below meth c A G nL kc ks Q ws pc lv (.int xn :: .int xd :: .ref a1 :: .int xs :: .ref a0' :: st) := by
  subst es; subst ed; subst en
  have b1 : sp < 2 ^ 31 := by omega
  have b2 : dp < 2 ^ 31 := by omega
  have b3 : n < 2 ^ 31 := by omega
  refine fun H locs ls hP hD hS hl => va_copyi X.1 X.2.1 (X.2.2.1.trans hl.1.symm) X.2.2.2.1 (X.w hlink) (X.w hnat) (X.w hst) (X.w hini) X.2.2.2.2.2.1 hP hD hS q0 q1 t0 t0 ha0 ha1 ht0 ht0 rfl (nI_pos b1) (nI_pos b2) (nI_pos b3) (by rw [nI_clamp b1, nI_clamp b3]; exact h4) (by rw [nI_clamp b2, nI_clamp b3]; exact h5) (fun _ _ => rfl) hf hlo hd (fun H1 locs1 h1 h2 h3 => ?_)
  rw [nI_clamp b1, nI_clamp b2, nI_clamp b3, hw] at h1 h2
  exact k H1 locs1 ls h1 h2 h3 hl
end LSWI
