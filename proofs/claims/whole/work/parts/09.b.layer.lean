/-! The law's own rows: its script, its world in another order, its room -/
section LL
variable {p : Program} {l : Launch} {e : Env} {R : Room} {s : State} {m : MethodId} {args : Array Value} {below : List Frame} {meth : Method} {c : Code} {A : Nat → Prop} {G : va_G} {ty : List (ClassId × FieldType)} {cc : ByteArray} {nL kc ks : Nat} {own : String} {a0 : Cond} {Q : State → Prop} {ws ws' : va_W} {pc : Nat} {lv lv' : List (Nat × Value)} {st : List Value}
theorem J_sld (X : Cx p s m args meth c A G ty cc nL own a0) {b L : Nat} {xs : Nat → Int32} (hX : va_X b L xs s s.heap) (hbl : b < s.heap.size) (hbA : ¬ A b) {i : Int32} (j : Nat) (hi : i = nI j) (hj : j < L) (hL : L < 2147483648) (hd : decode cc pc = .ok (.iaload, 1)) (k : JJ p l e R s m args below meth c A G nL kc ks Q ws (pc + 1) lv (.int (xs j) :: st)) : JJ p l e R s m args below meth c A G nL kc ks Q ws pc lv (.int i :: .ref b :: st) := by
  subst hi
  exact fun H locs ls hP hD hS hl => va_sld X.1 X.2.1 hX hbl hbA hS (vp_in_j rfl hj hL) hd (by rw [nI_clamp (Nat.lt_trans hj hL)]; exact k H locs ls hP hD hS hl)
theorem J_slen (X : Cx p s m args meth c A G ty cc nL own a0) {b L : Nat} {xs : Nat → Int32} (hX : va_X b L xs s s.heap) (hbl : b < s.heap.size) (hbA : ¬ A b) (hd : decode cc pc = .ok (.arraylength, 1)) (k : JJ p l e R s m args below meth c A G nL kc ks Q ws (pc + 1) lv (.int (nI L) :: st)) : JJ p l e R s m args below meth c A G nL kc ks Q ws pc lv (.ref b :: st) :=
  fun H locs ls hP hD hS hl => va_slen X.1 X.2.1 hX hbl hbA hS hd (k H locs ls hP hD hS hl)
theorem J_perm (isB : List Nat) (ws2 : va_W) (hB : isB.map (fun i => ws[i]?) = ws2.map some) (hn : va_nd isB = true) (k : JJ p l e R s m args below meth c A G nL kc ks Q ws2 pc lv st) : JJ p l e R s m args below meth c A G nL kc ks Q ws pc lv st :=
  fun H locs ls hP hD hS hl => k H locs ls (hP.sub isB (fm_of_map hB)) (hD.sub isB hn hB) hS hl
theorem J_wide (kc2 ks2 : Nat) (h1 : kc ≤ kc2) (h2 : ks ≤ ks2) (k : JJ p l e R s m args below meth c A G nL kc2 ks2 Q ws pc lv st) : JJ p l e R s m args below meth c A G nL kc ks Q ws pc lv st :=
  fun H locs ls hP hD hS hl => W.widen h1 h2 (k H locs ls hP hD hS hl)
end LL
