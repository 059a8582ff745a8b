/-! Contracts and calls over the layer -/
abbrev wAt (G : va_G) (ty : List (ClassId × FieldType)) (A : Nat → Prop) (w : va_W) (t : State) : Prop := va_P G vwCl w t.heap ∧ va_K G vwCl ty t ∧ va_D A w
/-- a method that answers an int (or a boolean): from the world w, with arguments av, answers r with ghost u: post r u, the world is w' u -/
def CI (l : Launch) (G : va_G) (ty : List (ClassId × FieldType)) (y : MethodName) (cc : ByteArray) (nL : Nat) (ret : Option FieldType) (rm : Room) (av : List Value) (w : va_W) {S : Type} (post : Int32 → S → Prop) (w' : S → va_W) : Prop :=
  ∀ sz : Nat, Met l y (Cond.code y cc nL ret :: gW) rm (va_Pc av (fun U => U.heap.size = sz ∧ va_P G vwCl w U.heap ∧ va_K G vwCl ty U ∧ va_D (fun _ => True) w)) (va_Qi post (fun u => wAt G ty (va_A w sz) (w' u)) (va_A w sz)) 0 0 (va_A w sz)
def CV (l : Launch) (G : va_G) (ty : List (ClassId × FieldType)) (y : MethodName) (cc : ByteArray) (nL : Nat) (rm : Room) (av : List Value) (w : va_W) {S : Type} (post : S → Prop) (w' : S → va_W) : Prop :=
  ∀ sz : Nat, Met l y (Cond.code y cc nL none :: gW) rm (va_Pc av (fun U => U.heap.size = sz ∧ va_P G vwCl w U.heap ∧ va_K G vwCl ty U ∧ va_D (fun _ => True) w)) (va_Qv post (fun u => wAt G ty (va_A w sz) (w' u)) (va_A w sz)) 0 0 (va_A w sz)
abbrev QI (below : List Frame) (args : Array Value) (s : State) (A : Nat → Prop) (G : va_G) (ty : List (ClassId × FieldType)) {S : Type} (post : Int32 → S → Prop) (w' : S → va_W) : State → Prop := MQ below (va_Qi post (fun u => wAt G ty A (w' u)) A) args s 0 0 A
abbrev QV (below : List Frame) (args : Array Value) (s : State) (A : Nat → Prop) (G : va_G) (ty : List (ClassId × FieldType)) {S : Type} (post : S → Prop) (w' : S → va_W) : State → Prop := MQ below (va_Qv post (fun u => wAt G ty A (w' u)) A) args s 0 0 A
theorem CI.intro {l : Launch} {G : va_G} {ty : List (ClassId × FieldType)} {y : MethodName} {cc : ByteArray} {nL : Nat} {ret : Option FieldType} {rm : Room} {av : List Value} {w : va_W} {S : Type} {post : Int32 → S → Prop} {w' : S → va_W} (hy : plainName y.cls = true) (hn : (lg_sl av).length ≤ nL)
    (body : ∀ (p : Program) (e : Env) (s : State) (m : MethodId) (args : Array Value) (below : List Frame) (meth : Method) (c : Code) (A : Nat → Prop), Cx p s m args meth c A G ty cc nL y.cls (Cond.code y cc nL ret) → meth.sig.returnType = ret → JJ p l e rm s m args below meth c A G nL 0 0 (QI below args s A G ty post w') w 0 (lv_args 0 av) []) : CI l G ty y cc nL ret rm av w post w' := by
  intro sz
  refine Met.ofW (cc := cc) (maxL := nL) (ret := ret) hy rfl ?_
  intro p e s m args below meth c s₁ B hml hv
  obtain ⟨rfl, hsz, hP, hK, hD0⟩ := hv
  subst hsz
  have hD := hD0.self (sz := s.heap.size)
  rw [lg_entry_eq]
  exact body p e s m _ below meth c (va_A w s.heap.size) ⟨B.exec, B.bytes, hml, findClass_of_methodNamed B.named, atoms_spec (ws := Cond.code y cc nL ret :: gW) B.pre, hK, B.notSynchronized, fun q h => Or.inr h⟩ B.returns s.heap [] _ hP hD va_S.rf (lv_entry av hn)
theorem CV.intro {l : Launch} {G : va_G} {ty : List (ClassId × FieldType)} {y : MethodName} {cc : ByteArray} {nL : Nat} {rm : Room} {av : List Value} {w : va_W} {S : Type} {post : S → Prop} {w' : S → va_W} (hy : plainName y.cls = true) (hn : (lg_sl av).length ≤ nL)
    (body : ∀ (p : Program) (e : Env) (s : State) (m : MethodId) (args : Array Value) (below : List Frame) (meth : Method) (c : Code) (A : Nat → Prop), Cx p s m args meth c A G ty cc nL y.cls (Cond.code y cc nL none) → meth.sig.returnType = none → JJ p l e rm s m args below meth c A G nL 0 0 (QV below args s A G ty post w') w 0 (lv_args 0 av) []) : CV l G ty y cc nL rm av w post w' := by
  intro sz
  refine Met.ofW (cc := cc) (maxL := nL) (ret := none) hy rfl ?_
  intro p e s m args below meth c s₁ B hml hv
  obtain ⟨rfl, hsz, hP, hK, hD0⟩ := hv
  subst hsz
  have hD := hD0.self (sz := s.heap.size)
  rw [lg_entry_eq]
  exact body p e s m _ below meth c (va_A w s.heap.size) ⟨B.exec, B.bytes, hml, findClass_of_methodNamed B.named, atoms_spec (ws := Cond.code y cc nL none :: gW) B.pre, hK, B.notSynchronized, fun q h => Or.inr h⟩ B.returns s.heap [] _ hP hD va_S.rf (lv_entry av hn)
section LC
variable {p : Program} {l : Launch} {e : Env} {R : Room} {s : State} {m : MethodId} {args : Array Value} {below : List Frame} {meth : Method} {c : Code} {A : Nat → Prop} {G : va_G} {ty : List (ClassId × FieldType)} {cc : ByteArray} {nL kc ks : Nat} {own : String} {a0 : Cond} {Q : State → Prop} {ws ws' : va_W} {pc : Nat} {lv lv' : List (Nat × Value)} {st : List Value}
theorem J_iret (X : Cx p s m args meth c A G ty cc nL own a0) {S : Type} {post : Int32 → S → Prop} {w' : S → va_W} (hr : meth.sig.returnType = some .int) (u : S) {v : Int32} (hd : decode cc pc = .ok (.ireturn, 1)) (hp : post v u) (hw : ws = w' u) : JJ p l e R s m args below meth c A G nL 0 0 (QI below args s A G ty post w') ws pc lv [.int v] := by
  subst hw
  exact fun H locs ls hP hD hS hl => W.iret X.1 X.2.1 hr (fun t ht hW => ⟨⟨v, u, rfl, hp, by rw [ht]; exact hP, va_K.moved hW.alike X.2.2.2.2.2.1, hD⟩, hS.F ht⟩) hS.2.2 hd X.2.2.2.2.2.2.1
theorem J_zret (X : Cx p s m args meth c A G ty cc nL own a0) {S : Type} {post : Int32 → S → Prop} {w' : S → va_W} (hr : meth.sig.returnType = some .boolean) (u : S) {v : Int32} (hn : narrow .boolean (.int v) = .int v) (hd : decode cc pc = .ok (.ireturn, 1)) (hp : post v u) (hw : ws = w' u) : JJ p l e R s m args below meth c A G nL 0 0 (QI below args s A G ty post w') ws pc lv [.int v] := by
  subst hw
  exact fun H locs ls hP hD hS hl => W.zret X.1 X.2.1 hr hn (fun t ht hW => ⟨⟨v, u, rfl, hp, by rw [ht]; exact hP, va_K.moved hW.alike X.2.2.2.2.2.1, hD⟩, hS.F ht⟩) hS.2.2 hd X.2.2.2.2.2.2.1
theorem J_vret (X : Cx p s m args meth c A G ty cc nL own a0) {S : Type} {post : S → Prop} {w' : S → va_W} (hr : meth.sig.returnType = none) (u : S) (hd : decode cc pc = .ok (.return_, 1)) (hp : post u) (hw : ws = w' u) : JJ p l e R s m args below meth c A G nL 0 0 (QV below args s A G ty post w') ws pc lv [] := by
  subst hw
  exact fun H locs ls hP hD hS hl => W.vret X.1 X.2.1 hr (fun t ht hW => ⟨⟨u, rfl, hp, by rw [ht]; exact hP, va_K.moved hW.alike X.2.2.2.2.2.1, hD⟩, hS.F ht⟩) hS.2.2 hd X.2.2.2.2.2.2.1
/-- an instance method of ours: its words, and how many arguments -/
def MtV (y : MethodName) (bytes : ByteArray) (maxL : Nat) (ret : Option FieldType) (C : String) (n : Nat) : Prop := Cond.instanceMethod y ∈ gW ∧ Cond.selects C y y ∈ gW ∧ Cond.initialized C ∈ gW ∧ Cond.code y bytes maxL ret ∈ gW ∧ y.cls = C ∧ y.cls ≠ "java/lang/invoke/MethodHandle" ∧ y.cls ≠ "java/lang/invoke/VarHandle" ∧ (parseMethodDescriptor y.desc).map (fun d => d.parameters.length) = some n
def MtS (y : MethodName) (bytes : ByteArray) (maxL : Nat) (ret : Option FieldType) (n : Nat) : Prop := Cond.static y ∈ gW ∧ Cond.initialized y.cls ∈ gW ∧ Cond.code y bytes maxL ret ∈ gW ∧ y.cls ≠ "java/lang/invoke/MethodHandle" ∧ y.cls ≠ "java/lang/invoke/VarHandle" ∧ (parseMethodDescriptor y.desc).map (fun d => d.parameters.length) = some n
theorem gd_in {w : Cond} (a0 : Cond) (h : w ∈ gW) : w ∈ a0 :: gW ∧ ((w.onTables && w.keeps) = true ∨ ∃ ty, w = .arrayClass ty) := ⟨List.mem_cons_of_mem _ h, good_of_word (gW_good w h)⟩
theorem gd_V {y : MethodName} {bytes : ByteArray} {maxL index n : Nat} {ret : Option FieldType} {C own : String} (a0 : Cond) (M : MtV y bytes maxL ret C n) (hl : Cond.methodLink own index y ∈ gW) : GoodIn (a0 :: gW) (wsV own index C y (Cond.code y bytes maxL ret :: gW)) := by
  intro w hw
  refine gd_in a0 ?_
  rcases List.mem_append.mp hw with h | h
  · rcases List.mem_cons.mp h with rfl | h
    · exact hl
    rcases List.mem_cons.mp h with rfl | h
    · exact M.1
    rcases List.mem_cons.mp h with rfl | h
    · exact M.2.1
    rcases List.mem_cons.mp h with rfl | h
    · exact M.2.2.1
    · cases h
  · rcases List.mem_cons.mp h with rfl | h
    · exact M.2.2.2.1
    · exact h
theorem gd_S {y : MethodName} {bytes : ByteArray} {maxL index n : Nat} {ret : Option FieldType} {own : String} (a0 : Cond) (M : MtS y bytes maxL ret n) (hl : Cond.methodLink own index y ∈ gW) : GoodIn (a0 :: gW) (va_wsS own index y (Cond.code y bytes maxL ret :: gW)) := by
  intro w hw
  refine gd_in a0 ?_
  rcases List.mem_append.mp hw with h | h
  · rcases List.mem_cons.mp h with rfl | h
    · exact hl
    rcases List.mem_cons.mp h with rfl | h
    · exact M.1
    rcases List.mem_cons.mp h with rfl | h
    · exact M.2.1
    · cases h
  · rcases List.mem_cons.mp h with rfl | h
    · exact M.2.2.1
    · exact h
theorem fm_of_map {α β : Type} {f : α → Option β} : ∀ {is : List α} {l : List β}, is.map f = l.map some → is.filterMap f = l
  | [], [], _ => rfl
  | [], _ :: _, h => by cases h
  | _ :: _, [], h => by cases h
  | a :: is, b :: l, h => by
    have h1 := (List.cons.inj h).1
    have h2 := (List.cons.inj h).2
    rw [List.filterMap_cons, h1, fm_of_map h2]
/-- read only: what the callee's cells and the others are stays -/
theorem va_same {A0 : Nat → Prop} {D : va_G} {cl : List vw_C} {ws wc : va_W} {H H1 : Heap} (hP : va_P D cl ws H) (hD : va_D A0 ws) (isC : List Nat) (hC : isC.map (fun i => ws[i]?) = wc.map some) (hk : ∀ q : Nat, q < H.size → ¬ va_A wc H.size q → H1[q]? = H[q]?) (hP1 : va_P D cl wc H1) : va_P D cl ws H1 := by
  intro k q hq
  by_cases h : va_A wc H.size q.1
  · rcases h with ⟨k2, e2, h⟩ | h
    · have h1 : (isC.map (fun i => ws[i]?))[k2]? = some (some (q.1, e2)) := by rw [hC, List.getElem?_map, h]; rfl
      rw [List.getElem?_map] at h1
      cases hi : isC[k2]? with
      | none => rw [hi] at h1; cases h1
      | some i =>
        rw [hi] at h1
        have h2 : ws[i]? = some (q.1, e2) := Option.some.inj h1
        have hij := hD.1 k i q (q.1, e2) hq h2 rfl
        subst hij
        have h3 : q = (q.1, e2) := Option.some.inj (hq.symm.trans h2)
        rw [h3]
        exact hP1 k2 _ h
    · have := (hP k q hq).lt
      omega
  · exact (hP k q hq).kept (hk q.1 (hP k q hq).lt h)
theorem blind_of {G : va_G} {ty : List (ClassId × FieldType)} {av : List Value} {sz : Nat} {w : va_W} : FrameBlind (va_Pc av (fun U => U.heap.size = sz ∧ va_P G vwCl w U.heap ∧ va_K G vwCl ty U ∧ va_D (fun _ => True) w)) :=
  fun a U g mk q => by obtain ⟨q0, q1, qP, qK, qD⟩ := q; exact ⟨q0, q1, qP, va_K.moved (u := U) (U := U.calling g mk a) (Vm.Alike.refl U.vm) qK, qD⟩
/-- invokevirtual, an int back; the callee's cells stand at isC, and stay -/
theorem J_callR (X : Cx p s m args meth c A G ty cc nL own a0) {y : MethodName} {bytes : ByteArray} {maxL n index : Nat} {ret : Option FieldType} {C : String} {rm : Room} {b ci : Nat} {As rest : List Value} {fs : List Value} {q : vw_C} {wc : va_W} {S : Type} {post : Int32 → S → Prop} (M : MtV y bytes maxL ret C n) (hl : Cond.methodLink own index y ∈ gW) (isC : List Nat) (q0 : Nat) (hM : CI l G ty y bytes maxL ret rm (.ref b :: As) wc post (fun _ => wc)) (hR : rm.frames + 1 ≤ R.frames ∧ 8 + (maxL + 11) + rm.locals ≤ R.locals) (hc0 : rm.cells = 0) (hs0 : rm.slots = 0) (hC : isC.map (fun i => ws[i]?) = wc.map some) (hnC : va_nd isC = true) (hci : vwCl[ci]? = some q) (hq : q.1 = C) (he : wc[q0]? = some (b, .inr (ci, fs))) (hn : As.length = n) (hst : st = As.reverse ++ .ref b :: rest) (hW : (rest.map fun v => v.category).sum ≤ 8) (hkc : kc ≤ R.cells) (hks : ks ≤ R.slots) (hd : decode cc pc = .ok (.invokevirtual index, 3))
    (k : ∀ (r : Int32) (u : S), post r u → JJ p l e R s m args below meth c A G nL kc ks Q ws (pc + 3) lv (.int r :: rest)) : JJ p l e R s m args below meth c A G nL kc ks Q ws pc lv st := by
  subst hst
  subst hq
  intro H locs ls hP hD hS hlv
  have hPc := hP.sub isC (fm_of_map hC)
  have hDc := hD.sub isC hnC hC
  have hK := X.2.2.2.2.2.1
  have hFc := va_free (wc := wc) hD hS X.2.2.2.2.2.2.2 isC hC
  refine va_calli (va_runV (As := As) (rest := rest) ⟨X.1, X.2.1, X.2.2.1, X.2.2.2.1, X.2.2.2.2.1⟩ (hM H.size) (cwV n X.2.2.2.2.1 (gd_V a0 M hl) rfl hc0 hs0 M.2.2.2.2 hR) ⟨blind_of, va_recv hK hPc hci he, fun U hU hW => ⟨rfl, by rw [hU], by rw [hU]; exact hPc, va_K.moved hW.alike hK, hDc.weaken (fun _ _ _ _ => trivial)⟩⟩ rfl hn hlv.1 rfl (lv_room hW) hd ⟨hkc, hks⟩) hS (fun q _ h => hFc q h) hFc (fun r u t H1 locs1 ht hvm hw hB hz1 hk1 hS1 => ?_)
  obtain ⟨hP1, -, -⟩ := hB
  rw [ht] at hP1
  exact k r u hw H1 locs1 ls (va_same hP hD isC hC hk1 hP1) hD hS1 hlv
/-- invokevirtual, an int back; the callee's cells stand at isC and become w' u, the others at isR; all in their order by isB -/
theorem J_callI (X : Cx p s m args meth c A G ty cc nL own a0) {y : MethodName} {bytes : ByteArray} {maxL n index : Nat} {ret : Option FieldType} {C : String} {rm : Room} {b ci : Nat} {As rest : List Value} {fs : List Value} {q : vw_C} {wc wr : va_W} {S : Type} {post : Int32 → S → Prop} {w' : S → va_W} (M : MtV y bytes maxL ret C n) (hl : Cond.methodLink own index y ∈ gW) (isC isR isB : List Nat) (q0 : Nat) (ws2 : S → va_W) (hM : CI l G ty y bytes maxL ret rm (.ref b :: As) wc post w') (hR : rm.frames + 1 ≤ R.frames ∧ 8 + (maxL + 11) + rm.locals ≤ R.locals) (hc0 : rm.cells = 0) (hs0 : rm.slots = 0) (hC : isC.map (fun i => ws[i]?) = wc.map some) (hnC : va_nd isC = true) (hr : isR.map (fun i => ws[i]?) = wr.map some) (hnR : va_nd isR = true) (hdis : ∀ i ∈ isR, i ∉ isC) (hB0 : ∀ u, isB.map (fun i => (wr ++ w' u)[i]?) = (ws2 u).map some) (hnB : va_nd isB = true) (hci : vwCl[ci]? = some q) (hq : q.1 = C) (he : wc[q0]? = some (b, .inr (ci, fs))) (hn : As.length = n) (hst : st = As.reverse ++ .ref b :: rest) (hW : (rest.map fun v => v.category).sum ≤ 8) (hkc : kc ≤ R.cells) (hks : ks ≤ R.slots) (hd : decode cc pc = .ok (.invokevirtual index, 3))
    (k : ∀ (r : Int32) (u : S), post r u → JJ p l e R s m args below meth c A G nL kc ks Q (ws2 u) (pc + 3) lv (.int r :: rest)) : JJ p l e R s m args below meth c A G nL kc ks Q ws pc lv st := by
  subst hst
  subst hq
  intro H locs ls hP hD hS hlv
  have hPc := hP.sub isC (fm_of_map hC)
  have hDc := hD.sub isC hnC hC
  have hK := X.2.2.2.2.2.1
  have hFc := va_free (wc := wc) hD hS X.2.2.2.2.2.2.2 isC hC
  refine va_calli (va_runV (As := As) (rest := rest) ⟨X.1, X.2.1, X.2.2.1, X.2.2.2.1, X.2.2.2.2.1⟩ (hM H.size) (cwV n X.2.2.2.2.1 (gd_V a0 M hl) rfl hc0 hs0 M.2.2.2.2 hR) ⟨blind_of, va_recv hK hPc hci he, fun U hU hW => ⟨rfl, by rw [hU], by rw [hU]; exact hPc, va_K.moved hW.alike hK, hDc.weaken (fun _ _ _ _ => trivial)⟩⟩ rfl hn hlv.1 rfl (lv_room hW) hd ⟨hkc, hks⟩) hS (fun q _ h => hFc q h) hFc (fun r u t H1 locs1 ht hvm hw hB hz1 hk1 hS1 => ?_)
  obtain ⟨hP1, -, hD1⟩ := hB
  rw [ht] at hP1
  obtain ⟨hP2, hD2⟩ := va_join hP hD isC isR hC hr hnR hdis hk1 hFc hP1 hD1
  exact k r u hw H1 locs1 ls (hP2.sub isB (fm_of_map (hB0 u))) (hD2.sub isB hnB (hB0 u)) hS1 hlv
theorem J_callV (X : Cx p s m args meth c A G ty cc nL own a0) {y : MethodName} {bytes : ByteArray} {maxL n index : Nat} {C : String} {rm : Room} {b ci : Nat} {As rest : List Value} {fs : List Value} {q : vw_C} {wc wr : va_W} {S : Type} {post : S → Prop} {w' : S → va_W} (M : MtV y bytes maxL none C n) (hl : Cond.methodLink own index y ∈ gW) (isC isR isB : List Nat) (q0 : Nat) (ws2 : S → va_W) (hM : CV l G ty y bytes maxL rm (.ref b :: As) wc post w') (hR : rm.frames + 1 ≤ R.frames ∧ 8 + (maxL + 11) + rm.locals ≤ R.locals) (hc0 : rm.cells = 0) (hs0 : rm.slots = 0) (hC : isC.map (fun i => ws[i]?) = wc.map some) (hnC : va_nd isC = true) (hr : isR.map (fun i => ws[i]?) = wr.map some) (hnR : va_nd isR = true) (hdis : ∀ i ∈ isR, i ∉ isC) (hB0 : ∀ u, isB.map (fun i => (wr ++ w' u)[i]?) = (ws2 u).map some) (hnB : va_nd isB = true) (hci : vwCl[ci]? = some q) (hq : q.1 = C) (he : wc[q0]? = some (b, .inr (ci, fs))) (hn : As.length = n) (hst : st = As.reverse ++ .ref b :: rest) (hW : (rest.map fun v => v.category).sum ≤ 8) (hkc : kc ≤ R.cells) (hks : ks ≤ R.slots) (hd : decode cc pc = .ok (.invokevirtual index, 3))
    (k : ∀ (u : S), post u → JJ p l e R s m args below meth c A G nL kc ks Q (ws2 u) (pc + 3) lv rest) : JJ p l e R s m args below meth c A G nL kc ks Q ws pc lv st := by
  subst hst
  subst hq
  intro H locs ls hP hD hS hlv
  have hPc := hP.sub isC (fm_of_map hC)
  have hDc := hD.sub isC hnC hC
  have hK := X.2.2.2.2.2.1
  have hFc := va_free (wc := wc) hD hS X.2.2.2.2.2.2.2 isC hC
  refine va_callv (va_runV (As := As) (rest := rest) ⟨X.1, X.2.1, X.2.2.1, X.2.2.2.1, X.2.2.2.2.1⟩ (hM H.size) (cwV n X.2.2.2.2.1 (gd_V a0 M hl) rfl hc0 hs0 M.2.2.2.2 hR) ⟨blind_of, va_recv hK hPc hci he, fun U hU hW => ⟨rfl, by rw [hU], by rw [hU]; exact hPc, va_K.moved hW.alike hK, hDc.weaken (fun _ _ _ _ => trivial)⟩⟩ rfl hn hlv.1 rfl (lv_room hW) hd ⟨hkc, hks⟩) hS (fun q _ h => hFc q h) hFc (fun u t H1 locs1 ht hvm hw hB hz1 hk1 hS1 => ?_)
  obtain ⟨hP1, -, hD1⟩ := hB
  rw [ht] at hP1
  obtain ⟨hP2, hD2⟩ := va_join hP hD isC isR hC hr hnR hdis hk1 hFc hP1 hD1
  exact k u hw H1 locs1 ls (hP2.sub isB (fm_of_map (hB0 u))) (hD2.sub isB hnB (hB0 u)) hS1 hlv
/-- invokestatic, an int back, read only -/
theorem J_callS (X : Cx p s m args meth c A G ty cc nL own a0) {y : MethodName} {bytes : ByteArray} {maxL n index : Nat} {ret : Option FieldType} {rm : Room} {As rest : List Value} {wc : va_W} {S : Type} {post : Int32 → S → Prop} (M : MtS y bytes maxL ret n) (hl : Cond.methodLink own index y ∈ gW) (isC : List Nat) (hM : CI l G ty y bytes maxL ret rm As wc post (fun _ => wc)) (hR : rm.frames + 1 ≤ R.frames ∧ 8 + (maxL + 11) + rm.locals ≤ R.locals) (hc0 : rm.cells = 0) (hs0 : rm.slots = 0) (hC : isC.map (fun i => ws[i]?) = wc.map some) (hnC : va_nd isC = true) (hn : As.length = n) (hst : st = As.reverse ++ rest) (hW : (rest.map fun v => v.category).sum ≤ 8) (hkc : kc ≤ R.cells) (hks : ks ≤ R.slots) (hd : decode cc pc = .ok (.invokestatic index, 3))
    (k : ∀ (r : Int32) (u : S), post r u → JJ p l e R s m args below meth c A G nL kc ks Q ws (pc + 3) lv (.int r :: rest)) : JJ p l e R s m args below meth c A G nL kc ks Q ws pc lv st := by
  subst hst
  intro H locs ls hP hD hS hlv
  have hPc := hP.sub isC (fm_of_map hC)
  have hDc := hD.sub isC hnC hC
  have hK := X.2.2.2.2.2.1
  have hFc := va_free (wc := wc) hD hS X.2.2.2.2.2.2.2 isC hC
  refine va_calli (va_runS (As := As) (rest := rest) ⟨X.1, X.2.1, X.2.2.1, X.2.2.2.1, X.2.2.2.2.1⟩ (hM H.size) (va_cwS n X.2.2.2.2.1 (gd_S a0 M hl) rfl hc0 hs0 M.2.2.2 hR) ⟨blind_of, fun U hU hW => ⟨rfl, by rw [hU], by rw [hU]; exact hPc, va_K.moved hW.alike hK, hDc.weaken (fun _ _ _ _ => trivial)⟩⟩ rfl hn hlv.1 rfl (lv_room hW) hd ⟨hkc, hks⟩) hS (fun q _ h => hFc q h) hFc (fun r u t H1 locs1 ht hvm hw hB hz1 hk1 hS1 => ?_)
  obtain ⟨hP1, -, -⟩ := hB
  rw [ht] at hP1
  exact k r u hw H1 locs1 ls (va_same hP hD isC hC hk1 hP1) hD hS1 hlv
/-- invokestatic, void, with its effect -/
theorem J_callSV (X : Cx p s m args meth c A G ty cc nL own a0) {y : MethodName} {bytes : ByteArray} {maxL n index : Nat} {rm : Room} {As rest : List Value} {wc wr : va_W} {S : Type} {post : S → Prop} {w' : S → va_W} (M : MtS y bytes maxL none n) (hl : Cond.methodLink own index y ∈ gW) (isC isR isB : List Nat) (ws2 : S → va_W) (hM : CV l G ty y bytes maxL rm As wc post w') (hR : rm.frames + 1 ≤ R.frames ∧ 8 + (maxL + 11) + rm.locals ≤ R.locals) (hc0 : rm.cells = 0) (hs0 : rm.slots = 0) (hC : isC.map (fun i => ws[i]?) = wc.map some) (hnC : va_nd isC = true) (hr : isR.map (fun i => ws[i]?) = wr.map some) (hnR : va_nd isR = true) (hdis : ∀ i ∈ isR, i ∉ isC) (hB0 : ∀ u, isB.map (fun i => (wr ++ w' u)[i]?) = (ws2 u).map some) (hnB : va_nd isB = true) (hn : As.length = n) (hst : st = As.reverse ++ rest) (hW : (rest.map fun v => v.category).sum ≤ 8) (hkc : kc ≤ R.cells) (hks : ks ≤ R.slots) (hd : decode cc pc = .ok (.invokestatic index, 3))
    (k : ∀ (u : S), post u → JJ p l e R s m args below meth c A G nL kc ks Q (ws2 u) (pc + 3) lv rest) : JJ p l e R s m args below meth c A G nL kc ks Q ws pc lv st := by
  subst hst
  intro H locs ls hP hD hS hlv
  have hPc := hP.sub isC (fm_of_map hC)
  have hDc := hD.sub isC hnC hC
  have hK := X.2.2.2.2.2.1
  have hFc := va_free (wc := wc) hD hS X.2.2.2.2.2.2.2 isC hC
  refine va_callv (va_runS (As := As) (rest := rest) ⟨X.1, X.2.1, X.2.2.1, X.2.2.2.1, X.2.2.2.2.1⟩ (hM H.size) (va_cwS n X.2.2.2.2.1 (gd_S a0 M hl) rfl hc0 hs0 M.2.2.2 hR) ⟨blind_of, fun U hU hW => ⟨rfl, by rw [hU], by rw [hU]; exact hPc, va_K.moved hW.alike hK, hDc.weaken (fun _ _ _ _ => trivial)⟩⟩ rfl hn hlv.1 rfl (lv_room hW) hd ⟨hkc, hks⟩) hS (fun q _ h => hFc q h) hFc (fun u t H1 locs1 ht hvm hw hB hz1 hk1 hS1 => ?_)
  obtain ⟨hP1, -, hD1⟩ := hB
  rw [ht] at hP1
  obtain ⟨hP2, hD2⟩ := va_join hP hD isC isR hC hr hnR hdis hk1 hFc hP1 hD1
  exact k u hw H1 locs1 ls (hP2.sub isB (fm_of_map (hB0 u))) (hD2.sub isB hnB (hB0 u)) hS1 hlv
end LC
