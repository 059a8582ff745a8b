/-! Making objects: contracts of constructors, and the rows that make cells -/
abbrev QN (below : List Frame) (args : Array Value) (s : State) (A : Nat → Prop) (G : va_G) (ty : List (ClassId × FieldType)) {S : Type} (post : S → Prop) (w' : S → va_W) (mc ms : Nat) : State → Prop := MQ below (va_Qv post (fun u => wAt G ty A (w' u)) A) args s mc ms A
def CN (l : Launch) (G : va_G) (ty : List (ClassId × FieldType)) (y : MethodName) (cc : ByteArray) (nL : Nat) (rm : Room) (mc ms : Nat) (NW : State → Prop) (av : List Value) (w : va_W) {S : Type} (post : S → Prop) (w' : S → va_W) : Prop :=
  ∀ sz : Nat, Met l y (Cond.code y cc nL none :: gW) rm (va_Pc av (fun U => U.heap.size = sz ∧ va_P G vwCl w U.heap ∧ va_K G vwCl ty U ∧ va_D (fun _ => True) w ∧ NW U)) (va_Qv post (fun u => wAt G ty (va_A w sz) (w' u)) (va_A w sz)) mc ms (va_A w sz)
theorem CN.intro {l : Launch} {G : va_G} {ty : List (ClassId × FieldType)} {y : MethodName} {cc : ByteArray} {nL : Nat} {rm : Room} {mc ms : Nat} {NW : State → Prop} {av : List Value} {w : va_W} {S : Type} {post : S → Prop} {w' : S → va_W} (hy : plainName y.cls = true) (hn : (lg_sl av).length ≤ nL)
    (body : ∀ (p : Program) (e : Env) (s : State) (m : MethodId) (args : Array Value) (below : List Frame) (meth : Method) (c : Code) (A : Nat → Prop), Cx p s m args meth c A G ty cc nL y.cls (Cond.code y cc nL none) → meth.sig.returnType = none → meth.name = y.name → NW s → JJ p l e rm s m args below meth c A G nL 0 0 (QN below args s A G ty post w' mc ms) w 0 (lv_args 0 av) []) : CN l G ty y cc nL rm mc ms NW av w post w' := by
  intro sz
  refine Met.ofW (cc := cc) (maxL := nL) (ret := none) hy rfl ?_
  intro p e s m args below meth c s₁ B hml hv
  obtain ⟨rfl, hsz, hP, hK, hD0, hNW⟩ := hv
  subst hsz
  have hD := hD0.self (sz := s.heap.size)
  rw [lg_entry_eq]
  exact body p e s m _ below meth c (va_A w s.heap.size) ⟨B.exec, B.bytes, hml, findClass_of_methodNamed B.named, atoms_spec (ws := Cond.code y cc nL none :: gW) B.pre, hK, B.notSynchronized, fun q h => Or.inr h⟩ B.returns (name_of_methodNamed B.named B.method).1 hNW s.heap [] _ hP hD va_S.rf (lv_entry av hn)
/-- a constructor of ours: its words, and how many arguments -/
def MtC (y : MethodName) (bytes : ByteArray) (maxL n : Nat) : Prop := Cond.instanceMethod y ∈ gW ∧ Cond.initialized y.cls ∈ gW ∧ Cond.code y bytes maxL none ∈ gW ∧ y.name = "<init>" ∧ y.cls ≠ "java/lang/invoke/MethodHandle" ∧ y.cls ≠ "java/lang/invoke/VarHandle" ∧ (parseMethodDescriptor y.desc).map (fun d => d.parameters.length) = some n
theorem gd_C {y : MethodName} {bytes : ByteArray} {maxL n : Nat} (a0 : Cond) (M : MtC y bytes maxL n) : GoodIn (a0 :: gW) (Cond.code y bytes maxL none :: gW) := by
  intro w hw
  refine gd_in a0 ?_
  rcases List.mem_cons.mp hw with rfl | h
  · exact M.2.2.1
  · exact h
theorem blind_N {G : va_G} {ty : List (ClassId × FieldType)} {av : List Value} {sz : Nat} {w : va_W} {NW : State → Prop} (hNB : ∀ (a : Array Value) (U : State) (g : JFrame) (mk : MethodId), NW U → NW (U.calling g mk a)) : FrameBlind (va_Pc av (fun U => U.heap.size = sz ∧ va_P G vwCl w U.heap ∧ va_K G vwCl ty U ∧ va_D (fun _ => True) w ∧ NW U)) :=
  fun a U g mk q => by obtain ⟨q0, q1, qP, qK, qD, qN⟩ := q; exact ⟨q0, q1, qP, va_K.moved (u := U) (U := U.calling g mk a) (Vm.Alike.refl U.vm) qK, qD, hNB a U g mk qN⟩
section CT
variable {p : Program} {l : Launch} {e : Env} {R : Room} {s : State} {m : MethodId} {args : Array Value} {below : List Frame} {meth : Method} {c : Code} {A : Nat → Prop} {G : va_G} {ty : List (ClassId × FieldType)} {cc : ByteArray} {nL kc ks : Nat} {own : String} {a0 : Cond} {Q : State → Prop} {ws ws' : va_W} {pc : Nat} {lv lv' : List (Nat × Value)} {st : List Value}
theorem J_vretN (X : Cx p s m args meth c A G ty cc nL own a0) {S : Type} {post : S → Prop} {w' : S → va_W} {mc ms : Nat} (hr : meth.sig.returnType = none) (u : S) (hd : decode cc pc = .ok (.return_, 1)) (hp : post u) (hw : ws = w' u) : JJ p l e R s m args below meth c A G nL mc ms (QN below args s A G ty post w' mc ms) ws pc lv [] := by
  subst hw
  exact fun H locs ls hP hD hS hl => W.vret X.1 X.2.1 hr (fun t ht hW => ⟨⟨u, rfl, hp, by rw [ht]; exact hP, va_K.moved hW.alike X.2.2.2.2.2.1, hD⟩, hS.F ht⟩) hS.2.2 hd X.2.2.2.2.2.2.1
theorem J_new (X : Cx p s m args meth c A G ty cc nL own a0) {C : String} {T : u_T} {N ci index : Nat} {ty0 : Nat → FieldType} (Y : ClOK ci C T N ty0) (fs : List Value) (ws2 : Nat → va_W) (hcl : Cond.classLink own index C ∈ gW) (hinst : Cond.instantiable C N ∈ gW) (hini : Cond.initialized C ∈ gW) (hfs : ∀ j, j < N → defaultValue (ty0 j) = vp_V fs j) (hc : kc + 1 ≤ R.cells) (hs : ks + N ≤ R.slots) (hd : decode cc pc = .ok (.new index, 3)) (hw : ∀ q, ws ++ [(q, .inr (ci, fs))] = ws2 q)
    (k : ∀ q : Nat, JJ p l e R s m args below meth c A G nL (kc + 1) (ks + N) Q (ws2 q) (pc + 3) lv (.ref q :: st)) : JJ p l e R s m args below meth c A G nL kc ks Q ws pc lv st :=
  fun H locs ls hP hD hS hl => va_new X.1 X.2.1 (fun w h => X.w h) Y.1 ty0 Y.2.2.1 X.2.2.2.1 (X.w hcl) (X.w hinst) (X.w hini) X.2.2.2.2.2.1 hP hD hS X.2.2.2.2.2.2.2 Y.2.1 hfs hc hs hd (fun q H1 h1 h2 h3 => by rw [hw] at h1 h2; exact k q H1 locs ls h1 h2 h3 hl)
theorem J_newa (X : Cx p s m args meth c A G ty cc nL own a0) {atype : ArrayType} {fty : FieldType} {cA : ClassId} {n : Int32} (t0 N : Nat) (ws2 : Nat → va_W) (hty : newarray.typeOf atype = fty) (hd0 : defaultValue fty = .int 0) (hra : ∀ (U : State) (cB : ClassId), va_RA U cB fty = (U.vm.findClass ("[" ++ fty.toString) = some cB)) (ht : ty[t0]? = some (cA, fty)) (harr : Cond.arrayClass fty ∈ gW) (hn : n = nI N) (hN : N < 2147483648) (hb : N * componentBytes fty ≤ 536870912) (hc : kc + 1 ≤ R.cells) (hs : ks + N ≤ R.slots) (hd : decode cc pc = .ok (.newarray atype, 2)) (hw : ∀ q, ws ++ [(q, .inl (cA, N, .inl (fun _ => 0)))] = ws2 q)
    (k : ∀ q : Nat, JJ p l e R s m args below meth c A G nL (kc + 1) (ks + N) Q (ws2 q) (pc + 2) lv (.ref q :: st)) : JJ p l e R s m args below meth c A G nL kc ks Q ws pc lv (.int n :: st) := by
  subst hn
  intro H locs ls hP hD hS hl
  have hK := X.2.2.2.2.2.1
  refine va_newa X.1 X.2.1 (atype := atype) (by rw [hty]; exact X.w harr) hty hK hP hD hS X.2.2.2.2.2.2.2 (a0 := (N, .inl (fun _ => 0))) (fun cB => by rw [hd0]; rfl) (nI_pos hN) (nI_clamp hN) hb hc hs hd (fun q cB H1 hK1 hP1 hD1 hS1 => ?_)
  have e1 := (hK.2 t0 _ ht).2
  have e2 := (hK1.2 ty.length (cB, fty) (by rw [List.getElem?_append_right (Nat.le_refl _), Nat.sub_self]; rfl)).2
  rw [hra] at e1 e2
  have e3 : cB = cA := Option.some.inj (e2.symm.trans e1)
  subst e3
  rw [hw] at hP1 hD1
  exact k q H1 locs ls hP1 hD1 hS1 hl
theorem J_putF (X : Cx p s m args meth c A G ty cc nL own a0) {C : String} {T : u_T} {N ci index a : Nat} {ty0 : Nat → FieldType} {fs : List Value} {v : Value} (hin : meth.name = "<init>") (Y : ClOK ci C T N ty0) (q0 k0 : Nat) (ws2 : va_W) (he : ws[q0]? = some (a, .inr (ci, fs))) (hk : k0 < N) (hlink : Cond.fieldLink own index (T k0).1 (T k0).2.1 (T k0).2.2.1 ∈ gW) (hfin : (T k0).2.2.2 = true) (hdecl : (T k0).1 = own) (hn : narrow (ty0 k0) v = v) (hfit : fits (ty0 k0) v = true) (hl0 : k0 < fs.length) (hw : ws.set q0 (a, .inr (ci, fs.set k0 v)) = ws2) (hd : decode cc pc = .ok (.putfield index, 3)) (k : JJ p l e R s m args below meth c A G nL kc ks Q ws2 (pc + 3) lv st) : JJ p l e R s m args below meth c A G nL kc ks Q ws pc lv (v :: .ref a :: st) :=
  fun H locs ls hP hD hS hl => va_putF (D := G) X.1 X.2.1 (fun w h => X.w h) Y.1 ty0 Y.2.2.1 Y.2.2.2 X.2.2.2.1 X.2.2.2.2.2.1 hP hD hS q0 he Y.2.1 k0 hk (X.w hlink) (fun _ h => h) hfin hin hdecl (Y.2.2.1 k0 hk) hn hfit hl0 hd (fun H1 locs1 h1 h2 h3 => by rw [hw] at h1 h2; exact k H1 locs1 ls h1 h2 h3 hl)
theorem J_oinit (X : Cx p s m args meth c A G ty cc nL own a0) {idx a : Nat} (hlink : Cond.methodLink own idx Lib.objectInit ∈ gW) (hinst : Cond.instanceMethod Lib.objectInit ∈ gW) (hcode : Cond.code Lib.objectInit ⟨#[0xb1]⟩ 1 none ∈ gW) (hf : 1 ≤ R.frames) (hlo : (st.map fun v => v.category).sum + 12 ≤ R.locals) (hd : decode cc pc = .ok (.invokespecial idx, 3)) (k : JJ p l e R s m args below meth c A G nL kc ks Q ws (pc + 3) lv st) : JJ p l e R s m args below meth c A G nL kc ks Q ws pc lv (.ref a :: st) :=
  fun H locs ls hP hD hS hl => W.objInit X.1 X.2.1 X.2.2.2.1 (X.w hlink) (X.w hinst) (X.w hcode) rfl (hl.1.trans X.2.2.1.symm) rfl hd hf (by rw [show (F0 m pc ls (Value.ref a :: st)).monitorRoom = 0 from rfl, Nat.mul_zero, Nat.zero_add]; exact hlo) (k H locs ls hP hD hS hl)
/-- invokespecial of a constructor -/
theorem J_callC (X : Cx p s m args meth c A G ty cc nL own a0) {y : MethodName} {bytes : ByteArray} {maxL n index mc ms : Nat} {rm : Room} {NW : State → Prop} {b : Nat} {As rest : List Value} {wc wr : va_W} {S : Type} {post : S → Prop} {w' : S → va_W} (M : MtC y bytes maxL n) (hl : Cond.methodLink own index y ∈ gW) (isC isR isB : List Nat) (ws2 : S → va_W) (hM : CN l G ty y bytes maxL rm mc ms NW (.ref b :: As) wc post w') (hNB : ∀ (a : Array Value) (U : State) (g : JFrame) (mk : MethodId), NW U → NW (U.calling g mk a)) (hNW : ∀ U : State, s.WarmedH U.vm → NW U) (hR : rm.frames + 1 ≤ R.frames ∧ 8 + (maxL + 11) + rm.locals ≤ R.locals) (hc0 : rm.cells = mc) (hs0 : rm.slots = ms) (hC : isC.map (fun i => ws[i]?) = wc.map some) (hnC : va_nd isC = true) (hr : isR.map (fun i => ws[i]?) = wr.map some) (hnR : va_nd isR = true) (hdis : ∀ i ∈ isR, i ∉ isC) (hB0 : ∀ u, isB.map (fun i => (wr ++ w' u)[i]?) = (ws2 u).map some) (hnB : va_nd isB = true) (hn : As.length = n) (hst : st = As.reverse ++ .ref b :: rest) (hW : (rest.map fun v => v.category).sum ≤ 8) (hkc : kc + mc ≤ R.cells) (hks : ks + ms ≤ R.slots) (hd : decode cc pc = .ok (.invokespecial index, 3))
    (k : ∀ (u : S), post u → JJ p l e R s m args below meth c A G nL (kc + mc) (ks + ms) Q (ws2 u) (pc + 3) lv rest) : JJ p l e R s m args below meth c A G nL kc ks Q ws pc lv st := by
  subst hst
  intro H locs ls hP hD hS hlv
  have hPc := hP.sub isC (fm_of_map hC)
  have hDc := hD.sub isC hnC hC
  have hK := X.2.2.2.2.2.1
  have hFc := va_free (wc := wc) hD hS X.2.2.2.2.2.2.2 isC hC
  refine va_callv (va_runI (As := As) (rest := rest) ⟨X.1, X.2.1, X.2.2.1, X.2.2.2.1, X.2.2.2.2.1⟩ (hM H.size) (cwI n X.2.2.2.2.1 (gd_C a0 M) rfl hc0 hs0 (X.w M.2.1) (X.w hl) (X.w M.1) M.2.2.2.1 M.2.2.2.2 hR) ⟨blind_N hNB, fun U hU hW => ⟨rfl, by rw [hU], by rw [hU]; exact hPc, va_K.moved hW.alike hK, hDc.weaken (fun _ _ _ _ => trivial), hNW U hW⟩⟩ rfl hn hlv.1 rfl (lv_room hW) hd ⟨hkc, hks⟩) hS (fun q _ h => hFc q h) hFc (fun u t H1 locs1 ht hvm hw hB hz1 hk1 hS1 => ?_)
  obtain ⟨hP1, -, hD1⟩ := hB
  rw [ht] at hP1
  obtain ⟨hP2, hD2⟩ := va_join hP hD isC isR hC hr hnR hdis hk1 hFc hP1 hD1
  exact k u hw H1 locs1 ls (hP2.sub isB (fm_of_map (hB0 u))) (hD2.sub isB hnB (hB0 u)) hS1 hlv
/-- the same, of a nest mate -/
theorem J_callCN (X : Cx p s m args meth c A G ty cc nL own a0) {y : MethodName} {host : String} {bytes : ByteArray} {maxL n index mc ms : Nat} {rm : Room} {NW : State → Prop} {b : Nat} {As rest : List Value} {wc wr : va_W} {S : Type} {post : S → Prop} {w' : S → va_W} (M : MtC y bytes maxL n) (hl : va_Nw (.methodLinkNest own index y host) s) (isC isR isB : List Nat) (ws2 : S → va_W) (hM : CN l G ty y bytes maxL rm mc ms NW (.ref b :: As) wc post w') (hNB : ∀ (a : Array Value) (U : State) (g : JFrame) (mk : MethodId), NW U → NW (U.calling g mk a)) (hNW : ∀ U : State, s.WarmedH U.vm → NW U) (hR : rm.frames + 1 ≤ R.frames ∧ 8 + (maxL + 11) + rm.locals ≤ R.locals) (hc0 : rm.cells = mc) (hs0 : rm.slots = ms) (hC : isC.map (fun i => ws[i]?) = wc.map some) (hnC : va_nd isC = true) (hr : isR.map (fun i => ws[i]?) = wr.map some) (hnR : va_nd isR = true) (hdis : ∀ i ∈ isR, i ∉ isC) (hB0 : ∀ u, isB.map (fun i => (wr ++ w' u)[i]?) = (ws2 u).map some) (hnB : va_nd isB = true) (hn : As.length = n) (hst : st = As.reverse ++ .ref b :: rest) (hW : (rest.map fun v => v.category).sum ≤ 8) (hkc : kc + mc ≤ R.cells) (hks : ks + ms ≤ R.slots) (hd : decode cc pc = .ok (.invokespecial index, 3))
    (k : ∀ (u : S), post u → JJ p l e R s m args below meth c A G nL (kc + mc) (ks + ms) Q (ws2 u) (pc + 3) lv rest) : JJ p l e R s m args below meth c A G nL kc ks Q ws pc lv st := by
  subst hst
  intro H locs ls hP hD hS hlv
  have hPc := hP.sub isC (fm_of_map hC)
  have hDc := hD.sub isC hnC hC
  have hK := X.2.2.2.2.2.1
  have hFc := va_free (wc := wc) hD hS X.2.2.2.2.2.2.2 isC hC
  refine va_callv (va_runIN (As := As) (rest := rest) ⟨X.1, X.2.1, X.2.2.1, X.2.2.2.1, X.2.2.2.2.1⟩ (hM H.size) ⟨va_cnB n X.2.2.2.2.1 (gd_C a0 M) rfl hc0 hs0 hl (X.w M.2.1) M.2.2.2.2 hR, M.2.2.2.1, X.w M.1⟩ ⟨blind_N hNB, fun U hU hW => ⟨rfl, by rw [hU], by rw [hU]; exact hPc, va_K.moved hW.alike hK, hDc.weaken (fun _ _ _ _ => trivial), hNW U hW⟩⟩ rfl hn hlv.1 rfl (lv_room hW) hd ⟨hkc, hks⟩) hS (fun q _ h => hFc q h) hFc (fun u t H1 locs1 ht hvm hw hB hz1 hk1 hS1 => ?_)
  obtain ⟨hP1, -, hD1⟩ := hB
  rw [ht] at hP1
  obtain ⟨hP2, hD2⟩ := va_join hP hD isC isR hC hr hnR hdis hk1 hFc hP1 hD1
  exact k u hw H1 locs1 ls (hP2.sub isB (fm_of_map (hB0 u))) (hD2.sub isB hnB (hB0 u)) hS1 hlv
end CT
theorem ra_I (U : State) (cB : ClassId) : va_RA U cB .int = (U.vm.findClass ("[" ++ FieldType.int.toString) = some cB) := rfl
theorem ra_C (U : State) (cB : ClassId) : va_RA U cB .char = (U.vm.findClass ("[" ++ FieldType.char.toString) = some cB) := rfl
theorem ra_Z (U : State) (cB : ClassId) : va_RA U cB .boolean = (U.vm.findClass ("[" ++ FieldType.boolean.toString) = some cB) := rfl
theorem nw_T (a : Array Value) (U : State) (g : JFrame) (mk : MethodId) (h : (fun _ : State => True) U) : (fun _ : State => True) (U.calling g mk a) := trivial
