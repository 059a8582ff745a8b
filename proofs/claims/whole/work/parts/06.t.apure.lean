section LSWL
variable {p : Program} {l : Launch} {e : Env} {R : Room} {s : State} {m : MethodId} {args : Array Value} {below : List Frame} {meth : Method} {c : Code} {A : Nat → Prop} {G : va_G} {ty : List (ClassId × FieldType)} {cc : ByteArray} {nL kc ks : Nat} {own : String} {a0 : Cond} {Q : State → Prop} {ws ws' : va_W} {pc : Nat} {lv lv' : List (Nat × Value)} {st : List Value}
theorem J_look (X : Cx p s m args meth c A G ty cc nL own a0) {dflt off : Int} {ps : Array (Int × Int)} {len : Nat} {x : Int32} (tgt : Nat) (hd : decode cc pc = .ok (.lookupswitch dflt ps, len)) (hp : (ps.toList.zip (ps.toList.drop 1)).all (fun (a, next) => a.1 < next.1) = true) (ho : Op.lookupswitch.offset ps.toList dflt x.toInt = off) (ht : (pc : Int) + off = (tgt : Int)) (k : JJ p l e R s m args below meth c A G nL kc ks Q ws tgt lv st) : JJ p l e R s m args below meth c A G nL kc ks Q ws pc lv (.int x :: st) :=
  fun H locs ls hP hD hS hl => lv_lookup X.1 X.2.1 hd hp ho ht (k H locs ls hP hD hS hl)
end LSWL
/-- the class's plan that is being read against the reference's draft -/
def dpR (P : Nat) (gr : Int32) (wd g wk : Nat) (fr : Int32) (dyr hor par_ : Nat → Int32) (D : DR) : Prop := (D.1 = 0 ↔ P = 0) ∧ D.2.1 0 = nI P ∧ D.2.1 1 = gr ∧ D.2.1 2 = nI wd ∧ D.2.1 3 = nI g ∧ D.2.1 4 = nI wk ∧ (∀ j, j < g → dyr j = D.2.2.1 j) ∧ (∀ j, j < wk → hor j = D.2.2.2.1 j) ∧ (∀ j, j < wk → par_ j = D.2.2.2.2.1 j) ∧ D.2.2.2.2.2 = fr
section
variable {P wd g wk Pn wdn gn_ wkn k2 : Nat} {gr fr tl grn t2 frn : Int32} {dyr hor par_ dl dg dh dp d2 dyn dg2 dh2 dp2 hon pan : Nat → Int32}
theorem dp_law {W : Prop} (h : dpR P gr wd g wk fr dyr hor par_ (tl, dl, dg, dh, dp, fr)) (h2 : P = 0 ∧ 0 < Pn ∧ 0 < wdn ∧ t2 = 1 ∧ d2 = upd (upd (upd dl 0 (nI Pn)) 1 grn) 2 (nI wdn) ∧ W) : dpR Pn grn wdn g wk fr dyr hor par_ (t2, d2, dg, dh, dp, fr) := by
  obtain ⟨e1, e2, e3, e4, e5, e6, e7, e8, e9, e10⟩ := h
  obtain ⟨_, z2, _, z4, z5, _⟩ := h2
  subst z4; subst z5
  exact ⟨⟨fun z => absurd (show (1 : Int32) = 0 from z) (by decide), fun z => absurd z (by omega)⟩, rfl, rfl, rfl, e5, e6, e7, e8, e9, rfl⟩
theorem dp_gaps (h : dpR P gr wd g wk fr dyr hor par_ (tl, dl, dg, dh, dp, fr)) (h2 : g = 0 ∧ 0 < gn_ ∧ k2 = gn_ ∧ ∀ j, j < gn_ → dyn j = dg2 j) : dpR P gr wd gn_ wk fr dyn hor par_ (tl, upd dl 3 (nI k2), dg2, dh, dp, fr) := by
  obtain ⟨e1, e2, e3, e4, e5, e6, e7, e8, e9, e10⟩ := h
  obtain ⟨_, _, z3, z4⟩ := h2
  subst z3
  exact ⟨e1, e2, e3, e4, rfl, e6, z4, e8, e9, rfl⟩
theorem dp_walk {W : Int32 → Int32 → Prop} (h : dpR P gr wd g wk fr dyr hor par_ (tl, dl, dg, dh, dp, fr)) (h2 : wkn = wk + 1 ∧ k2 = wk + 1 ∧ ∃ x y : Int32, dh2 = upd dh wk x ∧ dp2 = upd dp wk y ∧ hon = upd hor wk x ∧ pan = upd par_ wk y ∧ W x y) : dpR P gr wd g wkn fr dyr hon pan (tl, upd dl 4 (nI k2), dg, dh2, dp2, fr) := by
  obtain ⟨e1, e2, e3, e4, e5, e6, e7, e8, e9, e10⟩ := h
  obtain ⟨z1, z2, x, y, z3, z4, z5, z6, _⟩ := h2
  subst z1; subst z2; subst z3; subst z4; subst z5; subst z6
  exact ⟨e1, e2, e3, e4, e5, rfl, e7, upd_rel e8 rfl, upd_rel e9 rfl, rfl⟩
theorem dp_rope (h : dpR P gr wd g wk fr dyr hor par_ (tl, dl, dg, dh, dp, fr)) (h2 : frn = t2) : dpR P gr wd g wk frn dyr hor par_ (tl, dl, dg, dh, dp, t2) := by
  obtain ⟨e1, e2, e3, e4, e5, e6, e7, e8, e9, e10⟩ := h
  exact ⟨e1, e2, e3, e4, e5, e6, e7, e8, e9, h2.symm⟩
end
