/-! The street: what is told first is nothing -/
theorem dp_0 {dl dg dh dp dyr hor par_ : Nat → Int32} : dpR 0 0 0 0 0 0 dyr hor par_ (dr0 dl dg dh dp) :=
  ⟨⟨fun _ => rfl, fun _ => rfl⟩, rfl, rfl, rfl, rfl, rfl, fun _ h => absurd h (by omega), fun _ h => absurd h (by omega), fun _ h => absurd h (by omega), rfl⟩
