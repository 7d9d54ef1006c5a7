/-! THE WHOLE LIBRARY: a name of its rest, told first, so that a round knows at once that it is read over all of it -/
theorem mi_wide {t : FieldType} {args : Array Value} {first s : State} {o : Option Outcome} {idx : List Nat} (h : (Cond.arrayOver (.array t)).holds args first o s idx = true) : ∃ comp, s.vm.findClass (FieldType.array t).toString = some comp := by
  obtain ⟨comp, _, _, h1, _⟩ := arrayOver_specB h
  exact ⟨comp, h1⟩
