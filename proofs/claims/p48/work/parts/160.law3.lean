/-! ===== p48: the start ===== -/
theorem arr_of {ty : FieldType} {s : State} {args : Array Value} (h : (Cond.arrayClass ty).before args s = true) (hR : ∀ cA : ClassId, s.vm.findClass ("[" ++ ty.toString) = some cA → va_RA s cA ty) : ∃ cA : ClassId, ArrOfT s cA ty ∧ va_RA s cA ty := by
  obtain ⟨c, k, comp, h1, h2, h3⟩ := Cond.arrayClass_spec h
  exact ⟨c, fun n z => ⟨fun k h => (by cases h), k, h2, comp, h3⟩, hR c h1⟩
theorem arrO_of {C : String} {s : State} {args : Array Value} (h : (Cond.arrayOver (.object C)).before args s = true) : ∃ cA : ClassId, ArrOfT s cA (.object C) ∧ va_RA s cA (.object C) := by
  obtain ⟨comp, c, k, h1, h2, h3, h4, h5⟩ := Cond.arrayOver_spec h
  exact ⟨c, fun n z => ⟨fun k h => (by cases h), k, h3, comp, h4⟩, k, comp, h3, h4, h1, h5⟩
theorem arrA_of {s : State} {args : Array Value} (h : (Cond.arrayOver (.array .int)).before args s = true) : ∃ cA : ClassId, ArrOfT s cA (.array .int) ∧ va_RA s cA (.array .int) := by
  obtain ⟨comp, c, k, h1, h2, h3, h4, h5⟩ := arrayOverA_spec h
  exact ⟨c, fun n z => ⟨fun k h => (by cases h), k, h3, comp, h4⟩, h5⟩
/-- what stands of the old part, at the start and behind -/
theorem pq_start {s : State} {args : Array Value} {b n : Nat} {xs : Nat → Int32} (hb : b < s.heap.size) (hX : va_X b n xs s s.heap) (hAA : (Cond.arrayOver (.array .int)).before args s = true) {ys : List (ClassId × FieldType)} : mq_Sx (ys, pq_old b n xs) s.heap.size s := by
  intro U2 H1 hW hH
  obtain ⟨scr, x1, x2, x3⟩ := hX
  exact ⟨⟨hb, scr, (hH b hb).trans x1, State.isArrayOf_alike hW.alike x2, x3⟩, mq_AA.moved hW.alike (show mq_AA .int s from hAA)⟩
