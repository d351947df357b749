/-! ===== p1: the vault across cells that are new ===== -/
theorem vI.k0 {G : mq_G} {M M' : mq_M} {La : Nat → Nat} {sh : List Nat} {k : vtD} {h : Nat → Bool} {d : Nat → List Nat} {r : vtR} (hv : vtI G M La sh k h d r) (hK : iq_Z M M') : vtI G M' La sh k h d r := by
  obtain ⟨h1, h2, h3, h4, ⟨ds, h5⟩, ⟨pf, h6, h61, ⟨f6, h62, h63⟩, h64⟩, ⟨pv, vd, ld, mb, nu, ho, h7, h71, ⟨f7, h72, h73⟩, ⟨f8, h74, h75⟩, ⟨f9, h76, h77⟩, h78⟩, ⟨mt, cho, ⟨h81, h82, f10, h83, h84⟩, h85⟩, ⟨h91, h92, ⟨f11, h93, h94⟩, h95⟩, h96⟩ := hv
  have e : ∀ {a : Nat} {x : va_E}, M a = some x → M' a = some x := fun hx => (hK _ (iq_some hx)).trans hx
  exact ⟨e h1, h2.k0 hK, h3.k0 hK, h4.k0 hK, ⟨ds, h5.k0 hK⟩, ⟨pf, h6, e h61, ⟨f6, e h62, h63⟩, fun i hi => dfI.k0 (h64 i hi) hK⟩, ⟨pv, vd, ld, mb, nu, ho, h7, e h71, ⟨f7, e h72, h73⟩, ⟨f8, e h74, h75⟩, ⟨f9, e h76, h77⟩, fun i hi => voI.k0 (h78 i hi) hK⟩, ⟨mt, cho, ⟨e h81, h82.k0 hK, f10, e h83, h84⟩, h85⟩, ⟨e h91, h92.k0 hK, ⟨f11, e h93, h94⟩, fun i hi => ffI.k0 (h95 i hi) hK⟩, h96⟩
/-- the vault as its constructor leaves it -/
theorem vF.mk {G : mq_G} {M2 : mq_M} {La : Nat → Nat} (h1 : vtO M2 La) (h2 : ckI G M2 (La 1) (La 2)) (h3 : fdI G M2 (La 3) (La 4) (La 5)) (h4 : bI G M2 (La 7) (La 8) 240 [] ∧ bI G M2 (La 9) (La 10) 4070 [] ∧ dkI G M2 La (fun i => i) 0 (fun _ => 0) (fun _ => []) (fun _ => []) (fun _ => 0)) (h5 : shI G M2 La (fun i => i) (fun _ => false) (fun _ => []) (fun _ => 0) 0 0 (fun _ => 0) (fun _ => 0)) (h6 : rcI G M2 La [] (fun _ => 0)) (h7 : rdI G M2 La false 0 0 false 0 [] (fun _ => []) (fun _ => 0) (fun _ => 0) (fun _ => 0) (fun _ => false)) : vF G M2 La :=
  ⟨h1, h2, h3, h4.1, ⟨[], h4.2.1⟩, ⟨fun i => i, ⟨fun _ h => h, fun _ _ _ _ h => h, Nat.zero_le _, fun i hi => absurd hi (Nat.not_lt_zero _), fun i j _ hj => absurd hj (Nat.not_lt_zero _)⟩, h4.2.2⟩, ⟨fun i => i, fun _ => 0, 0, 0, fun _ => 0, fun _ => 0, ⟨fun _ h => h, fun _ _ _ _ h => h, fun _ _ => Or.inl rfl⟩, h5⟩, ⟨[], fun _ => 0, h6, fun _ _ => (show (0 : Nat) < 100 by decide)⟩, h7, fun _ _ => ⟨(show (-10 : Int) ≤ 0 ∧ (0 : Int) < 1000000 by decide), (show (-10 : Int) ≤ 0 ∧ (0 : Int) < 1000000 by decide), (show (-10 : Int) ≤ 0 ∧ (0 : Int) < 1000000 by decide)⟩, by decide⟩
theorem vault_nn {G : mq_G} {M2 : mq_M} {La : Nat → Nat} (h1 : vtO M2 La) (h2 : ckI G M2 (La 1) (La 2)) (h3 : fdI G M2 (La 3) (La 4) (La 5)) (h4 : bI G M2 (La 7) (La 8) 240 [] ∧ bI G M2 (La 9) (La 10) 4070 [] ∧ dkI G M2 La (fun i => i) 0 (fun _ => 0) (fun _ => []) (fun _ => []) (fun _ => 0)) (h5 : shI G M2 La (fun i => i) (fun _ => false) (fun _ => []) (fun _ => 0) 0 0 (fun _ => 0) (fun _ => 0)) (h6 : rcI G M2 La [] (fun _ => 0)) (h7 : rdI G M2 La false 0 0 false 0 [] (fun _ => []) (fun _ => 0) (fun _ => 0) (fun _ => 0) (fun _ => false)) : ∀ r, r < 275 → M2 (La r) ≠ none := by
  obtain ⟨g1, g2, f1, g3, -⟩ := h2
  obtain ⟨g4, -, -, -, ⟨f2, g5, -⟩, f3, g6, -⟩ := h3
  obtain ⟨b1, b2, g7, ⟨f4, g8, -⟩, g9⟩ := h4
  obtain ⟨g10, ⟨f5, g11, -⟩, ⟨f6, g12, -⟩, ⟨f7, g13, -⟩, g14⟩ := h5
  obtain ⟨g15, b3, f8, g16, -⟩ := h6
  obtain ⟨g17, b4, ⟨f9, g18, -⟩, g19⟩ := h7
  intro r hr
  by_cases c1 : r < 24
  · have hq : r = 0 ∨ r = 1 ∨ r = 2 ∨ r = 3 ∨ r = 4 ∨ r = 5 ∨ r = 6 ∨ r = 7 ∨ r = 8 ∨ r = 9 ∨ r = 10 ∨ r = 11 ∨ r = 12 ∨ r = 13 ∨ r = 14 ∨ r = 15 ∨ r = 16 ∨ r = 17 ∨ r = 18 ∨ r = 19 ∨ r = 20 ∨ r = 21 ∨ r = 22 ∨ r = 23 := by omega
    rcases hq with rfl | rfl | rfl | rfl | rfl | rfl | rfl | rfl | rfl | rfl | rfl | rfl | rfl | rfl | rfl | rfl | rfl | rfl | rfl | rfl | rfl | rfl | rfl | rfl
    · exact iq_some h1
    · exact iq_some g1
    · exact iq_some g3
    · exact iq_some g4
    · exact iq_some g5
    · exact iq_some g6
    · exact iq_some g7
    · exact b1.nn.1
    · exact b1.nn.2
    · exact b2.nn.1
    · exact b2.nn.2
    · exact iq_some g8
    · exact iq_some g10
    · exact iq_some g11
    · exact iq_some g12
    · exact iq_some g13
    · exact iq_some g15
    · exact b3.nn.1
    · exact b3.nn.2
    · exact iq_some g16
    · exact iq_some g17
    · exact b4.nn.1
    · exact b4.nn.2
    · exact iq_some g18
  by_cases c2 : r < 104
  · obtain ⟨k1, k2, k3⟩ := g9 ((r - 24) / 5) (by omega)
    have hq : r = 24 + 5 * ((r - 24) / 5) ∨ r = 25 + 5 * ((r - 24) / 5) ∨ r = 26 + 5 * ((r - 24) / 5) ∨ r = 27 + 5 * ((r - 24) / 5) ∨ r = 28 + 5 * ((r - 24) / 5) := by omega
    rcases hq with e | e | e | e | e <;> rw [e]
    · exact iq_some k1
    · exact k2.nn.1
    · exact k2.nn.2
    · exact k3.nn.1
    · exact k3.nn.2
  by_cases c3 : r < 155
  · obtain ⟨k1, k2⟩ := g14 ((r - 104) / 3) (by omega)
    have hq : r = 104 + 3 * ((r - 104) / 3) ∨ r = 105 + 3 * ((r - 104) / 3) ∨ r = 106 + 3 * ((r - 104) / 3) := by omega
    rcases hq with e | e | e <;> rw [e]
    · exact iq_some k1
    · exact k2.nn.1
    · exact k2.nn.2
  · obtain ⟨k1, k2⟩ := g19 ((r - 155) / 3) (by omega)
    have hq : r = 155 + 3 * ((r - 155) / 3) ∨ r = 156 + 3 * ((r - 155) / 3) ∨ r = 157 + 3 * ((r - 155) / 3) := by omega
    rcases hq with e | e | e <;> rw [e]
    · exact iq_some k1
    · exact k2.nn.1
    · exact k2.nn.2
/-! ===== p1: the start ===== -/
theorem arr_of {ty : FieldType} {s : State} {args : Array Value} (h : (Cond.arrayClass ty).before args s = true) (hR : ∀ cA : ClassId, s.vm.findClass ("[" ++ ty.toString) = some cA → va_RA s cA ty) : ∃ cA : ClassId, ArrOfT s cA ty ∧ va_RA s cA ty := by
  obtain ⟨c, k, comp, h1, h2, h3⟩ := Cond.arrayClass_spec h
  exact ⟨c, fun n z => ⟨fun k h => (by cases h), k, h2, comp, h3⟩, hR c h1⟩
theorem arrO_of {C : String} {s : State} {args : Array Value} (h : (Cond.arrayOver (.object C)).before args s = true) : ∃ cA : ClassId, ArrOfT s cA (.object C) ∧ va_RA s cA (.object C) := by
  obtain ⟨comp, c, k, h1, h2, h3, h4, h5⟩ := Cond.arrayOver_spec h
  exact ⟨c, fun n z => ⟨fun k h => (by cases h), k, h3, comp, h4⟩, k, comp, h3, h4, h1, h5⟩
theorem arrA_of {s : State} {args : Array Value} (h : (Cond.arrayOver (.array .int)).before args s = true) : ∃ cA : ClassId, ArrOfT s cA (.array .int) ∧ va_RA s cA (.array .int) := by
  obtain ⟨comp, c, k, h1, h2, h3, h4, h5⟩ := arrayOverA_spec h
  exact ⟨c, fun n z => ⟨fun k h => (by cases h), k, h3, comp, h4⟩, h5⟩
/-- what stands of the old part, at the start and behind -/
theorem pp_start {s : State} {args : Array Value} {b n : Nat} {xs : Nat → Int32} (hb : b < s.heap.size) (hX : va_X b n xs s s.heap) (hAA : (Cond.arrayOver (.array .int)).before args s = true) (hbad : ∀ w ∈ pp_bad, w.before args s = true)
    (hl1 : (Cond.laysStatic Bundle.tN "UNASSIGNED_STACK" Bundle.steD).before args s = true) (hl2 : (Cond.laysStatic Bundle.tN "SUPPRESSED_SENTINEL" Bundle.listD).before args s = true) (hini : (Cond.initialized Bundle.tN).before args s = true)
    (hr1 : (Cond.isRef (.static Bundle.tN "UNASSIGNED_STACK" Bundle.steD)).before args s = true) (hr2 : (Cond.isRef (.static Bundle.tN "SUPPRESSED_SENTINEL" Bundle.listD)).before args s = true)
    (hs1 : ∀ q ∈ pp_str, (Cond.stringRef RX11 q.1 q.2).before args s = true) (hs2 : ∀ q ∈ pp_str, (Cond.exactly (.string RX11 q.1) "java/lang/String").before args s = true) (hnc : ∀ q ∈ pp_nc, (Cond.not (.castable q.1 q.2)).before args s = true)
    {ys : List (ClassId × FieldType)} : mq_Sx (ys, pp_old b n xs) s.heap.size s := by
  intro U2 H1 hW hH
  obtain ⟨scr, x1, x2, x3⟩ := hX
  have hA : ∀ a : Nat, a < s.heap.size → ¬ s.heap.size ≤ a := fun a h1 h2 => absurd h1 (Nat.not_lt.mpr h2)
  refine ⟨⟨hb, scr, (hH b hb).trans x1, State.isArrayOf_alike hW.alike x2, x3⟩, mq_AA.moved hW.alike (show mq_AA .int s from hAA), pp_bad_moved hW (fun w hw => va_Nw.of (pp_badT w hw) (hbad w hw)), ?_, ?_, fun q hq => ?_, fun q hq => va_Nc.moved hW.alike (va_Nc.of (hnc q hq))⟩
  · exact vx_Zq.kept (vx_Zq.moved hW.alike (vx_Zqof hl1 hini hr1 hA)) (fun a ha _ => hH a ha)
  · exact vx_Zq.kept (vx_Zq.moved hW.alike (vx_Zqof hl2 hini hr2 hA)) (fun a ha _ => hH a ha)
  · obtain ⟨a, c, cell, k, h1, -⟩ := Cond.exactly_spec (hs2 q hq)
    exact ⟨a, vk_R.warm hW (vk_R.of (hs1 q hq) h1)⟩
