/-! ===== p48: the classes at the start ===== -/
set_option maxRecDepth 100000 in
theorem uw_0 : ∀ w ∈ u_ws RX0 TX0 2, w ∈ lw_tbl := by decide +kernel
set_option maxRecDepth 100000 in
theorem ui_0 : Cond.instantiable RX0 2 ∈ lw_tbl := by decide +kernel
set_option maxRecDepth 100000 in
theorem uw_1 : ∀ w ∈ u_ws RX1 TX1 1, w ∈ lw_tbl := by decide +kernel
set_option maxRecDepth 100000 in
theorem ui_1 : Cond.instantiable RX1 1 ∈ lw_tbl := by decide +kernel
set_option maxRecDepth 100000 in
theorem uw_2 : ∀ w ∈ u_ws RX2 TX2 5, w ∈ lw_tbl := by decide +kernel
set_option maxRecDepth 100000 in
theorem ui_2 : Cond.instantiable RX2 5 ∈ lw_tbl := by decide +kernel
set_option maxRecDepth 100000 in
theorem uw_3 : ∀ w ∈ u_ws RX3 TX3 4, w ∈ lw_tbl := by decide +kernel
set_option maxRecDepth 100000 in
theorem ui_3 : Cond.instantiable RX3 4 ∈ lw_tbl := by decide +kernel
set_option maxRecDepth 100000 in
theorem uw_4 : ∀ w ∈ u_ws RX4 TX4 2, w ∈ lw_tbl := by decide +kernel
set_option maxRecDepth 100000 in
theorem ui_4 : Cond.instantiable RX4 2 ∈ lw_tbl := by decide +kernel
set_option maxRecDepth 100000 in
theorem uw_5 : ∀ w ∈ u_ws RX5 TX5 5, w ∈ lw_tbl := by decide +kernel
set_option maxRecDepth 100000 in
theorem ui_5 : Cond.instantiable RX5 5 ∈ lw_tbl := by decide +kernel
set_option maxRecDepth 100000 in
theorem uw_6 : ∀ w ∈ u_ws RX7 TX7 8, w ∈ lw_tbl := by decide +kernel
set_option maxRecDepth 100000 in
theorem ui_6 : Cond.instantiable RX7 8 ∈ lw_tbl := by decide +kernel
set_option maxRecDepth 100000 in
theorem uw_7 : ∀ w ∈ u_ws RX8 TX8 3, w ∈ lw_tbl := by decide +kernel
set_option maxRecDepth 100000 in
theorem ui_7 : Cond.instantiable RX8 3 ∈ lw_tbl := by decide +kernel
set_option maxRecDepth 100000 in
theorem uw_8 : ∀ w ∈ u_ws RX9 TX9 7, w ∈ lw_tbl := by decide +kernel
set_option maxRecDepth 100000 in
theorem ui_8 : Cond.instantiable RX9 7 ∈ lw_tbl := by decide +kernel
set_option maxRecDepth 100000 in
theorem uw_9 : ∀ w ∈ u_ws RX10 TX10 4, w ∈ lw_tbl := by decide +kernel
set_option maxRecDepth 100000 in
theorem ui_9 : Cond.instantiable RX10 4 ∈ lw_tbl := by decide +kernel
set_option maxRecDepth 100000 in
theorem uw_10 : ∀ w ∈ u_ws RX11 TX11 5, w ∈ lw_tbl := by decide +kernel
set_option maxRecDepth 100000 in
theorem ui_10 : Cond.instantiable RX11 5 ∈ lw_tbl := by decide +kernel
set_option maxRecDepth 100000 in
theorem uw_11 : ∀ w ∈ u_ws RX12 TX12 6, w ∈ lw_tbl := by decide +kernel
set_option maxRecDepth 100000 in
theorem ui_11 : Cond.instantiable RX12 6 ∈ lw_tbl := by decide +kernel
set_option maxRecDepth 100000 in
theorem uc_I : Cond.arrayClass .int ∈ lw_tbl := by decide +kernel
set_option maxRecDepth 100000 in
theorem uc_A : Cond.arrayOver (.array .int) ∈ lw_tbl := by decide +kernel
set_option maxRecDepth 100000 in
theorem uc_O : ∀ q ∈ mq_na, Cond.arrayOver (.object q) ∈ lw_tbl := by decide +kernel
set_option maxRecDepth 100000 in
theorem uc_nf : ∀ q ∈ mq_nf, Cond.fieldLinkNest q.1 q.2.1 q.2.2.1 q.2.2.2.1 q.2.2.2.2.1 q.2.2.2.2.2 ∈ lw_tbl := by decide +kernel
set_option maxRecDepth 100000 in
theorem uc_nm : ∀ q ∈ mq_nm, Cond.methodLinkNest q.1 q.2.1 q.2.2.1 q.2.2.2 ∈ lw_tbl := by decide +kernel
set_option maxHeartbeats 4000000 in
theorem lb_world {s : State} {args : Array Value} (hts : ∀ w ∈ lw_tbl, w.before args s = true) : ∃ (D : va_G) (cI cF cV cG cA : ClassId), va_K D vwCl [(cI, .int), (cF, .object "OssuaryVault$DeskFile"), (cV, .object "OssuaryVault$Volume"), (cG, .object "OssuaryVault$FoundFile"), (cA, .array .int)] s := by
  obtain ⟨c0, i0, h0⟩ := u_known (C := RX0) (T := TX0) (N := 2) hts uw_0 (hts _ ui_0)
  obtain ⟨c1, i1, h1⟩ := u_known (C := RX1) (T := TX1) (N := 1) hts uw_1 (hts _ ui_1)
  obtain ⟨c2, i2, h2⟩ := u_known (C := RX2) (T := TX2) (N := 5) hts uw_2 (hts _ ui_2)
  obtain ⟨c3, i3, h3⟩ := u_known (C := RX3) (T := TX3) (N := 4) hts uw_3 (hts _ ui_3)
  obtain ⟨c4, i4, h4⟩ := u_known (C := RX4) (T := TX4) (N := 2) hts uw_4 (hts _ ui_4)
  obtain ⟨c5, i5, h5⟩ := u_known (C := RX5) (T := TX5) (N := 5) hts uw_5 (hts _ ui_5)
  obtain ⟨c6, i6, h6⟩ := u_known (C := RX7) (T := TX7) (N := 8) hts uw_6 (hts _ ui_6)
  obtain ⟨c7, i7, h7⟩ := u_known (C := RX8) (T := TX8) (N := 3) hts uw_7 (hts _ ui_7)
  obtain ⟨c8, i8, h8⟩ := u_known (C := RX9) (T := TX9) (N := 7) hts uw_8 (hts _ ui_8)
  obtain ⟨c9, i9, h9⟩ := u_known (C := RX10) (T := TX10) (N := 4) hts uw_9 (hts _ ui_9)
  obtain ⟨c10, i10, h10⟩ := u_known (C := RX11) (T := TX11) (N := 5) hts uw_10 (hts _ ui_10)
  obtain ⟨c11, i11, h11⟩ := u_known (C := RX12) (T := TX12) (N := 6) hts uw_11 (hts _ ui_11)
  obtain ⟨cI, a0⟩ := arr_of (hts _ uc_I) (fun _ h => h)
  obtain ⟨cA, a4⟩ := arrA_of (hts _ uc_A)
  obtain ⟨cF, a1⟩ := arrO_of (hts _ (uc_O "OssuaryVault$DeskFile" (by decide +kernel)))
  obtain ⟨cV, a2⟩ := arrO_of (hts _ (uc_O "OssuaryVault$Volume" (by decide +kernel)))
  obtain ⟨cG, a3⟩ := arrO_of (hts _ (uc_O "OssuaryVault$FoundFile" (by decide +kernel)))
  refine ⟨(fun c => match c with | 0 => c0 | 1 => c1 | 2 => c2 | 3 => c3 | 4 => c4 | 5 => c5 | 6 => c6 | 7 => c7 | 8 => c8 | 9 => c9 | 10 => c10 | _ => c11, fun c => match c with | 0 => i0 | 1 => i1 | 2 => i2 | 3 => i3 | 4 => i4 | 5 => i5 | 6 => i6 | 7 => i7 | 8 => i8 | 9 => i9 | 10 => i10 | _ => i11), cI, cF, cV, cG, cA, fun c q hq => ?_, fun k q hq => ?_⟩
  · have hl : c < 12 := (List.getElem?_eq_some_iff.mp hq).1
    have hc : c = 0 ∨ c = 1 ∨ c = 2 ∨ c = 3 ∨ c = 4 ∨ c = 5 ∨ c = 6 ∨ c = 7 ∨ c = 8 ∨ c = 9 ∨ c = 10 ∨ c = 11 := by omega
    rcases hc with rfl | rfl | rfl | rfl | rfl | rfl | rfl | rfl | rfl | rfl | rfl | rfl
    · obtain rfl : (RX0, TX0, 2) = q := Option.some.inj hq
      exact h0
    · obtain rfl : (RX1, TX1, 1) = q := Option.some.inj hq
      exact h1
    · obtain rfl : (RX2, TX2, 5) = q := Option.some.inj hq
      exact h2
    · obtain rfl : (RX3, TX3, 4) = q := Option.some.inj hq
      exact h3
    · obtain rfl : (RX4, TX4, 2) = q := Option.some.inj hq
      exact h4
    · obtain rfl : (RX5, TX5, 5) = q := Option.some.inj hq
      exact h5
    · obtain rfl : (RX7, TX7, 8) = q := Option.some.inj hq
      exact h6
    · obtain rfl : (RX8, TX8, 3) = q := Option.some.inj hq
      exact h7
    · obtain rfl : (RX9, TX9, 7) = q := Option.some.inj hq
      exact h8
    · obtain rfl : (RX10, TX10, 4) = q := Option.some.inj hq
      exact h9
    · obtain rfl : (RX11, TX11, 5) = q := Option.some.inj hq
      exact h10
    · obtain rfl : (RX12, TX12, 6) = q := Option.some.inj hq
      exact h11
  · have hl : k < 5 := (List.getElem?_eq_some_iff.mp hq).1
    have hc : k = 0 ∨ k = 1 ∨ k = 2 ∨ k = 3 ∨ k = 4 := by omega
    rcases hc with rfl | rfl | rfl | rfl | rfl
    · obtain rfl := Option.some.inj hq
      exact a0
    · obtain rfl := Option.some.inj hq
      exact a1
    · obtain rfl := Option.some.inj hq
      exact a2
    · obtain rfl := Option.some.inj hq
      exact a3
    · obtain rfl := Option.some.inj hq
      exact a4
