set_option maxHeartbeats 4000000 in
set_option maxRecDepth 100000 in
theorem c_Volume_init (l : Launch) (G : mq_G) (x ch : Nat) (M : mq_M) (hM : M x = some (.inr (9, [.null, .null, .int 0, .int 0]))) : mq_T l yX10_init wsX10_init { frames := 2, cells := 2, slots := 4082, locals := 33 } G [.ref x, .ref ch] M (mq_pv (fun M2 => ∃ b a : Nat, M b = none ∧ M a = none ∧ [x, b, a].Nodup ∧ voI G M2 x ch b a false [] 0 ∧ iq_K x M M2)) 2 4082 := by
  refine mq_Met.of (cc := cX10_init) (maxL := 2) (ret := none) (by decide) rfl (Nat.le_of_ble_eq_true rfl) rfl rfl ?_
  intro p_ e_ s_ m_ args_ below_ meth_ c_ z_ C hr hlk hname
  refine xr_aload_n C dX10_init_0 rfl ?_
  refine xr_objI C (C.1.2.2.2.2 (.methodLink RX10 3 objectInit) (by decide +kernel)) (C.1.2.2.2.2 (.instanceMethod objectInit) (by decide +kernel)) (C.1.2.2.2.2 (.code objectInit ⟨#[0xb1]⟩ 1 none) (by decide +kernel)) (Nat.le_of_ble_eq_true rfl) (Nat.le_of_ble_eq_true rfl) dX10_init_1 ?_
  refine xr_aload_n C dX10_init_4 rfl ?_
  refine xr_new C (ci := 0) (fs := [.null, .int 0]) (Cn := RX0) (T := TX0) (N := 2) (by decide +kernel) tyX0 tyX0_ok (C.1.2.2.2.2 (.classLink RX10 9 RX0) (by decide +kernel)) (C.1.2.2.2.2 (.instantiable RX0 2) (by decide +kernel)) (C.1.2.2.2.2 (.initialized RX0) (by decide +kernel)) rfl (fun j hj => by rcases (show j = 0 ∨ j = 1 by omega) with rfl | rfl <;> rfl) (by dsimp only; omega) (by dsimp only; omega) dX10_init_5 (fun q1 hq1 => ?_)
  refine mq_ren (fun M2 hM2 => ?_)
  have hZ1 : M2 q1 = some (.inr (0, [.null, .int 0])) := by rw [hM2, mq_up_s]
  refine xr_dup C dX10_init_8 rfl ?_
  refine xr_sipush (n := 4080) C dX10_init_9 (by decide +kernel) ?_
  refine xr_callI1 C (c_Bytes_init l G q1 M2 hZ1 4080 (by decide)) (cwI 1 C.1.2.2.2.2 gX10_init_X0_init rfl rfl rfl (C.1.2.2.2.2 (.initialized RX0) (by decide +kernel)) (C.1.2.2.2.2 (.methodLink RX10 11 yX0_init) (by decide +kernel)) (C.1.2.2.2.2 (.instanceMethod yX0_init) (by decide +kernel)) rfl (by decide +kernel) ⟨Nat.le_of_ble_eq_true rfl, Nat.le_of_ble_eq_true rfl⟩) (Nat.le_of_ble_eq_true rfl) ⟨by dsimp only; omega, by dsimp only; omega⟩ dX10_init_12 (fun N1 hp1 => ?_)
  obtain ⟨a1, ha1, hB1, hF1⟩ := hp1
  obtain ⟨hK1, hA1, hn1⟩ := iq_Z.bytes hq1 hM2 ha1 hF1
  have hx1 := (hK1 x (iq_some hM)).trans hM
  have nq : x ≠ q1 := iq_nx (iq_some hM) hq1
  have na : x ≠ a1 := iq_nx (iq_some hM) hA1
  refine xr_putF C (Cn := RX10) (T := TX10) (N := 4) (by decide +kernel) hx1 rfl 1 (by decide) tyX10 tyX10_ok nmX10 (C.1.2.2.2.2 (.fieldLink RX10 14 "OssuaryVault$Volume" "bytes" "LOssuaryVault$Bytes;") (by decide +kernel)) (fun _ h => h) rfl hname rfl (tyX10_ok 1 (by decide)) rfl rfl (Nat.le_of_ble_eq_true rfl) dX10_init_15 ?_
  refine mq_ren (fun M3 hM3 => ?_)
  have hx2 : M3 x = some (.inr (9, [.null, .ref q1, .int 0, .int 0])) := by rw [hM3, mq_up_s]; rfl
  refine xr_aload_n C dX10_init_18 rfl ?_
  refine xr_aload_n C dX10_init_19 rfl ?_
  refine xr_putF C (Cn := RX10) (T := TX10) (N := 4) (by decide +kernel) hx2 rfl 0 (by decide) tyX10 tyX10_ok nmX10 (C.1.2.2.2.2 (.fieldLink RX10 20 "OssuaryVault$Volume" "check" "LOssuaryVault$Check;") (by decide +kernel)) (fun _ h => h) rfl hname rfl (tyX10_ok 0 (by decide)) rfl rfl (Nat.le_of_ble_eq_true rfl) dX10_init_20 ?_
  refine mq_ren (fun M4 hM4 => ?_)
  have hx3 : M4 x = some (.inr (9, [.ref ch, .ref q1, .int 0, .int 0])) := by rw [hM4, mq_up_s]; rfl
  exact xr_vret C hr hlk ⟨rfl, q1, a1, hq1, hA1, by simp [nq, na, Ne.symm hn1], ⟨hx3, (hB1.up hM3 nq na).up hM4 nq na⟩, ((hK1.K x).up hM3).up hM4⟩ (by omega) (by omega) dX10_init_23
set_option maxHeartbeats 4000000 in
set_option maxRecDepth 100000 in
theorem c_FoundFile_init (l : Launch) (G : mq_G) (x : Nat) (M : mq_M) (hM : M x = some (.inr (5, [.null, .int 0, .int 0, .int 0, .int 0]))) : mq_T l yX5_init wsX5_init { frames := 2, cells := 2, slots := 242, locals := 33 } G [.ref x] M (mq_pv (fun M2 => ∃ b a : Nat, M b = none ∧ M a = none ∧ [x, b, a].Nodup ∧ ffI G M2 x b a [] 0 0 0 false ∧ iq_K x M M2)) 2 242 := by
  refine mq_Met.of (cc := cX5_init) (maxL := 1) (ret := none) (by decide) rfl (Nat.le_of_ble_eq_true rfl) rfl rfl ?_
  intro p_ e_ s_ m_ args_ below_ meth_ c_ z_ C hr hlk hname
  refine xr_aload_n C dX5_init_0 rfl ?_
  refine xr_objI C (C.1.2.2.2.2 (.methodLink RX5 3 objectInit) (by decide +kernel)) (C.1.2.2.2.2 (.instanceMethod objectInit) (by decide +kernel)) (C.1.2.2.2.2 (.code objectInit ⟨#[0xb1]⟩ 1 none) (by decide +kernel)) (Nat.le_of_ble_eq_true rfl) (Nat.le_of_ble_eq_true rfl) dX5_init_1 ?_
  refine xr_aload_n C dX5_init_4 rfl ?_
  refine xr_new C (ci := 0) (fs := [.null, .int 0]) (Cn := RX0) (T := TX0) (N := 2) (by decide +kernel) tyX0 tyX0_ok (C.1.2.2.2.2 (.classLink RX5 9 RX0) (by decide +kernel)) (C.1.2.2.2.2 (.instantiable RX0 2) (by decide +kernel)) (C.1.2.2.2.2 (.initialized RX0) (by decide +kernel)) rfl (fun j hj => by rcases (show j = 0 ∨ j = 1 by omega) with rfl | rfl <;> rfl) (by dsimp only; omega) (by dsimp only; omega) dX5_init_5 (fun q1 hq1 => ?_)
  refine mq_ren (fun M2 hM2 => ?_)
  have hZ1 : M2 q1 = some (.inr (0, [.null, .int 0])) := by rw [hM2, mq_up_s]
  refine xr_dup C dX5_init_8 rfl ?_
  refine xr_sipush (n := 240) C dX5_init_9 (by decide +kernel) ?_
  refine xr_callI1 C (c_Bytes_init l G q1 M2 hZ1 240 (by decide)) (cwI 1 C.1.2.2.2.2 gX5_init_X0_init rfl rfl rfl (C.1.2.2.2.2 (.initialized RX0) (by decide +kernel)) (C.1.2.2.2.2 (.methodLink RX5 11 yX0_init) (by decide +kernel)) (C.1.2.2.2.2 (.instanceMethod yX0_init) (by decide +kernel)) rfl (by decide +kernel) ⟨Nat.le_of_ble_eq_true rfl, Nat.le_of_ble_eq_true rfl⟩) (Nat.le_of_ble_eq_true rfl) ⟨by dsimp only; omega, by dsimp only; omega⟩ dX5_init_12 (fun N1 hp1 => ?_)
  obtain ⟨a1, ha1, hB1, hF1⟩ := hp1
  obtain ⟨hK1, hA1, hn1⟩ := iq_Z.bytes hq1 hM2 ha1 hF1
  have hx1 := (hK1 x (iq_some hM)).trans hM
  have nq : x ≠ q1 := iq_nx (iq_some hM) hq1
  have na : x ≠ a1 := iq_nx (iq_some hM) hA1
  refine xr_putF C (Cn := RX5) (T := TX5) (N := 5) (by decide +kernel) hx1 rfl 0 (by decide) tyX5 tyX5_ok nmX5 (C.1.2.2.2.2 (.fieldLink RX5 14 "OssuaryVault$FoundFile" "content" "LOssuaryVault$Bytes;") (by decide +kernel)) (fun _ h => h) rfl hname rfl (tyX5_ok 0 (by decide)) rfl rfl (Nat.le_of_ble_eq_true rfl) dX5_init_15 ?_
  refine mq_ren (fun M3 hM3 => ?_)
  have hx2 : M3 x = some (.inr (5, [.ref q1, .int 0, .int 0, .int 0, .int 0])) := by rw [hM3, mq_up_s]; rfl
  exact xr_vret C hr hlk ⟨rfl, q1, a1, hq1, hA1, by simp [nq, na, Ne.symm hn1], ⟨hx2, hB1.up hM3 nq na⟩, (hK1.K x).up hM3⟩ (by omega) (by omega) dX5_init_18
set_option maxHeartbeats 4000000 in
set_option maxRecDepth 100000 in
theorem c_DeskFile_init (l : Launch) (G : mq_G) (x : Nat) (M : mq_M) (hM : M x = some (.inr (3, [.null, .null, .int 0, .int 0]))) : mq_T l yX3_init wsX3_init { frames := 2, cells := 4, slots := 486, locals := 33 } G [.ref x] M (mq_pv (fun M2 => ∃ b a b2 a2 : Nat, (M b = none ∧ M a = none ∧ M b2 = none ∧ M a2 = none) ∧ [x, b, a, b2, a2].Nodup ∧ dfI G M2 x b a b2 a2 0 [] [] 0 ∧ iq_K x M M2)) 4 486 := by
  refine mq_Met.of (cc := cX3_init) (maxL := 1) (ret := none) (by decide) rfl (Nat.le_of_ble_eq_true rfl) rfl rfl ?_
  intro p_ e_ s_ m_ args_ below_ meth_ c_ z_ C hr hlk hname
  refine xr_aload_n C dX3_init_0 rfl ?_
  refine xr_objI C (C.1.2.2.2.2 (.methodLink RX3 3 objectInit) (by decide +kernel)) (C.1.2.2.2.2 (.instanceMethod objectInit) (by decide +kernel)) (C.1.2.2.2.2 (.code objectInit ⟨#[0xb1]⟩ 1 none) (by decide +kernel)) (Nat.le_of_ble_eq_true rfl) (Nat.le_of_ble_eq_true rfl) dX3_init_1 ?_
  refine xr_aload_n C dX3_init_4 rfl ?_
  refine xr_new C (ci := 0) (fs := [.null, .int 0]) (Cn := RX0) (T := TX0) (N := 2) (by decide +kernel) tyX0 tyX0_ok (C.1.2.2.2.2 (.classLink RX3 9 RX0) (by decide +kernel)) (C.1.2.2.2.2 (.instantiable RX0 2) (by decide +kernel)) (C.1.2.2.2.2 (.initialized RX0) (by decide +kernel)) rfl (fun j hj => by rcases (show j = 0 ∨ j = 1 by omega) with rfl | rfl <;> rfl) (by dsimp only; omega) (by dsimp only; omega) dX3_init_5 (fun q1 hq1 => ?_)
  refine mq_ren (fun M2 hM2 => ?_)
  have hZ1 : M2 q1 = some (.inr (0, [.null, .int 0])) := by rw [hM2, mq_up_s]
  refine xr_dup C dX3_init_8 rfl ?_
  refine xr_sipush (n := 240) C dX3_init_9 (by decide +kernel) ?_
  refine xr_callI1 C (c_Bytes_init l G q1 M2 hZ1 240 (by decide)) (cwI 1 C.1.2.2.2.2 gX3_init_X0_init rfl rfl rfl (C.1.2.2.2.2 (.initialized RX0) (by decide +kernel)) (C.1.2.2.2.2 (.methodLink RX3 11 yX0_init) (by decide +kernel)) (C.1.2.2.2.2 (.instanceMethod yX0_init) (by decide +kernel)) rfl (by decide +kernel) ⟨Nat.le_of_ble_eq_true rfl, Nat.le_of_ble_eq_true rfl⟩) (Nat.le_of_ble_eq_true rfl) ⟨by dsimp only; omega, by dsimp only; omega⟩ dX3_init_12 (fun N1 hp1 => ?_)
  obtain ⟨a1, ha1, hB1, hF1⟩ := hp1
  obtain ⟨hK1, hA1, hn1⟩ := iq_Z.bytes hq1 hM2 ha1 hF1
  have hx1 := (hK1 x (iq_some hM)).trans hM
  have nq : x ≠ q1 := iq_nx (iq_some hM) hq1
  have na : x ≠ a1 := iq_nx (iq_some hM) hA1
  refine xr_putF C (Cn := RX3) (T := TX3) (N := 4) (by decide +kernel) hx1 rfl 0 (by decide) tyX3 tyX3_ok nmX3 (C.1.2.2.2.2 (.fieldLink RX3 14 "OssuaryVault$DeskFile" "content" "LOssuaryVault$Bytes;") (by decide +kernel)) (fun _ h => h) rfl hname rfl (tyX3_ok 0 (by decide)) rfl rfl (Nat.le_of_ble_eq_true rfl) dX3_init_15 ?_
  refine mq_ren (fun M3 hM3 => ?_)
  have hx2 : M3 x = some (.inr (3, [.ref q1, .null, .int 0, .int 0])) := by rw [hM3, mq_up_s]; rfl
  have hB1b := hB1.up hM3 nq na
  have K2 := (hK1.K x).up hM3
  refine xr_aload_n C dX3_init_18 rfl ?_
  refine xr_new C (ci := 0) (fs := [.null, .int 0]) (Cn := RX0) (T := TX0) (N := 2) (by decide +kernel) tyX0 tyX0_ok (C.1.2.2.2.2 (.classLink RX3 9 RX0) (by decide +kernel)) (C.1.2.2.2.2 (.instantiable RX0 2) (by decide +kernel)) (C.1.2.2.2.2 (.initialized RX0) (by decide +kernel)) rfl (fun j hj => by rcases (show j = 0 ∨ j = 1 by omega) with rfl | rfl <;> rfl) (by dsimp only; omega) (by dsimp only; omega) dX3_init_19 (fun q4 hq4 => ?_)
  refine mq_ren (fun M5 hM5 => ?_)
  have hZ3 : M5 q4 = some (.inr (0, [.null, .int 0])) := by rw [hM5, mq_up_s]
  refine xr_dup C dX3_init_22 rfl ?_
  refine xr_sipush (n := 242) C dX3_init_23 (by decide +kernel) ?_
  refine xr_callI1 C (c_Bytes_init l G q4 M5 hZ3 242 (by decide)) (cwI 1 C.1.2.2.2.2 gX3_init_X0_init rfl rfl rfl (C.1.2.2.2.2 (.initialized RX0) (by decide +kernel)) (C.1.2.2.2.2 (.methodLink RX3 11 yX0_init) (by decide +kernel)) (C.1.2.2.2.2 (.instanceMethod yX0_init) (by decide +kernel)) rfl (by decide +kernel) ⟨Nat.le_of_ble_eq_true rfl, Nat.le_of_ble_eq_true rfl⟩) (Nat.le_of_ble_eq_true rfl) ⟨by dsimp only; omega, by dsimp only; omega⟩ dX3_init_26 (fun N3 hp3 => ?_)
  obtain ⟨a3, ha3, hB3, hF3⟩ := hp3
  obtain ⟨hK3, hA3, hn3⟩ := iq_Z.bytes hq4 hM5 ha3 hF3
  have hx3 := (hK3 x (iq_some hx2)).trans hx2
  have mq3 := K2.nil (iq_some hx2) hq4
  have ma3 := K2.nil (iq_some hx2) hA3
  have n1 : q1 ≠ q4 := iq_nx hB1b.nn.1 hq4
  have n2 : q1 ≠ a3 := iq_nx hB1b.nn.1 hA3
  have n3 : a1 ≠ q4 := iq_nx hB1b.nn.2 hq4
  have n4 : a1 ≠ a3 := iq_nx hB1b.nn.2 hA3
  have n5 : x ≠ q4 := iq_nx (iq_some hM) mq3
  have n6 : x ≠ a3 := iq_nx (iq_some hM) ma3
  have hB1c := hB1b.k0 hK3
  refine xr_putF C (Cn := RX3) (T := TX3) (N := 4) (by decide +kernel) hx3 rfl 1 (by decide) tyX3 tyX3_ok nmX3 (C.1.2.2.2.2 (.fieldLink RX3 20 "OssuaryVault$DeskFile" "packed" "LOssuaryVault$Bytes;") (by decide +kernel)) (fun _ h => h) rfl hname rfl (tyX3_ok 1 (by decide)) rfl rfl (Nat.le_of_ble_eq_true rfl) dX3_init_29 ?_
  refine mq_ren (fun M6 hM6 => ?_)
  have hx4 : M6 x = some (.inr (3, [.ref q1, .ref q4, .int 0, .int 0])) := by rw [hM6, mq_up_s]; rfl
  exact xr_vret C hr hlk ⟨rfl, q1, a1, q4, a3, ⟨hq1, hA1, mq3, ma3⟩, by simp [nq, na, Ne.symm hn1, Ne.symm hn3, n1, n2, n3, n4, n5, n6], ⟨hx4, hB1c.up hM6 nq na, hB3.up hM6 n5 n6⟩, (K2.tr0 hK3).up hM6⟩ (by omega) (by omega) dX3_init_32
set_option maxHeartbeats 4000000 in
set_option maxRecDepth 100000 in
theorem c_Recovery_init (l : Launch) (G : mq_G) (x fd : Nat) (M : mq_M) (hM : M x = some (.inr (7, [.null, .null, .null]))) : mq_T l yX8_init wsX8_init { frames := 2, cells := 3, slots := 212, locals := 33 } G [.ref x, .ref fd] M (mq_pv (fun M2 => ∃ b a r : Nat, (M b = none ∧ M a = none ∧ M r = none) ∧ [x, b, a, r].Nodup ∧ M2 x = some (.inr (7, [.ref fd, .ref b, .ref r])) ∧ bI G M2 b a 200 [] ∧ M2 r = some (.inl (G.2.1, 10, .inl (fun _ => 0))) ∧ iq_K x M M2)) 3 212 := by
  refine mq_Met.of (cc := cX8_init) (maxL := 2) (ret := none) (by decide) rfl (Nat.le_of_ble_eq_true rfl) rfl rfl ?_
  intro p_ e_ s_ m_ args_ below_ meth_ c_ z_ C hr hlk hname
  refine xr_aload_n C dX8_init_0 rfl ?_
  refine xr_objI C (C.1.2.2.2.2 (.methodLink RX8 3 objectInit) (by decide +kernel)) (C.1.2.2.2.2 (.instanceMethod objectInit) (by decide +kernel)) (C.1.2.2.2.2 (.code objectInit ⟨#[0xb1]⟩ 1 none) (by decide +kernel)) (Nat.le_of_ble_eq_true rfl) (Nat.le_of_ble_eq_true rfl) dX8_init_1 ?_
  refine xr_aload_n C dX8_init_4 rfl ?_
  refine xr_new C (ci := 0) (fs := [.null, .int 0]) (Cn := RX0) (T := TX0) (N := 2) (by decide +kernel) tyX0 tyX0_ok (C.1.2.2.2.2 (.classLink RX8 9 RX0) (by decide +kernel)) (C.1.2.2.2.2 (.instantiable RX0 2) (by decide +kernel)) (C.1.2.2.2.2 (.initialized RX0) (by decide +kernel)) rfl (fun j hj => by rcases (show j = 0 ∨ j = 1 by omega) with rfl | rfl <;> rfl) (by dsimp only; omega) (by dsimp only; omega) dX8_init_5 (fun q1 hq1 => ?_)
  refine mq_ren (fun M2 hM2 => ?_)
  have hZ1 : M2 q1 = some (.inr (0, [.null, .int 0])) := by rw [hM2, mq_up_s]
  refine xr_dup C dX8_init_8 rfl ?_
  refine xr_sipush (n := 200) C dX8_init_9 (by decide +kernel) ?_
  refine xr_callI1 C (c_Bytes_init l G q1 M2 hZ1 200 (by decide)) (cwI 1 C.1.2.2.2.2 gX8_init_X0_init rfl rfl rfl (C.1.2.2.2.2 (.initialized RX0) (by decide +kernel)) (C.1.2.2.2.2 (.methodLink RX8 13 yX0_init) (by decide +kernel)) (C.1.2.2.2.2 (.instanceMethod yX0_init) (by decide +kernel)) rfl (by decide +kernel) ⟨Nat.le_of_ble_eq_true rfl, Nat.le_of_ble_eq_true rfl⟩) (Nat.le_of_ble_eq_true rfl) ⟨by dsimp only; omega, by dsimp only; omega⟩ dX8_init_12 (fun N1 hp1 => ?_)
  obtain ⟨a1, ha1, hB1, hF1⟩ := hp1
  obtain ⟨hK1, hA1, hn1⟩ := iq_Z.bytes hq1 hM2 ha1 hF1
  have hx1 := (hK1 x (iq_some hM)).trans hM
  have nq : x ≠ q1 := iq_nx (iq_some hM) hq1
  have na : x ≠ a1 := iq_nx (iq_some hM) hA1
  refine xr_putF C (Cn := RX8) (T := TX8) (N := 3) (by decide +kernel) hx1 rfl 1 (by decide) tyX8 tyX8_ok nmX8 (C.1.2.2.2.2 (.fieldLink RX8 16 "OssuaryVault$Recovery" "matrix" "LOssuaryVault$Bytes;") (by decide +kernel)) (fun _ h => h) rfl hname rfl (tyX8_ok 1 (by decide)) rfl rfl (Nat.le_of_ble_eq_true rfl) dX8_init_15 ?_
  refine mq_ren (fun M3 hM3 => ?_)
  have hx2 : M3 x = some (.inr (7, [.null, .ref q1, .null])) := by rw [hM3, mq_up_s]; rfl
  have hB1b := hB1.up hM3 nq na
  have K2 := (hK1.K x).up hM3
  refine xr_aload_n C dX8_init_18 rfl ?_
  refine xr_bipush (n := 10) C dX8_init_19 (by decide +kernel) ?_
  refine xr_newI C (C.1.2.2.2.2 (.arrayClass .int) (by decide +kernel)) mq_tI (by omega) (by dsimp only; omega) (by dsimp only; omega) dX8_init_21 (fun q4 hq4 => ?_)
  refine mq_ren (fun M5 hM5 => ?_)
  have mr := K2.nil (iq_some hx2) hq4
  have n1 : q1 ≠ q4 := iq_nx hB1b.nn.1 hq4
  have n2 : a1 ≠ q4 := iq_nx hB1b.nn.2 hq4
  have n3 : x ≠ q4 := iq_nx (iq_some hM) mr
  have hx3 : M5 x = some (.inr (7, [.null, .ref q1, .null])) := by rw [hM5, mq_up_n n3]; exact hx2
  have hr3 : M5 q4 = some (.inl (G.2.1, 10, .inl (fun _ => 0))) := by rw [hM5, mq_up_s]; rfl
  have hB1c := hB1b.k0 (iq_Z.rf.new hq4 hM5)
  have K3 := K2.new hq4 hM5
  refine xr_putF C (Cn := RX8) (T := TX8) (N := 3) (by decide +kernel) hx3 rfl 2 (by decide) tyX8 tyX8_ok nmX8 (C.1.2.2.2.2 (.fieldLink RX8 20 "OssuaryVault$Recovery" "chosen" "[I") (by decide +kernel)) (fun _ h => h) rfl hname rfl (tyX8_ok 2 (by decide)) rfl rfl (Nat.le_of_ble_eq_true rfl) dX8_init_23 ?_
  refine mq_ren (fun M6 hM6 => ?_)
  have hx4 : M6 x = some (.inr (7, [.null, .ref q1, .ref q4])) := by rw [hM6, mq_up_s]; rfl
  refine xr_aload_n C dX8_init_26 rfl ?_
  refine xr_aload_n C dX8_init_27 rfl ?_
  refine xr_putF C (Cn := RX8) (T := TX8) (N := 3) (by decide +kernel) hx4 rfl 0 (by decide) tyX8 tyX8_ok nmX8 (C.1.2.2.2.2 (.fieldLink RX8 24 "OssuaryVault$Recovery" "field" "LOssuaryVault$Field;") (by decide +kernel)) (fun _ h => h) rfl hname rfl (tyX8_ok 0 (by decide)) rfl rfl (Nat.le_of_ble_eq_true rfl) dX8_init_28 ?_
  refine mq_ren (fun M7 hM7 => ?_)
  exact xr_vret C hr hlk ⟨rfl, q1, a1, q4, ⟨hq1, hA1, mr⟩, by simp [nq, na, Ne.symm hn1, n1, n2, n3], by rw [hM7, mq_up_s]; rfl, (hB1c.up hM6 nq na).up hM7 nq na, by rw [hM7, mq_up_n (Ne.symm n3), hM6, mq_up_n (Ne.symm n3)]; exact hr3, (K3.up hM6).up hM7⟩ (by omega) (by omega) dX8_init_31
