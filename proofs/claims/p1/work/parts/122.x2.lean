set_option maxHeartbeats 4000000 in
set_option maxRecDepth 100000 in
theorem c_product (l : Launch) (G : mq_G) (La : Nat → Nat) (hI : mq_inj La) (M : mq_M) (hV : vF G M La) (a b : Nat) (ha : a < 256) (hb : b < 256) : mq_T l yX11_product wsX11_product { frames := 2, cells := 0, slots := 0, locals := 43 } G [.ref (La 0), .int (zI (a : Int)), .int (zI (b : Int))] M (mq_ri M (gfM a b : Int)) 0 0 := by
  refine mq_Met.of (cc := cX11_product) (maxL := 3) (ret := (some .int)) (by decide) rfl (Nat.le_of_ble_eq_true rfl) rfl rfl ?_
  intro p_ e_ s_ m_ args_ below_ meth_ c_ z_ C hr hlk hname
  obtain ⟨v1, v2, v3, v4, v5, ⟨pf, hkP, hkI⟩, ⟨pv, vd, ld, mb, nu, ho, hP, hH⟩, v8, v9⟩ := id hV
  have hkP' : dkP pf 0 (fun _ => 0) (fun _ => []) (fun _ => 0) := hkP
  have hkI' : dkI G M La pf 0 (fun _ => 0) (fun _ => []) (fun _ => []) (fun _ => 0) := hkI
  have hrI : rdI G M La false 0 0 false 0 [] (fun _ => []) (fun _ => 0) (fun _ => 0) (fun _ => 0) (fun _ => false) := v9.1
  refine xr_iload_n C dX11_product_0 rfl ?_
  refine xr_callS1i C (c_isByte l G M a ha) (cwS 1 C.1.2.2.2.2 gX11_product_X11_isByte rfl rfl rfl (by decide +kernel) ⟨Nat.le_of_ble_eq_true rfl, Nat.le_of_ble_eq_true rfl⟩) (Nat.le_of_ble_eq_true rfl) ⟨by dsimp only; omega, by dsimp only; omega⟩ dX11_product_1 (fun r1 M9 hp9 => ?_)
  obtain ⟨rfl, rfl⟩ := hp9
  refine xr_if_eq C dX11_product_4 rfl (by decide) (fun hq => absurd hq (by decide)) (fun _ => ?_)
  refine xr_iload_n C dX11_product_7 rfl ?_
  refine xr_callS1i C (c_isByte l G M b hb) (cwS 1 C.1.2.2.2.2 gX11_product_X11_isByte rfl rfl rfl (by decide +kernel) ⟨Nat.le_of_ble_eq_true rfl, Nat.le_of_ble_eq_true rfl⟩) (Nat.le_of_ble_eq_true rfl) ⟨by dsimp only; omega, by dsimp only; omega⟩ dX11_product_8 (fun r2 M9 hp9 => ?_)
  obtain ⟨rfl, rfl⟩ := hp9
  refine xr_if_ne C dX11_product_11 rfl (by decide) (fun _ => ?_) (fun hq => absurd hq (by decide))
  refine xr_aload_n C dX11_product_24 rfl ?_
  refine xr_get C (Cn := RX11) (T := TX11) (N := 5) (by decide +kernel) v1 rfl 0 (by decide) (C.1.2.2.2.2 (.fieldLink RX11 15 "OssuaryVault" "field" "LOssuaryVault$Field;") (by decide +kernel)) (fun _ h => h) rfl dX11_product_25 ?_
  refine xr_iload_n C dX11_product_28 rfl ?_
  refine xr_iload_n C dX11_product_29 rfl ?_
  refine xr_callV2i C (c_times l G _ _ _ M v3 a b ha hb) (cwV 2 C.1.2.2.2.2 gX11_product_X4_times rfl rfl rfl (by decide +kernel) ⟨Nat.le_of_ble_eq_true rfl, Nat.le_of_ble_eq_true rfl⟩) v3.1 rfl (Nat.le_of_ble_eq_true rfl) ⟨by dsimp only; omega, by dsimp only; omega⟩ dX11_product_30 (fun r3 M9 hp9 => ?_)
  obtain ⟨rfl, rfl⟩ := hp9
  exact xr_iret C hr hlk ⟨_, rfl, rfl, rfl⟩ (by omega) (by omega) dX11_product_33
set_option maxHeartbeats 4000000 in
set_option maxRecDepth 100000 in
theorem c_inverse (l : Launch) (G : mq_G) (La : Nat → Nat) (hI : mq_inj La) (M : mq_M) (hV : vF G M La) (a : Nat) (ha : 1 ≤ a ∧ a < 256) : mq_T l yX11_inverse wsX11_inverse { frames := 2, cells := 0, slots := 0, locals := 42 } G [.ref (La 0), .int (zI (a : Int))] M (mq_ri M (gfI a : Int)) 0 0 := by
  refine mq_Met.of (cc := cX11_inverse) (maxL := 2) (ret := (some .int)) (by decide) rfl (Nat.le_of_ble_eq_true rfl) rfl rfl ?_
  intro p_ e_ s_ m_ args_ below_ meth_ c_ z_ C hr hlk hname
  obtain ⟨v1, v2, v3, v4, v5, ⟨pf, hkP, hkI⟩, ⟨pv, vd, ld, mb, nu, ho, hP, hH⟩, v8, v9⟩ := id hV
  have hkP' : dkP pf 0 (fun _ => 0) (fun _ => []) (fun _ => 0) := hkP
  have hkI' : dkI G M La pf 0 (fun _ => 0) (fun _ => []) (fun _ => []) (fun _ => 0) := hkI
  have hrI : rdI G M La false 0 0 false 0 [] (fun _ => []) (fun _ => 0) (fun _ => 0) (fun _ => 0) (fun _ => false) := v9.1
  refine xr_iload_n C dX11_inverse_0 rfl ?_
  refine xr_callS1i C (c_isByte l G M a ha.2) (cwS 1 C.1.2.2.2.2 gX11_inverse_X11_isByte rfl rfl rfl (by decide +kernel) ⟨Nat.le_of_ble_eq_true rfl, Nat.le_of_ble_eq_true rfl⟩) (Nat.le_of_ble_eq_true rfl) ⟨by dsimp only; omega, by dsimp only; omega⟩ dX11_inverse_1 (fun r1 M9 hp9 => ?_)
  obtain ⟨rfl, rfl⟩ := hp9
  refine xr_if_eq C dX11_inverse_4 rfl (by decide) (fun hq => absurd hq (by decide)) (fun _ => ?_)
  refine xr_iload_n C dX11_inverse_7 rfl ?_
  refine xr_if_ne C dX11_inverse_8 rfl (by first | omega | (dsimp only; omega)) (fun _ => ?_) (fun hq => absurd hq (by omega))
  refine xr_aload_n C dX11_inverse_21 rfl ?_
  refine xr_get C (Cn := RX11) (T := TX11) (N := 5) (by decide +kernel) v1 rfl 0 (by decide) (C.1.2.2.2.2 (.fieldLink RX11 15 "OssuaryVault" "field" "LOssuaryVault$Field;") (by decide +kernel)) (fun _ h => h) rfl dX11_inverse_22 ?_
  refine xr_iload_n C dX11_inverse_25 rfl ?_
  refine xr_callV1i C (c_oneOver l G _ _ _ M v3 a ha.2) (cwV 1 C.1.2.2.2.2 gX11_inverse_X4_oneOver rfl rfl rfl (by decide +kernel) ⟨Nat.le_of_ble_eq_true rfl, Nat.le_of_ble_eq_true rfl⟩) v3.1 rfl (Nat.le_of_ble_eq_true rfl) ⟨by dsimp only; omega, by dsimp only; omega⟩ dX11_inverse_26 (fun r2 M9 hp9 => ?_)
  obtain ⟨rfl, rfl⟩ := hp9
  exact xr_iret C hr hlk ⟨_, rfl, rfl, rfl⟩ (by omega) (by omega) dX11_inverse_29
set_option maxHeartbeats 4000000 in
set_option maxRecDepth 100000 in
theorem c_power (l : Launch) (G : mq_G) (La : Nat → Nat) (hI : mq_inj La) (M : mq_M) (hV : vF G M La) (a n : Nat) (ha : a < 256) (hn : n ≤ 1000) : mq_T l yX11_power wsX11_power { frames := 2, cells := 0, slots := 0, locals := 43 } G [.ref (La 0), .int (zI (a : Int)), .int (zI (n : Int))] M (mq_ri M (gfR a n : Int)) 0 0 := by
  refine mq_Met.of (cc := cX11_power) (maxL := 3) (ret := (some .int)) (by decide) rfl (Nat.le_of_ble_eq_true rfl) rfl rfl ?_
  intro p_ e_ s_ m_ args_ below_ meth_ c_ z_ C hr hlk hname
  obtain ⟨v1, v2, v3, v4, v5, ⟨pf, hkP, hkI⟩, ⟨pv, vd, ld, mb, nu, ho, hP, hH⟩, v8, v9⟩ := id hV
  have hkP' : dkP pf 0 (fun _ => 0) (fun _ => []) (fun _ => 0) := hkP
  have hkI' : dkI G M La pf 0 (fun _ => 0) (fun _ => []) (fun _ => []) (fun _ => 0) := hkI
  have hrI : rdI G M La false 0 0 false 0 [] (fun _ => []) (fun _ => 0) (fun _ => 0) (fun _ => 0) (fun _ => false) := v9.1
  refine xr_iload_n C dX11_power_0 rfl ?_
  refine xr_callS1i C (c_isByte l G M a ha) (cwS 1 C.1.2.2.2.2 gX11_power_X11_isByte rfl rfl rfl (by decide +kernel) ⟨Nat.le_of_ble_eq_true rfl, Nat.le_of_ble_eq_true rfl⟩) (Nat.le_of_ble_eq_true rfl) ⟨by dsimp only; omega, by dsimp only; omega⟩ dX11_power_1 (fun r1 M9 hp9 => ?_)
  obtain ⟨rfl, rfl⟩ := hp9
  refine xr_if_eq C dX11_power_4 rfl (by decide) (fun hq => absurd hq (by decide)) (fun _ => ?_)
  refine xr_iload_n C dX11_power_7 rfl ?_
  refine xr_if_lt C dX11_power_8 rfl (by first | omega | (dsimp only; omega)) (fun hq => absurd hq (by omega)) (fun _ => ?_)
  refine xr_iload_n C dX11_power_11 rfl ?_
  refine xr_sipush (n := 1000) C dX11_power_12 (by decide +kernel) ?_
  refine xr_icmp_le C dX11_power_15 rfl (by first | omega | (dsimp only; omega)) (by first | omega | (dsimp only; omega)) (fun _ => ?_) (fun hq => absurd hq (by omega))
  refine xr_aload_n C dX11_power_28 rfl ?_
  refine xr_get C (Cn := RX11) (T := TX11) (N := 5) (by decide +kernel) v1 rfl 0 (by decide) (C.1.2.2.2.2 (.fieldLink RX11 15 "OssuaryVault" "field" "LOssuaryVault$Field;") (by decide +kernel)) (fun _ h => h) rfl dX11_power_29 ?_
  refine xr_iload_n C dX11_power_32 rfl ?_
  refine xr_iload_n C dX11_power_33 rfl ?_
  refine xr_callV2i C (c_raised l G _ _ _ M v3 a n ha hn) (cwV 2 C.1.2.2.2.2 gX11_power_X4_raised rfl rfl rfl (by decide +kernel) ⟨Nat.le_of_ble_eq_true rfl, Nat.le_of_ble_eq_true rfl⟩) v3.1 rfl (Nat.le_of_ble_eq_true rfl) ⟨by dsimp only; omega, by dsimp only; omega⟩ dX11_power_34 (fun r2 M9 hp9 => ?_)
  obtain ⟨rfl, rfl⟩ := hp9
  exact xr_iret C hr hlk ⟨_, rfl, rfl, rfl⟩ (by omega) (by omega) dX11_power_37
set_option maxHeartbeats 4000000 in
set_option maxRecDepth 100000 in
theorem c_coefficient (l : Launch) (G : mq_G) (La : Nat → Nat) (hI : mq_inj La) (M : mq_M) (hV : vF G M La) (j d : Nat) (hj : j < 6) (hd : d < 10) : mq_T l yX11_coefficient wsX11_coefficient { frames := 3, cells := 0, slots := 0, locals := 64 } G [.ref (La 0), .int (zI (j : Int)), .int (zI (d : Int))] M (mq_ri M (gfI ((128 + j) ^^^ d) : Int)) 0 0 := by
  refine mq_Met.of (cc := cX11_coefficient) (maxL := 3) (ret := (some .int)) (by decide) rfl (Nat.le_of_ble_eq_true rfl) rfl rfl ?_
  intro p_ e_ s_ m_ args_ below_ meth_ c_ z_ C hr hlk hname
  obtain ⟨v1, v2, v3, v4, v5, ⟨pf, hkP, hkI⟩, ⟨pv, vd, ld, mb, nu, ho, hP, hH⟩, v8, v9⟩ := id hV
  have hkP' : dkP pf 0 (fun _ => 0) (fun _ => []) (fun _ => 0) := hkP
  have hkI' : dkI G M La pf 0 (fun _ => 0) (fun _ => []) (fun _ => []) (fun _ => 0) := hkI
  have hrI : rdI G M La false 0 0 false 0 [] (fun _ => []) (fun _ => 0) (fun _ => 0) (fun _ => 0) (fun _ => false) := v9.1
  refine xr_iload_n C dX11_coefficient_0 rfl ?_
  refine xr_if_lt C dX11_coefficient_1 rfl (by first | omega | (dsimp only; omega)) (fun hq => absurd hq (by omega)) (fun _ => ?_)
  refine xr_iload_n C dX11_coefficient_4 rfl ?_
  refine xr_bipush (n := 6) C dX11_coefficient_5 (by decide +kernel) ?_
  refine xr_icmp_ge C dX11_coefficient_7 rfl (by first | omega | (dsimp only; omega)) (by first | omega | (dsimp only; omega)) (fun hq => absurd hq (by omega)) (fun _ => ?_)
  refine xr_iload_n C dX11_coefficient_10 rfl ?_
  refine xr_if_lt C dX11_coefficient_11 rfl (by first | omega | (dsimp only; omega)) (fun hq => absurd hq (by omega)) (fun _ => ?_)
  refine xr_iload_n C dX11_coefficient_14 rfl ?_
  refine xr_bipush (n := 10) C dX11_coefficient_15 (by decide +kernel) ?_
  refine xr_icmp_lt C dX11_coefficient_17 rfl (by first | omega | (dsimp only; omega)) (by first | omega | (dsimp only; omega)) (fun _ => ?_) (fun hq => absurd hq (by omega))
  refine xr_aload_n C dX11_coefficient_30 rfl ?_
  refine xr_get C (Cn := RX11) (T := TX11) (N := 5) (by decide +kernel) v1 rfl 0 (by decide) (C.1.2.2.2.2 (.fieldLink RX11 15 "OssuaryVault" "field" "LOssuaryVault$Field;") (by decide +kernel)) (fun _ h => h) rfl dX11_coefficient_31 ?_
  refine xr_iload_n C dX11_coefficient_34 rfl ?_
  refine xr_iload_n C dX11_coefficient_35 rfl ?_
  refine xr_callV2i C (c_parityWeight l G _ _ _ M v3 j d (by omega) (by omega)) (cwV 2 C.1.2.2.2.2 gX11_coefficient_X4_parityWeight rfl rfl rfl (by decide +kernel) ⟨Nat.le_of_ble_eq_true rfl, Nat.le_of_ble_eq_true rfl⟩) v3.1 rfl (Nat.le_of_ble_eq_true rfl) ⟨by dsimp only; omega, by dsimp only; omega⟩ dX11_coefficient_36 (fun r1 M9 hp9 => ?_)
  obtain ⟨rfl, rfl⟩ := hp9
  exact xr_iret C hr hlk ⟨_, rfl, rfl, rfl⟩ (by omega) (by omega) dX11_coefficient_39
set_option maxHeartbeats 4000000 in
set_option maxRecDepth 100000 in
theorem c_cutSheet0 (l : Launch) (G : mq_G) (La : Nat → Nat) (hI : mq_inj La) (M : mq_M) (hV : vF G M La)  : mq_T l yX11_cutSheet wsX11_cutSheet { frames := 1, cells := 0, slots := 0, locals := 21 } G [.ref (La 0), .int (zI 0)] M (mq_pi (fun r M2 => r = 0 ∧ mq_FR La [7, 8] M M2)) 0 0 := by
  refine mq_Met.of (cc := cX11_cutSheet) (maxL := 3) (ret := (some .int)) (by decide) rfl (Nat.le_of_ble_eq_true rfl) rfl rfl ?_
  intro p_ e_ s_ m_ args_ below_ meth_ c_ z_ C hr hlk hname
  obtain ⟨v1, v2, v3, v4, v5, ⟨pf, hkP, hkI⟩, ⟨pv, vd, ld, mb, nu, ho, hP, hH⟩, v8, v9⟩ := id hV
  have hkP' : dkP pf 0 (fun _ => 0) (fun _ => []) (fun _ => 0) := hkP
  have hkI' : dkI G M La pf 0 (fun _ => 0) (fun _ => []) (fun _ => []) (fun _ => 0) := hkI
  have hrI : rdI G M La false 0 0 false 0 [] (fun _ => []) (fun _ => 0) (fun _ => 0) (fun _ => 0) (fun _ => false) := v9.1
  refine xr_aload_n C dX11_cutSheet_0 rfl ?_
  refine xr_get C (Cn := RX11) (T := TX11) (N := 5) (by decide +kernel) v1 rfl 1 (by decide) (C.1.2.2.2.2 (.fieldLink RX11 24 "OssuaryVault" "desk" "LOssuaryVault$Desk;") (by decide +kernel)) (fun _ h => h) rfl dX11_cutSheet_1 ?_
  refine xr_getN C (Cn := RX2) (T := TX2) (N := 5) (by decide +kernel) hkI'.1 rfl 1 (by decide) (va_Nw.use rfl (C.2.2.1 ("OssuaryVault", 89, "OssuaryVault$Desk", "sheet", "LOssuaryVault$Bytes;", "OssuaryVault") (by decide +kernel))) (fun _ h => h) rfl dX11_cutSheet_4 ?_
  refine xr_callV0i C (c_size l G _ _ _ _ M v4) (cwV 0 C.1.2.2.2.2 gX11_cutSheet_X0_size rfl rfl rfl (by decide +kernel) ⟨Nat.le_of_ble_eq_true rfl, Nat.le_of_ble_eq_true rfl⟩) v4.1 rfl (Nat.le_of_ble_eq_true rfl) ⟨by dsimp only; omega, by dsimp only; omega⟩ dX11_cutSheet_7 (fun r1 M9 hp9 => ?_)
  obtain ⟨rfl, rfl⟩ := hp9
  rw [show (([] : List Nat).length : Int) = 0 from rfl]
  refine xr_istore_n C dX11_cutSheet_10 (by decide) rfl ?_
  refine xr_iload_n C dX11_cutSheet_11 rfl ?_
  refine xr_if_lt C dX11_cutSheet_12 rfl (by first | omega | (dsimp only; omega)) (fun hq => absurd hq (by omega)) (fun _ => ?_)
  refine xr_iload_n C dX11_cutSheet_15 rfl ?_
  refine xr_iload_n C dX11_cutSheet_16 rfl ?_
  refine xr_icmp_le C dX11_cutSheet_17 rfl (by first | omega | (dsimp only; omega)) (by first | omega | (dsimp only; omega)) (fun _ => ?_) (fun hq => absurd hq (by omega))
  refine xr_aload_n C dX11_cutSheet_30 rfl ?_
  refine xr_get C (Cn := RX11) (T := TX11) (N := 5) (by decide +kernel) v1 rfl 1 (by decide) (C.1.2.2.2.2 (.fieldLink RX11 24 "OssuaryVault" "desk" "LOssuaryVault$Desk;") (by decide +kernel)) (fun _ h => h) rfl dX11_cutSheet_31 ?_
  refine xr_getN C (Cn := RX2) (T := TX2) (N := 5) (by decide +kernel) hkI'.1 rfl 1 (by decide) (va_Nw.use rfl (C.2.2.1 ("OssuaryVault", 89, "OssuaryVault$Desk", "sheet", "LOssuaryVault$Bytes;", "OssuaryVault") (by decide +kernel))) (fun _ h => h) rfl dX11_cutSheet_34 ?_
  refine xr_iload_n C dX11_cutSheet_37 rfl ?_
  refine xr_callV1v C (c_shorten l G _ _ _ _ M v4 0 (Nat.le_refl _)) (cwV 1 C.1.2.2.2.2 gX11_cutSheet_X0_shorten rfl rfl rfl (by decide +kernel) ⟨Nat.le_of_ble_eq_true rfl, Nat.le_of_ble_eq_true rfl⟩) v4.1 rfl (Nat.le_of_ble_eq_true rfl) ⟨by dsimp only; omega, by dsimp only; omega⟩ dX11_cutSheet_38 (fun M1 hp1 => ?_)
  obtain ⟨hB1, hF1⟩ := hp1
  refine xr_iload_n C dX11_cutSheet_41 rfl ?_
  exact xr_iret C hr hlk ⟨_, rfl, rfl, hF1.mono (by simp)⟩ (by omega) (by omega) dX11_cutSheet_42
set_option maxHeartbeats 4000000 in
set_option maxRecDepth 100000 in
theorem c_files (l : Launch) (G : mq_G) (La : Nat → Nat) (hI : mq_inj La) (M : mq_M) (hV : vF G M La)  : mq_T l yX11_files wsX11_files { frames := 1, cells := 0, slots := 0, locals := 20 } G [.ref (La 0)] M (mq_ri M 0) 0 0 := by
  refine mq_Met.of (cc := cX11_files) (maxL := 1) (ret := (some .int)) (by decide) rfl (Nat.le_of_ble_eq_true rfl) rfl rfl ?_
  intro p_ e_ s_ m_ args_ below_ meth_ c_ z_ C hr hlk hname
  obtain ⟨v1, v2, v3, v4, v5, ⟨pf, hkP, hkI⟩, ⟨pv, vd, ld, mb, nu, ho, hP, hH⟩, v8, v9⟩ := id hV
  have hkP' : dkP pf 0 (fun _ => 0) (fun _ => []) (fun _ => 0) := hkP
  have hkI' : dkI G M La pf 0 (fun _ => 0) (fun _ => []) (fun _ => []) (fun _ => 0) := hkI
  have hrI : rdI G M La false 0 0 false 0 [] (fun _ => []) (fun _ => 0) (fun _ => 0) (fun _ => 0) (fun _ => false) := v9.1
  refine xr_aload_n C dX11_files_0 rfl ?_
  refine xr_get C (Cn := RX11) (T := TX11) (N := 5) (by decide +kernel) v1 rfl 1 (by decide) (C.1.2.2.2.2 (.fieldLink RX11 24 "OssuaryVault" "desk" "LOssuaryVault$Desk;") (by decide +kernel)) (fun _ h => h) rfl dX11_files_1 ?_
  refine xr_callV0i C (c_dkCount l G La hI pf 0 _ _ _ _ M hkP' hkI') (cwV 0 C.1.2.2.2.2 gX11_files_X2_count rfl rfl rfl (by decide +kernel) ⟨Nat.le_of_ble_eq_true rfl, Nat.le_of_ble_eq_true rfl⟩) hkI'.1 rfl (Nat.le_of_ble_eq_true rfl) ⟨by dsimp only; omega, by dsimp only; omega⟩ dX11_files_4 (fun r1 M9 hp9 => ?_)
  obtain ⟨rfl, rfl⟩ := hp9
  exact xr_iret C hr hlk ⟨_, rfl, rfl, rfl⟩ (by omega) (by omega) dX11_files_7
set_option maxHeartbeats 4000000 in
set_option maxRecDepth 100000 in
theorem c_streamLength (l : Launch) (G : mq_G) (La : Nat → Nat) (hI : mq_inj La) (M : mq_M) (hV : vF G M La)  : mq_T l yX11_streamLength wsX11_streamLength { frames := 4, cells := 0, slots := 0, locals := 83 } G [.ref (La 0)] M (mq_ri M 6) 0 0 := by
  refine mq_Met.of (cc := cX11_streamLength) (maxL := 1) (ret := (some .int)) (by decide) rfl (Nat.le_of_ble_eq_true rfl) rfl rfl ?_
  intro p_ e_ s_ m_ args_ below_ meth_ c_ z_ C hr hlk hname
  obtain ⟨v1, v2, v3, v4, v5, ⟨pf, hkP, hkI⟩, ⟨pv, vd, ld, mb, nu, ho, hP, hH⟩, v8, v9⟩ := id hV
  have hkP' : dkP pf 0 (fun _ => 0) (fun _ => []) (fun _ => 0) := hkP
  have hkI' : dkI G M La pf 0 (fun _ => 0) (fun _ => []) (fun _ => []) (fun _ => 0) := hkI
  have hrI : rdI G M La false 0 0 false 0 [] (fun _ => []) (fun _ => 0) (fun _ => 0) (fun _ => 0) (fun _ => false) := v9.1
  refine xr_aload_n C dX11_streamLength_0 rfl ?_
  refine xr_get C (Cn := RX11) (T := TX11) (N := 5) (by decide +kernel) v1 rfl 1 (by decide) (C.1.2.2.2.2 (.fieldLink RX11 24 "OssuaryVault" "desk" "LOssuaryVault$Desk;") (by decide +kernel)) (fun _ h => h) rfl dX11_streamLength_1 ?_
  refine xr_callV0i C (c_dkStreamSize l G La hI pf 0 _ _ _ _ M hkP' hkI') (cwV 0 C.1.2.2.2.2 gX11_streamLength_X2_streamSize rfl rfl rfl (by decide +kernel) ⟨Nat.le_of_ble_eq_true rfl, Nat.le_of_ble_eq_true rfl⟩) hkI'.1 rfl (Nat.le_of_ble_eq_true rfl) ⟨by dsimp only; omega, by dsimp only; omega⟩ dX11_streamLength_4 (fun r1 M9 hp9 => ?_)
  obtain ⟨rfl, rfl⟩ := hp9
  exact xr_iret C hr hlk ⟨_, rfl, rfl, rfl⟩ (by omega) (by omega) dX11_streamLength_7
set_option maxHeartbeats 4000000 in
set_option maxRecDepth 100000 in
theorem c_placeFor0 (l : Launch) (G : mq_G) (La : Nat → Nat) (hI : mq_inj La) (pf : Nat → Nat) (ky : Nat → Nat) (c pk : Nat → List Nat) (ck : Nat → Nat) (M : mq_M) (hP : dkP pf 0 ky c ck) (hS : dkI G M La pf 0 ky c pk ck) (k : Int) : mq_T l yX2_placeFor wsX2_placeFor { frames := 1, cells := 0, slots := 0, locals := 21 } G [.ref (La 6), .int (zI k)] M (mq_ri M 0) 0 0 := by
  refine mq_Met.of (cc := cX2_placeFor) (maxL := 4) (ret := (some .int)) (by decide) rfl (Nat.le_of_ble_eq_true rfl) rfl rfl ?_
  intro p_ e_ s_ m_ args_ below_ meth_ c_ z_ C hr hlk hname
  obtain ⟨g1, ⟨fp, g2, g3⟩, g4⟩ := id hS
  refine xr_iconst (n := 0) C dX2_placeFor_0 (by decide +kernel) ?_
  refine xr_istore_n C dX2_placeFor_1 (by decide) rfl ?_
  refine xr_iload_n C dX2_placeFor_2 rfl ?_
  refine xr_aload_n C dX2_placeFor_3 rfl ?_
  refine xr_get C (Cn := RX2) (T := TX2) (N := 5) (by decide +kernel) g1 rfl 4 (by decide) (C.1.2.2.2.2 (.fieldLink RX2 34 "OssuaryVault$Desk" "count" "I") (by decide +kernel)) (fun _ h => h) rfl dX2_placeFor_4 ?_
  refine xr_icmp_ge C dX2_placeFor_7 rfl (by first | omega | (dsimp only; omega)) (by first | omega | (dsimp only; omega)) (fun _ => ?_) (fun hq => absurd hq (by omega))
  refine xr_aload_n C dX2_placeFor_36 rfl ?_
  refine xr_get C (Cn := RX2) (T := TX2) (N := 5) (by decide +kernel) g1 rfl 4 (by decide) (C.1.2.2.2.2 (.fieldLink RX2 34 "OssuaryVault$Desk" "count" "I") (by decide +kernel)) (fun _ h => h) rfl dX2_placeFor_37 ?_
  exact xr_iret C hr hlk ⟨_, rfl, rfl, rfl⟩ (by omega) (by omega) dX2_placeFor_40
set_option maxHeartbeats 4000000 in
set_option maxRecDepth 100000 in
theorem c_placeOf0 (l : Launch) (G : mq_G) (La : Nat → Nat) (hI : mq_inj La) (pf : Nat → Nat) (ky : Nat → Nat) (c pk : Nat → List Nat) (ck : Nat → Nat) (M : mq_M) (hP : dkP pf 0 ky c ck) (hS : dkI G M La pf 0 ky c pk ck) (k : Int) : mq_T l yX2_placeOf wsX2_placeOf { frames := 2, cells := 0, slots := 0, locals := 44 } G [.ref (La 6), .int (zI k)] M (mq_ri M (-1)) 0 0 := by
  refine mq_Met.of (cc := cX2_placeOf) (maxL := 4) (ret := (some .int)) (by decide) rfl (Nat.le_of_ble_eq_true rfl) rfl rfl ?_
  intro p_ e_ s_ m_ args_ below_ meth_ c_ z_ C hr hlk hname
  obtain ⟨g1, ⟨fp, g2, g3⟩, g4⟩ := id hS
  refine xr_aload_n C dX2_placeOf_0 rfl ?_
  refine xr_iload_n C dX2_placeOf_1 rfl ?_
  refine xr_callV1i C (c_placeFor0 l G La hI pf ky c pk ck M hP hS k) (cwV 1 C.1.2.2.2.2 gX2_placeOf_X2_placeFor rfl rfl rfl (by decide +kernel) ⟨Nat.le_of_ble_eq_true rfl, Nat.le_of_ble_eq_true rfl⟩) g1 rfl (Nat.le_of_ble_eq_true rfl) ⟨by dsimp only; omega, by dsimp only; omega⟩ dX2_placeOf_2 (fun r1 M9 hp9 => ?_)
  obtain ⟨rfl, rfl⟩ := hp9
  refine xr_istore_n C dX2_placeOf_5 (by decide) rfl ?_
  refine xr_aload_n C dX2_placeOf_6 rfl ?_
  refine xr_iload_n C dX2_placeOf_7 rfl ?_
  refine xr_callV1n C (c_dkAtO l G La hI pf 0 _ _ _ _ M hP hS 0 (by decide) (by omega)) (cwV 1 C.1.2.2.2.2 gX2_placeOf_X2_at rfl rfl rfl (by decide +kernel) ⟨Nat.le_of_ble_eq_true rfl, Nat.le_of_ble_eq_true rfl⟩) g1 rfl (Nat.le_of_ble_eq_true rfl) ⟨by dsimp only; omega, by dsimp only; omega⟩ dX2_placeOf_8 (fun M9 hp9 => ?_)
  subst hp9
  refine xr_nstore_n C dX2_placeOf_11 (by decide) rfl ?_
  refine xr_nload_n C dX2_placeOf_12 rfl ?_
  refine xr_ifnull_n C dX2_placeOf_13 rfl ?_
  refine xr_iconst (n := (-1)) C dX2_placeOf_28 (by decide +kernel) ?_
  exact xr_iret C hr hlk ⟨_, rfl, rfl, rfl⟩ (by omega) (by omega) dX2_placeOf_29
set_option maxHeartbeats 4000000 in
set_option maxRecDepth 100000 in
theorem c_takeOff0 (l : Launch) (G : mq_G) (La : Nat → Nat) (hI : mq_inj La) (pf : Nat → Nat) (ky : Nat → Nat) (c pk : Nat → List Nat) (ck : Nat → Nat) (M : mq_M) (hP : dkP pf 0 ky c ck) (hS : dkI G M La pf 0 ky c pk ck) (k : Int) : mq_T l yX2_takeOff wsX2_takeOff { frames := 3, cells := 0, slots := 0, locals := 67 } G [.ref (La 6), .int (zI k)] M (mq_ri M (-1)) 0 0 := by
  refine mq_Met.of (cc := cX2_takeOff) (maxL := 5) (ret := (some .int)) (by decide) rfl (Nat.le_of_ble_eq_true rfl) rfl rfl ?_
  intro p_ e_ s_ m_ args_ below_ meth_ c_ z_ C hr hlk hname
  obtain ⟨g1, ⟨fp, g2, g3⟩, g4⟩ := id hS
  refine xr_aload_n C dX2_takeOff_0 rfl ?_
  refine xr_iload_n C dX2_takeOff_1 rfl ?_
  refine xr_callV1i C (c_placeOf0 l G La hI pf ky c pk ck M hP hS k) (cwV 1 C.1.2.2.2.2 gX2_takeOff_X2_placeOf rfl rfl rfl (by decide +kernel) ⟨Nat.le_of_ble_eq_true rfl, Nat.le_of_ble_eq_true rfl⟩) g1 rfl (Nat.le_of_ble_eq_true rfl) ⟨by dsimp only; omega, by dsimp only; omega⟩ dX2_takeOff_2 (fun r1 M9 hp9 => ?_)
  obtain ⟨rfl, rfl⟩ := hp9
  refine xr_istore_n C dX2_takeOff_5 (by decide) rfl ?_
  refine xr_aload_n C dX2_takeOff_6 rfl ?_
  refine xr_iload_n C dX2_takeOff_7 rfl ?_
  refine xr_callV1n C (c_dkAtO l G La hI pf 0 _ _ _ _ M hP hS (-1) (by decide) (by omega)) (cwV 1 C.1.2.2.2.2 gX2_takeOff_X2_at rfl rfl rfl (by decide +kernel) ⟨Nat.le_of_ble_eq_true rfl, Nat.le_of_ble_eq_true rfl⟩) g1 rfl (Nat.le_of_ble_eq_true rfl) ⟨by dsimp only; omega, by dsimp only; omega⟩ dX2_takeOff_8 (fun M9 hp9 => ?_)
  subst hp9
  refine xr_nstore_n C dX2_takeOff_11 (by decide) rfl ?_
  refine xr_nload_n C dX2_takeOff_12 rfl ?_
  refine xr_ifnonnull_n C dX2_takeOff_13 ?_
  refine xr_iconst (n := (-1)) C dX2_takeOff_16 (by decide +kernel) ?_
  exact xr_iret C hr hlk ⟨_, rfl, rfl, rfl⟩ (by omega) (by omega) dX2_takeOff_17
set_option maxHeartbeats 4000000 in
set_option maxRecDepth 100000 in
theorem c_remove (l : Launch) (G : mq_G) (La : Nat → Nat) (hI : mq_inj La) (M : mq_M) (hV : vF G M La) (k : Int) : mq_T l yX11_remove wsX11_remove { frames := 4, cells := 0, slots := 0, locals := 91 } G [.ref (La 0), .int (zI k)] M (mq_ri M (-1)) 0 0 := by
  refine mq_Met.of (cc := cX11_remove) (maxL := 2) (ret := (some .int)) (by decide) rfl (Nat.le_of_ble_eq_true rfl) rfl rfl ?_
  intro p_ e_ s_ m_ args_ below_ meth_ c_ z_ C hr hlk hname
  obtain ⟨v1, v2, v3, v4, v5, ⟨pf, hkP, hkI⟩, ⟨pv, vd, ld, mb, nu, ho, hP, hH⟩, v8, v9⟩ := id hV
  have hkP' : dkP pf 0 (fun _ => 0) (fun _ => []) (fun _ => 0) := hkP
  have hkI' : dkI G M La pf 0 (fun _ => 0) (fun _ => []) (fun _ => []) (fun _ => 0) := hkI
  have hrI : rdI G M La false 0 0 false 0 [] (fun _ => []) (fun _ => 0) (fun _ => 0) (fun _ => 0) (fun _ => false) := v9.1
  refine xr_aload_n C dX11_remove_0 rfl ?_
  refine xr_get C (Cn := RX11) (T := TX11) (N := 5) (by decide +kernel) v1 rfl 1 (by decide) (C.1.2.2.2.2 (.fieldLink RX11 24 "OssuaryVault" "desk" "LOssuaryVault$Desk;") (by decide +kernel)) (fun _ h => h) rfl dX11_remove_1 ?_
  refine xr_iload_n C dX11_remove_4 rfl ?_
  refine xr_callV1i C (c_takeOff0 l G La hI pf _ _ _ _ M hkP' hkI' k) (cwV 1 C.1.2.2.2.2 gX11_remove_X2_takeOff rfl rfl rfl (by decide +kernel) ⟨Nat.le_of_ble_eq_true rfl, Nat.le_of_ble_eq_true rfl⟩) hkI'.1 rfl (Nat.le_of_ble_eq_true rfl) ⟨by dsimp only; omega, by dsimp only; omega⟩ dX11_remove_5 (fun r1 M9 hp9 => ?_)
  obtain ⟨rfl, rfl⟩ := hp9
  exact xr_iret C hr hlk ⟨_, rfl, rfl, rfl⟩ (by omega) (by omega) dX11_remove_8
set_option maxHeartbeats 4000000 in
set_option maxRecDepth 100000 in
theorem c_cost (l : Launch) (G : mq_G) (La : Nat → Nat) (hI : mq_inj La) (M : mq_M) (hV : vF G M La)  : mq_T l yX11_cost wsX11_cost { frames := 3, cells := 0, slots := 0, locals := 62 } G [.ref (La 0)] M (mq_pd (fun r M2 => r = FP.dconst0 ∧ M = M2)) 0 0 := by
  refine mq_Met.of (cc := cX11_cost) (maxL := 2) (ret := (some .double)) (by decide) rfl (Nat.le_of_ble_eq_true rfl) rfl rfl ?_
  intro p_ e_ s_ m_ args_ below_ meth_ c_ z_ C hr hlk hname
  obtain ⟨v1, v2, v3, v4, v5, ⟨pf, hkP, hkI⟩, ⟨pv, vd, ld, mb, nu, ho, hP, hH⟩, v8, v9⟩ := id hV
  have hkP' : dkP pf 0 (fun _ => 0) (fun _ => []) (fun _ => 0) := hkP
  have hkI' : dkI G M La pf 0 (fun _ => 0) (fun _ => []) (fun _ => []) (fun _ => 0) := hkI
  have hrI : rdI G M La false 0 0 false 0 [] (fun _ => []) (fun _ => 0) (fun _ => 0) (fun _ => 0) (fun _ => false) := v9.1
  refine xr_aload_n C dX11_cost_0 rfl ?_
  refine xr_get C (Cn := RX11) (T := TX11) (N := 5) (by decide +kernel) v1 rfl 1 (by decide) (C.1.2.2.2.2 (.fieldLink RX11 24 "OssuaryVault" "desk" "LOssuaryVault$Desk;") (by decide +kernel)) (fun _ h => h) rfl dX11_cost_1 ?_
  refine xr_callV0i C (c_dkContentBytes l G La hI pf 0 _ _ _ _ M hkP' hkI') (cwV 0 C.1.2.2.2.2 gX11_cost_X2_contentBytes rfl rfl rfl (by decide +kernel) ⟨Nat.le_of_ble_eq_true rfl, Nat.le_of_ble_eq_true rfl⟩) hkI'.1 rfl (Nat.le_of_ble_eq_true rfl) ⟨by dsimp only; omega, by dsimp only; omega⟩ dX11_cost_4 (fun r1 M9 hp9 => ?_)
  obtain ⟨rfl, rfl⟩ := hp9
  rw [show (dkCs (fun _ => []) 0 : Int) = 0 from rfl]
  refine xr_istore_n C dX11_cost_7 (by decide) rfl ?_
  refine xr_iload_n C dX11_cost_8 rfl ?_
  refine xr_if_le C dX11_cost_9 rfl (by decide) (fun _ => ?_) (fun hq => absurd hq (by decide))
  refine xr_dconst0 C dX11_cost_26 ?_
  exact xr_dret C hr hlk ⟨_, rfl, rfl, rfl⟩ (by omega) (by omega) dX11_cost_27
