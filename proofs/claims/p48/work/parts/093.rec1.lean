set_option maxHeartbeats 4000000 in
set_option maxRecDepth 100000 in
theorem c_scaleRow (l : Launch) (G : mq_G) (La : Nat → Nat) (hI : mq_inj La) (mt : List Nat) (cho : Nat → Nat) (M : mq_M) (hS : rcI G M La mt cho) (hD : fdI G M (La 3) (La 4) (La 5)) (k fa : Nat) (hk : k < 1000) (hfa : fa < 256) : mq_T l yX8_scaleRow wsX8_scaleRow { frames := 2, cells := 0, slots := 0, locals := 43 } G [.ref (La 16), .int (zI (k : Int)), .int (zI (fa : Int))] M (mq_pv (fun M2 => (∃ mt2 : List Nat, mt2.length = mt.length ∧ rcI G M2 La mt2 cho) ∧ mq_FR La [17, 18] M M2)) 0 0 := by
  refine mq_Met.of (cc := cX8_scaleRow) (maxL := 4) (ret := none) (by decide) rfl (Nat.le_of_ble_eq_true rfl) rfl rfl ?_
  intro p_ e_ s_ m_ args_ below_ meth_ c_ z_ C hr hlk hname
  refine xr_iload_n C dX8_scaleRow_0 rfl ?_
  refine xr_istore_n C dX8_scaleRow_1 (by decide) rfl ?_
  refine mq_eqL (L2 := [some (.ref (La 16)), some (.int (zI (k : Int))), some (.int (zI (fa : Int))), some (.int (zI ((k : Int) + ((0 : Nat) : Int))))]) rfl (by rw [show (k : Int) + ((0 : Nat) : Int) = (k : Int) by omega]; rfl) rfl rfl ?_
  refine mq_loop (σ := Nat × mq_M × List Nat) (fun y => y.1 ≤ 20 ∧ y.2.2.length = mt.length ∧ rcI G y.2.1 La y.2.2 cho ∧ mq_FR La [17, 18] M y.2.1) (fun y => 20 - y.1) (fun y => y.2.1) (fun y => [some (.ref (La 16)), some (.int (zI (k : Int))), some (.int (zI (fa : Int))), some (.int (zI ((k : Int) + (y.1 : Int))))]) (fun y => []) ?_ (0, M, mt) ⟨Nat.zero_le _, rfl, hS, mq_F.rf⟩
  rintro ⟨i, M3, m3⟩ ⟨hi, hl3, hS3, hF3⟩ ih
  dsimp only at hi hl3 hS3 hF3 ih ⊢
  have hD3 := hD.fr hF3 (mq_ni hI (by decide) (by decide) (by decide)) (mq_ni hI (by decide) (by decide) (by decide)) (mq_ni hI (by decide) (by decide) (by decide))
  refine xr_iload_n C dX8_scaleRow_2 rfl ?_
  refine xr_iload_n C dX8_scaleRow_3 rfl ?_
  refine xr_bipush (n := 20) C dX8_scaleRow_4 (by decide +kernel) ?_
  refine xr_iadd C dX8_scaleRow_6 ?_
  refine xr_icmp_ge C dX8_scaleRow_7 rfl (by first | omega | (dsimp only; omega)) (by first | omega | (dsimp only; omega)) (fun hq1 => ?_) (fun hq1 => ?_)
  · exact xr_vret C hr hlk ⟨rfl, ⟨m3, hl3, hS3⟩, hF3⟩ (by omega) (by omega) dX8_scaleRow_40
  · have hb := mq_gd_lt hS3.2.1.2.2.2.2.1 ((k : Int) + (i : Int))
    have hb2 := gfM_lt fa (mq_gd m3 ((k : Int) + (i : Int)))
    refine xr_aload_n C dX8_scaleRow_10 rfl ?_
    refine xr_get C (Cn := RX8) (T := TX8) (N := 3) (by decide +kernel) hS3.1 rfl 1 (by decide) (C.1.2.2.2.2 (.fieldLink RX8 16 "OssuaryVault$Recovery" "matrix" "LOssuaryVault$Bytes;") (by decide +kernel)) (fun _ h => h) rfl dX8_scaleRow_11 ?_
    refine xr_iload_n C dX8_scaleRow_14 rfl ?_
    refine xr_aload_n C dX8_scaleRow_15 rfl ?_
    refine xr_get C (Cn := RX8) (T := TX8) (N := 3) (by decide +kernel) hS3.1 rfl 0 (by decide) (C.1.2.2.2.2 (.fieldLink RX8 24 "OssuaryVault$Recovery" "field" "LOssuaryVault$Field;") (by decide +kernel)) (fun _ h => h) rfl dX8_scaleRow_16 ?_
    refine xr_iload_n C dX8_scaleRow_19 rfl ?_
    refine xr_aload_n C dX8_scaleRow_20 rfl ?_
    refine xr_get C (Cn := RX8) (T := TX8) (N := 3) (by decide +kernel) hS3.1 rfl 1 (by decide) (C.1.2.2.2.2 (.fieldLink RX8 16 "OssuaryVault$Recovery" "matrix" "LOssuaryVault$Bytes;") (by decide +kernel)) (fun _ h => h) rfl dX8_scaleRow_21 ?_
    refine xr_iload_n C dX8_scaleRow_24 rfl ?_
    refine xr_callV1i C (c_at l G _ _ _ _ M3 hS3.2.1 ((k : Int) + (i : Int)) (by omega)) (cwV 1 C.1.2.2.2.2 gX8_scaleRow_X0_at rfl rfl rfl (by decide +kernel) ⟨Nat.le_of_ble_eq_true rfl, Nat.le_of_ble_eq_true rfl⟩) hS3.2.1.1 rfl (Nat.le_of_ble_eq_true rfl) ⟨by dsimp only; omega, by dsimp only; omega⟩ dX8_scaleRow_25 (fun r2 M9 hp9 => ?_)
    obtain ⟨rfl, rfl⟩ := hp9
    refine xr_callV2i C (c_times l G _ _ _ M3 hD3 fa _ hfa hb) (cwV 2 C.1.2.2.2.2 gX8_scaleRow_X4_times rfl rfl rfl (by decide +kernel) ⟨Nat.le_of_ble_eq_true rfl, Nat.le_of_ble_eq_true rfl⟩) hD3.1 rfl (Nat.le_of_ble_eq_true rfl) ⟨by dsimp only; omega, by dsimp only; omega⟩ dX8_scaleRow_28 (fun r3 M9 hp9 => ?_)
    obtain ⟨rfl, rfl⟩ := hp9
    refine xr_callV2v C (c_put l G _ _ _ _ M3 hS3.2.1 ((k : Int) + (i : Int)) (by omega) _ hb2) (cwV 2 C.1.2.2.2.2 gX8_scaleRow_X0_put rfl rfl rfl (by decide +kernel) ⟨Nat.le_of_ble_eq_true rfl, Nat.le_of_ble_eq_true rfl⟩) hS3.2.1.1 rfl (Nat.le_of_ble_eq_true rfl) ⟨by dsimp only; omega, by dsimp only; omega⟩ dX8_scaleRow_31 (fun M4 hp4 => ?_)
    obtain ⟨hB4, hF4⟩ := hp4
    have hF4b : mq_FR La [17, 18] M3 M4 := hF4.mono (by simp)
    have hl4 := (mq_put_len m3 ((k : Int) + (i : Int)) (gfM fa (mq_gd m3 ((k : Int) + (i : Int))))).trans hl3
    refine xr_iinc C dX8_scaleRow_34 rfl (by decide) rfl ?_
    refine xr_goto C dX8_scaleRow_37 rfl ?_
    rw [show (k : Int) + (i : Int) + 1 = (k : Int) + ((i + 1 : Nat) : Int) by omega]
    exact ih (i + 1, M4, _) ⟨by dsimp only; omega, hl4, hS3.mt hI hF4b hB4, hF3.tr hF4b⟩ (by dsimp only; omega)
set_option maxHeartbeats 4000000 in
set_option maxRecDepth 100000 in
theorem c_invert (l : Launch) (G : mq_G) (La : Nat → Nat) (hI : mq_inj La) (mt : List Nat) (cho : Nat → Nat) (M : mq_M) (hS : rcI G M La mt cho) (hD : fdI G M (La 3) (La 4) (La 5)) (dn : Nat) (hdn : dn ≤ 10) : mq_T l yX8_invert wsX8_invert { frames := 3, cells := 0, slots := 0, locals := 71 } G [.ref (La 16), .int (zI (dn : Int))] M (mq_pv (fun M2 => (∃ mt2 : List Nat, mt2.length = mt.length ∧ rcI G M2 La mt2 cho) ∧ mq_FR La [17, 18] M M2)) 0 0 := by
  refine mq_Met.of (cc := cX8_invert) (maxL := 6) (ret := none) (by decide) rfl (Nat.le_of_ble_eq_true rfl) rfl rfl ?_
  intro p_ e_ s_ m_ args_ below_ meth_ c_ z_ C hr hlk hname
  refine xr_iconst (n := 0) C dX8_invert_0 (by decide +kernel) ?_
  refine xr_istore_n C dX8_invert_1 (by decide) rfl ?_
  refine mq_loop (σ := Nat × mq_M × List Nat) (fun y => y.1 ≤ dn ∧ y.2.2.length = mt.length ∧ rcI G y.2.1 La y.2.2 cho ∧ mq_FR La [17, 18] M y.2.1) (fun y => dn - y.1) (fun y => y.2.1) (fun y => [some (.ref (La 16)), some (.int (zI (dn : Int))), some (.int (zI (y.1 : Int))), none, none, none]) (fun y => []) ?_ (0, M, mt) ⟨Nat.zero_le _, rfl, hS, mq_F.rf⟩
  rintro ⟨i, M3, m3⟩ ⟨hi, hl3, hS3, hF3⟩ ih
  dsimp only at hi hl3 hS3 hF3 ih ⊢
  have hD3 := hD.fr hF3 (mq_ni hI (by decide) (by decide) (by decide)) (mq_ni hI (by decide) (by decide) (by decide)) (mq_ni hI (by decide) (by decide) (by decide))
  refine xr_iload_n C dX8_invert_2 rfl ?_
  refine xr_iload_n C dX8_invert_3 rfl ?_
  refine xr_icmp_ge C dX8_invert_4 rfl (by first | omega | (dsimp only; omega)) (by first | omega | (dsimp only; omega)) (fun hq1 => ?_) (fun hq1 => ?_)
  · exact xr_vret C hr hlk ⟨rfl, ⟨m3, hl3, hS3⟩, hF3⟩ (by omega) (by omega) dX8_invert_102
  · have hb := mq_gd_lt hS3.2.1.2.2.2.2.1 ((i : Int) * 20 + (i : Int))
    refine xr_iload_n C dX8_invert_7 rfl ?_
    refine xr_bipush (n := 20) C dX8_invert_8 (by decide +kernel) ?_
    refine xr_imul C dX8_invert_10 ?_
    refine xr_istore_n C dX8_invert_11 (by decide) rfl ?_
    refine xr_aload_n C dX8_invert_12 rfl ?_
    refine xr_iload_n C dX8_invert_13 rfl ?_
    refine xr_aload_n C dX8_invert_14 rfl ?_
    refine xr_get C (Cn := RX8) (T := TX8) (N := 3) (by decide +kernel) hS3.1 rfl 0 (by decide) (C.1.2.2.2.2 (.fieldLink RX8 24 "OssuaryVault$Recovery" "field" "LOssuaryVault$Field;") (by decide +kernel)) (fun _ h => h) rfl dX8_invert_15 ?_
    refine xr_aload_n C dX8_invert_18 rfl ?_
    refine xr_get C (Cn := RX8) (T := TX8) (N := 3) (by decide +kernel) hS3.1 rfl 1 (by decide) (C.1.2.2.2.2 (.fieldLink RX8 16 "OssuaryVault$Recovery" "matrix" "LOssuaryVault$Bytes;") (by decide +kernel)) (fun _ h => h) rfl dX8_invert_19 ?_
    refine xr_iload_n C dX8_invert_22 rfl ?_
    refine xr_iload_n C dX8_invert_23 rfl ?_
    refine xr_iadd C dX8_invert_24 ?_
    refine xr_callV1i C (c_at l G _ _ _ _ M3 hS3.2.1 ((i : Int) * 20 + (i : Int)) (by omega)) (cwV 1 C.1.2.2.2.2 gX8_invert_X0_at rfl rfl rfl (by decide +kernel) ⟨Nat.le_of_ble_eq_true rfl, Nat.le_of_ble_eq_true rfl⟩) hS3.2.1.1 rfl (Nat.le_of_ble_eq_true rfl) ⟨by dsimp only; omega, by dsimp only; omega⟩ dX8_invert_25 (fun r2 M9 hp9 => ?_)
    obtain ⟨rfl, rfl⟩ := hp9
    refine xr_callV1i C (c_oneOver l G _ _ _ M3 hD3 _ hb) (cwV 1 C.1.2.2.2.2 gX8_invert_X4_oneOver rfl rfl rfl (by decide +kernel) ⟨Nat.le_of_ble_eq_true rfl, Nat.le_of_ble_eq_true rfl⟩) hD3.1 rfl (Nat.le_of_ble_eq_true rfl) ⟨by dsimp only; omega, by dsimp only; omega⟩ dX8_invert_28 (fun r3 M9 hp9 => ?_)
    obtain ⟨rfl, rfl⟩ := hp9
    rw [show (i : Int) * 20 = ((i * 20 : Nat) : Int) by omega]
    refine xr_callV2v C (c_scaleRow l G La hI m3 cho M3 hS3 hD3 (i * 20) _ (by omega) (gfI_lt _)) (cwV 2 C.1.2.2.2.2 gX8_invert_X8_scaleRow rfl rfl rfl (by decide +kernel) ⟨Nat.le_of_ble_eq_true rfl, Nat.le_of_ble_eq_true rfl⟩) hS3.1 rfl (Nat.le_of_ble_eq_true rfl) ⟨by dsimp only; omega, by dsimp only; omega⟩ dX8_invert_31 (fun M4 hp4 => ?_)
    obtain ⟨⟨m4, hl4, hS4⟩, hF4⟩ := hp4
    have G4 := hF3.tr hF4
    have hD4 := hD.fr G4 (mq_ni hI (by decide) (by decide) (by decide)) (mq_ni hI (by decide) (by decide) (by decide)) (mq_ni hI (by decide) (by decide) (by decide))
    refine xr_iconst (n := 0) C dX8_invert_34 (by decide +kernel) ?_
    refine xr_istore C dX8_invert_35 (by decide) rfl ?_
    refine mq_loop (σ := Nat × mq_M × List Nat) (fun y => y.1 ≤ dn ∧ y.2.2.length = mt.length ∧ rcI G y.2.1 La y.2.2 cho ∧ mq_FR La [17, 18] M y.2.1) (fun y => dn - y.1) (fun y => y.2.1) (fun y => [some (.ref (La 16)), some (.int (zI (dn : Int))), some (.int (zI (i : Int))), some (.int (zI ((i * 20 : Nat) : Int))), some (.int (zI (y.1 : Int))), none]) (fun y => []) ?_ (0, M4, m4) ⟨Nat.zero_le _, hl4.trans hl3, hS4, G4⟩
    rintro ⟨j, M5, m5⟩ ⟨hj, hl5, hS5, hF5⟩ ih2
    dsimp only at hj hl5 hS5 hF5 ih2 ⊢
    have hD5 := hD.fr hF5 (mq_ni hI (by decide) (by decide) (by decide)) (mq_ni hI (by decide) (by decide) (by decide)) (mq_ni hI (by decide) (by decide) (by decide))
    refine xr_iload C dX8_invert_37 rfl ?_
    refine xr_iload_n C dX8_invert_39 rfl ?_
    refine xr_icmp_ge C dX8_invert_40 rfl (by first | omega | (dsimp only; omega)) (by first | omega | (dsimp only; omega)) (fun hq4 => ?_) (fun hq4 => ?_)
    · refine xr_iinc C dX8_invert_96 rfl (by decide) rfl ?_
      refine xr_goto C dX8_invert_99 rfl ?_
      refine mq_drop 3 (mq_drop 4 ?_)
      exact ih (i + 1, M5, m5) ⟨by dsimp only; omega, hl5, hS5, hF5⟩ (by dsimp only; omega)
    · refine xr_iload C dX8_invert_43 rfl ?_
      refine xr_iload_n C dX8_invert_45 rfl ?_
      refine xr_icmp_eq C dX8_invert_46 rfl (by first | omega | (dsimp only; omega)) (by first | omega | (dsimp only; omega)) (fun hq5 => ?_) (fun hq5 => ?_)
      · refine xr_iinc C dX8_invert_90 rfl (by decide) rfl ?_
        refine xr_goto C dX8_invert_93 rfl ?_
        exact ih2 (j + 1, M5, m5) ⟨by dsimp only; omega, hl5, hS5, hF5⟩ (by dsimp only; omega)
      · have hb5 := mq_gd_lt hS5.2.1.2.2.2.2.1 ((j : Int) * 20 + (i : Int))
        refine xr_aload_n C dX8_invert_49 rfl ?_
        refine xr_get C (Cn := RX8) (T := TX8) (N := 3) (by decide +kernel) hS5.1 rfl 1 (by decide) (C.1.2.2.2.2 (.fieldLink RX8 16 "OssuaryVault$Recovery" "matrix" "LOssuaryVault$Bytes;") (by decide +kernel)) (fun _ h => h) rfl dX8_invert_50 ?_
        refine xr_iload C dX8_invert_53 rfl ?_
        refine xr_bipush (n := 20) C dX8_invert_55 (by decide +kernel) ?_
        refine xr_imul C dX8_invert_57 ?_
        refine xr_iload_n C dX8_invert_58 rfl ?_
        refine xr_iadd C dX8_invert_59 ?_
        refine xr_callV1i C (c_at l G _ _ _ _ M5 hS5.2.1 ((j : Int) * 20 + (i : Int)) (by omega)) (cwV 1 C.1.2.2.2.2 gX8_invert_X0_at rfl rfl rfl (by decide +kernel) ⟨Nat.le_of_ble_eq_true rfl, Nat.le_of_ble_eq_true rfl⟩) hS5.2.1.1 rfl (Nat.le_of_ble_eq_true rfl) ⟨by dsimp only; omega, by dsimp only; omega⟩ dX8_invert_60 (fun r6 M9 hp9 => ?_)
        obtain ⟨rfl, rfl⟩ := hp9
        refine xr_istore C dX8_invert_63 (by decide) rfl ?_
        refine xr_aload_n C dX8_invert_65 rfl ?_
        refine xr_get C (Cn := RX8) (T := TX8) (N := 3) (by decide +kernel) hS5.1 rfl 0 (by decide) (C.1.2.2.2.2 (.fieldLink RX8 24 "OssuaryVault$Recovery" "field" "LOssuaryVault$Field;") (by decide +kernel)) (fun _ h => h) rfl dX8_invert_66 ?_
        refine xr_aload_n C dX8_invert_69 rfl ?_
        refine xr_get C (Cn := RX8) (T := TX8) (N := 3) (by decide +kernel) hS5.1 rfl 1 (by decide) (C.1.2.2.2.2 (.fieldLink RX8 16 "OssuaryVault$Recovery" "matrix" "LOssuaryVault$Bytes;") (by decide +kernel)) (fun _ h => h) rfl dX8_invert_70 ?_
        refine xr_iload C dX8_invert_73 rfl ?_
        refine xr_bipush (n := 20) C dX8_invert_75 (by decide +kernel) ?_
        refine xr_imul C dX8_invert_77 ?_
        refine xr_iload C dX8_invert_78 rfl ?_
        refine xr_aload_n C dX8_invert_80 rfl ?_
        refine xr_get C (Cn := RX8) (T := TX8) (N := 3) (by decide +kernel) hS5.1 rfl 1 (by decide) (C.1.2.2.2.2 (.fieldLink RX8 16 "OssuaryVault$Recovery" "matrix" "LOssuaryVault$Bytes;") (by decide +kernel)) (fun _ h => h) rfl dX8_invert_81 ?_
        refine xr_iload_n C dX8_invert_84 rfl ?_
        refine xr_bipush (n := 20) C dX8_invert_85 (by decide +kernel) ?_
        refine xr_callV6v C (c_addProductsS l G _ _ _ M5 hD5 _ _ _ _ hS5.2.1 ⟨(mq_ne hI (by decide) (by decide) (by decide)), (mq_ne hI (by decide) (by decide) (by decide)), (mq_ne hI (by decide) (by decide) (by decide))⟩ ((j : Int) * 20) ((i * 20 : Nat) : Int) _ 20 hb5 (by omega) (by omega) (by decide)) (cwV 6 C.1.2.2.2.2 gX8_invert_X4_addProducts rfl rfl rfl (by decide +kernel) ⟨Nat.le_of_ble_eq_true rfl, Nat.le_of_ble_eq_true rfl⟩) hD5.1 rfl (Nat.le_of_ble_eq_true rfl) ⟨by dsimp only; omega, by dsimp only; omega⟩ dX8_invert_87 (fun M6 hp6 => ?_)
        obtain ⟨⟨m6, hl6, hB6⟩, hF6⟩ := hp6
        have hF6b : mq_FR La [17, 18] M5 M6 := hF6.mono (by simp)
        refine xr_iinc C dX8_invert_90 rfl (by decide) rfl ?_
        refine xr_goto C dX8_invert_93 rfl ?_
        refine mq_drop 5 ?_
        exact ih2 (j + 1, M6, m6) ⟨by dsimp only; omega, hl6.trans hl5, hS5.mt hI hF6b hB6, hF5.tr hF6b⟩ (by dsimp only; omega)
set_option maxHeartbeats 4000000 in
set_option maxRecDepth 100000 in
theorem c_writeWeights (l : Launch) (G : mq_G) (La : Nat → Nat) (hI : mq_inj La) (mt : List Nat) (cho : Nat → Nat) (M : mq_M) (hS : rcI G M La mt cho) (hD : fdI G M (La 3) (La 4) (La 5)) (dn : Nat) (hdn : dn ≤ 10) (hch : ∀ i, i < 10 → cho i < 100) : mq_T l yX8_writeWeights wsX8_writeWeights { frames := 4, cells := 0, slots := 0, locals := 87 } G [.ref (La 16), .int (zI (dn : Int))] M (mq_pv (fun M2 => (∃ mt2 : List Nat, rcI G M2 La mt2 cho) ∧ mq_FR La [17, 18] M M2)) 0 0 := by
  refine mq_Met.of (cc := cX8_writeWeights) (maxL := 4) (ret := none) (by decide) rfl (Nat.le_of_ble_eq_true rfl) rfl rfl ?_
  intro p_ e_ s_ m_ args_ below_ meth_ c_ z_ C hr hlk hname
  refine xr_aload_n C dX8_writeWeights_0 rfl ?_
  refine xr_get C (Cn := RX8) (T := TX8) (N := 3) (by decide +kernel) hS.1 rfl 1 (by decide) (C.1.2.2.2.2 (.fieldLink RX8 16 "OssuaryVault$Recovery" "matrix" "LOssuaryVault$Bytes;") (by decide +kernel)) (fun _ h => h) rfl dX8_writeWeights_1 ?_
  refine xr_callV0v C (c_clear l G _ _ _ _ M hS.2.1) (cwV 0 C.1.2.2.2.2 gX8_writeWeights_X0_clear rfl rfl rfl (by decide +kernel) ⟨Nat.le_of_ble_eq_true rfl, Nat.le_of_ble_eq_true rfl⟩) hS.2.1.1 rfl (Nat.le_of_ble_eq_true rfl) ⟨by dsimp only; omega, by dsimp only; omega⟩ dX8_writeWeights_4 (fun M1 hp1 => ?_)
  obtain ⟨hB1, hF1⟩ := hp1
  have hF1b : mq_FR La [17, 18] M M1 := hF1.mono (by simp)
  have hS1 := hS.mt hI hF1b hB1
  refine xr_aload_n C dX8_writeWeights_7 rfl ?_
  refine xr_get C (Cn := RX8) (T := TX8) (N := 3) (by decide +kernel) hS1.1 rfl 1 (by decide) (C.1.2.2.2.2 (.fieldLink RX8 16 "OssuaryVault$Recovery" "matrix" "LOssuaryVault$Bytes;") (by decide +kernel)) (fun _ h => h) rfl dX8_writeWeights_8 ?_
  refine xr_iconst (n := 0) C dX8_writeWeights_11 (by decide +kernel) ?_
  refine xr_sipush (n := 200) C dX8_writeWeights_12 (by decide +kernel) ?_
  refine xr_callV2v C (c_addTimes l G _ _ _ _ M1 hB1 0 (by decide) 200 (by decide)) (cwV 2 C.1.2.2.2.2 gX8_writeWeights_X0_addTimes rfl rfl rfl (by decide +kernel) ⟨Nat.le_of_ble_eq_true rfl, Nat.le_of_ble_eq_true rfl⟩) hS1.2.1.1 rfl (Nat.le_of_ble_eq_true rfl) ⟨by dsimp only; omega, by dsimp only; omega⟩ dX8_writeWeights_15 (fun M2 hp2 => ?_)
  obtain ⟨hB2, hF2⟩ := hp2
  change mq_FR La [17, 18] M1 M2 at hF2
  have hS2 := hS1.mt hI hF2 hB2
  have G2 := hF1b.tr hF2
  refine xr_iconst (n := 0) C dX8_writeWeights_18 (by decide +kernel) ?_
  refine xr_istore_n C dX8_writeWeights_19 (by decide) rfl ?_
  refine mq_loop (σ := Nat × mq_M × List Nat) (fun y => y.1 ≤ dn ∧ rcI G y.2.1 La y.2.2 cho ∧ mq_FR La [17, 18] M y.2.1) (fun y => dn - y.1) (fun y => y.2.1) (fun y => [some (.ref (La 16)), some (.int (zI (dn : Int))), some (.int (zI (y.1 : Int))), none]) (fun y => []) ?_ (0, M2, _) ⟨Nat.zero_le _, hS2, G2⟩
  rintro ⟨i, M3, m3⟩ ⟨hi, hS3, hF3⟩ ih
  dsimp only at hi hS3 hF3 ih ⊢
  have hS3c := hS3
  obtain ⟨q1, q2, fc, q3, q4⟩ := hS3
  refine xr_iload_n C dX8_writeWeights_20 rfl ?_
  refine xr_iload_n C dX8_writeWeights_21 rfl ?_
  refine xr_icmp_ge C dX8_writeWeights_22 rfl (by first | omega | (dsimp only; omega)) (by first | omega | (dsimp only; omega)) (fun hq1 => ?_) (fun hq1 => ?_)
  · exact xr_vret C hr hlk ⟨rfl, ⟨m3, hS3c⟩, hF3⟩ (by omega) (by omega) dX8_writeWeights_98
  · refine xr_iload_n C dX8_writeWeights_25 rfl ?_
    refine xr_aload_n C dX8_writeWeights_26 rfl ?_
    refine xr_get C (Cn := RX8) (T := TX8) (N := 3) (by decide +kernel) q1 rfl 2 (by decide) (C.1.2.2.2.2 (.fieldLink RX8 20 "OssuaryVault$Recovery" "chosen" "[I") (by decide +kernel)) (fun _ h => h) rfl dX8_writeWeights_27 ?_
    refine xr_alen C q3 mq_tI dX8_writeWeights_30 ?_
    refine xr_icmp_ge C dX8_writeWeights_31 rfl (by first | omega | (dsimp only; omega)) (by first | omega | (dsimp only; omega)) (fun hq => absurd hq (by dsimp only; omega)) (fun _ => ?_)
    have hi10 : i < 10 := by omega
    refine xr_iconst (n := 0) C dX8_writeWeights_34 (by decide +kernel) ?_
    refine xr_istore_n C dX8_writeWeights_35 (by decide) rfl ?_
    refine mq_loop (σ := Nat × mq_M × List Nat) (fun y => y.1 ≤ dn ∧ rcI G y.2.1 La y.2.2 cho ∧ mq_FR La [17, 18] M y.2.1) (fun y => dn - y.1) (fun y => y.2.1) (fun y => [some (.ref (La 16)), some (.int (zI (dn : Int))), some (.int (zI (i : Int))), some (.int (zI (y.1 : Int)))]) (fun y => []) ?_ (0, M3, m3) ⟨Nat.zero_le _, hS3c, hF3⟩
    rintro ⟨j, M5, m5⟩ ⟨hj, hS5, hF5⟩ ih2
    dsimp only at hj hS5 hF5 ih2 ⊢
    have hS5c := hS5
    obtain ⟨u1, u2, fc5, u3, u4⟩ := hS5
    have hD5 := hD.fr hF5 (mq_ni hI (by decide) (by decide) (by decide)) (mq_ni hI (by decide) (by decide) (by decide)) (mq_ni hI (by decide) (by decide) (by decide))
    refine xr_iload_n C dX8_writeWeights_36 rfl ?_
    refine xr_iload_n C dX8_writeWeights_37 rfl ?_
    refine xr_icmp_ge C dX8_writeWeights_38 rfl (by first | omega | (dsimp only; omega)) (by first | omega | (dsimp only; omega)) (fun hq2 => ?_) (fun hq2 => ?_)
    · refine xr_aload_n C dX8_writeWeights_75 rfl ?_
      refine xr_get C (Cn := RX8) (T := TX8) (N := 3) (by decide +kernel) u1 rfl 1 (by decide) (C.1.2.2.2.2 (.fieldLink RX8 16 "OssuaryVault$Recovery" "matrix" "LOssuaryVault$Bytes;") (by decide +kernel)) (fun _ h => h) rfl dX8_writeWeights_76 ?_
      refine xr_iload_n C dX8_writeWeights_79 rfl ?_
      refine xr_bipush (n := 20) C dX8_writeWeights_80 (by decide +kernel) ?_
      refine xr_imul C dX8_writeWeights_82 ?_
      refine xr_bipush (n := 10) C dX8_writeWeights_83 (by decide +kernel) ?_
      refine xr_iadd C dX8_writeWeights_85 ?_
      refine xr_iload_n C dX8_writeWeights_86 rfl ?_
      refine xr_iadd C dX8_writeWeights_87 ?_
      refine xr_iconst (n := 1) C dX8_writeWeights_88 (by decide +kernel) ?_
      refine xr_callV2v C (c_put l G _ _ _ _ M5 u2 ((i : Int) * 20 + 10 + (i : Int)) (by omega) 1 (by decide)) (cwV 2 C.1.2.2.2.2 gX8_writeWeights_X0_put rfl rfl rfl (by decide +kernel) ⟨Nat.le_of_ble_eq_true rfl, Nat.le_of_ble_eq_true rfl⟩) u2.1 rfl (Nat.le_of_ble_eq_true rfl) ⟨by dsimp only; omega, by dsimp only; omega⟩ dX8_writeWeights_89 (fun M6 hp6 => ?_)
      obtain ⟨hB6, hF6⟩ := hp6
      have hF6b : mq_FR La [17, 18] M5 M6 := hF6.mono (by simp)
      refine xr_iinc C dX8_writeWeights_92 rfl (by decide) rfl ?_
      refine xr_goto C dX8_writeWeights_95 rfl ?_
      refine mq_drop 3 ?_
      exact ih (i + 1, M6, _) ⟨by dsimp only; omega, hS5c.mt hI hF6b hB6, hF5.tr hF6b⟩ (by dsimp only; omega)
    · refine xr_aload_n C dX8_writeWeights_41 rfl ?_
      refine xr_get C (Cn := RX8) (T := TX8) (N := 3) (by decide +kernel) u1 rfl 1 (by decide) (C.1.2.2.2.2 (.fieldLink RX8 16 "OssuaryVault$Recovery" "matrix" "LOssuaryVault$Bytes;") (by decide +kernel)) (fun _ h => h) rfl dX8_writeWeights_42 ?_
      refine xr_iload_n C dX8_writeWeights_45 rfl ?_
      refine xr_bipush (n := 20) C dX8_writeWeights_46 (by decide +kernel) ?_
      refine xr_imul C dX8_writeWeights_48 ?_
      refine xr_iload_n C dX8_writeWeights_49 rfl ?_
      refine xr_iadd C dX8_writeWeights_50 ?_
      refine xr_aload_n C dX8_writeWeights_51 rfl ?_
      refine xr_get C (Cn := RX8) (T := TX8) (N := 3) (by decide +kernel) u1 rfl 0 (by decide) (C.1.2.2.2.2 (.fieldLink RX8 24 "OssuaryVault$Recovery" "field" "LOssuaryVault$Field;") (by decide +kernel)) (fun _ h => h) rfl dX8_writeWeights_52 ?_
      refine xr_aload_n C dX8_writeWeights_55 rfl ?_
      refine xr_get C (Cn := RX8) (T := TX8) (N := 3) (by decide +kernel) u1 rfl 2 (by decide) (C.1.2.2.2.2 (.fieldLink RX8 20 "OssuaryVault$Recovery" "chosen" "[I") (by decide +kernel)) (fun _ h => h) rfl dX8_writeWeights_56 ?_
      refine xr_iload_n C dX8_writeWeights_59 rfl ?_
      refine xr_iald C u3 mq_tI (by first | omega | (dsimp only; omega)) (by first | omega | (dsimp only; omega)) (by first | omega | (dsimp only; omega)) dX8_writeWeights_60 ?_
      rw [Int.toNat_natCast, u4 i hi10]
      have hc9 := hch i hi10
      refine xr_iload_n C dX8_writeWeights_61 rfl ?_
      refine xr_iload_n C dX8_writeWeights_62 rfl ?_
      refine xr_callV3i C (c_weight l G _ _ _ M5 hD5 (cho i) j dn hc9 (by omega) (by omega)) (cwV 3 C.1.2.2.2.2 gX8_writeWeights_X4_weight rfl rfl rfl (by decide +kernel) ⟨Nat.le_of_ble_eq_true rfl, Nat.le_of_ble_eq_true rfl⟩) hD5.1 rfl (Nat.le_of_ble_eq_true rfl) ⟨by dsimp only; omega, by dsimp only; omega⟩ dX8_writeWeights_63 (fun r3 M9 hp9 => ?_)
      obtain ⟨rfl, rfl⟩ := hp9
      refine xr_callV2v C (c_put l G _ _ _ _ M5 u2 ((i : Int) * 20 + (j : Int)) (by omega) _ (gfW_lt _ _ _)) (cwV 2 C.1.2.2.2.2 gX8_writeWeights_X0_put rfl rfl rfl (by decide +kernel) ⟨Nat.le_of_ble_eq_true rfl, Nat.le_of_ble_eq_true rfl⟩) u2.1 rfl (Nat.le_of_ble_eq_true rfl) ⟨by dsimp only; omega, by dsimp only; omega⟩ dX8_writeWeights_66 (fun M6 hp6 => ?_)
      obtain ⟨hB6, hF6⟩ := hp6
      have hF6b : mq_FR La [17, 18] M5 M6 := hF6.mono (by simp)
      refine xr_iinc C dX8_writeWeights_69 rfl (by decide) rfl ?_
      refine xr_goto C dX8_writeWeights_72 rfl ?_
      exact ih2 (j + 1, M6, _) ⟨by dsimp only; omega, hS5c.mt hI hF6b hB6, hF5.tr hF6b⟩ (by dsimp only; omega)
