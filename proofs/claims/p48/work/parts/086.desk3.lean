set_option maxHeartbeats 4000000 in
set_option maxRecDepth 100000 in
theorem c_writeIndex (l : Launch) (G : mq_G) (La : Nat → Nat) (hI : mq_inj La) (pf : Nat → Nat) (n : Nat) (ky : Nat → Nat) (c pk : Nat → List Nat) (ck : Nat → Nat) (M : mq_M) (hP : dkP pf n ky c ck) (hS : dkI G M La pf n ky c pk ck) (S : List Nat) (hB : bI G M (La 9) (La 10) 4070 S) (hSl : S.length + 6 * n + 6 ≤ 4070) : mq_T l yX2_writeIndex wsX2_writeIndex { frames := 3, cells := 0, slots := 0, locals := 60 } G [.ref (La 6)] M (mq_pv (fun M2 => (∃ S2 : List Nat, S2.length = S.length + 6 * n ∧ bI G M2 (La 9) (La 10) 4070 S2) ∧ mq_FR La [9, 10] M M2)) 0 0 := by
  refine mq_Met.of (cc := cX2_writeIndex) (maxL := 4) (ret := none) (by decide) rfl (Nat.le_of_ble_eq_true rfl) rfl rfl ?_
  intro p_ e_ s_ m_ args_ below_ meth_ c_ z_ C hr hlk hname
  have hS0 := hS
  obtain ⟨g1, ⟨fp, g2, g3⟩, g4⟩ := hS
  have hn := hP.2.2.1
  have hT : ∀ r ∈ [9, 10], r < 275 := by decide
  refine xr_iconst (n := 0) C dX2_writeIndex_0 (by decide +kernel) ?_
  refine xr_istore_n C dX2_writeIndex_1 (by decide) rfl ?_
  refine xr_iconst (n := 0) C dX2_writeIndex_2 (by decide +kernel) ?_
  refine xr_istore_n C dX2_writeIndex_3 (by decide) rfl ?_
  refine mq_loop (σ := Nat × Nat × mq_M × List Nat) (fun y => y.1 ≤ n ∧ y.2.1 ≤ 248 * y.1 ∧ y.2.2.2.length = S.length + 6 * y.1 ∧ bI G y.2.2.1 (La 9) (La 10) 4070 y.2.2.2 ∧ mq_FR La [9, 10] M y.2.2.1) (fun y => n - y.1) (fun y => y.2.2.1) (fun y => [some (.ref (La 6)), some (.int (zI (y.2.1 : Int))), some (.int (zI (y.1 : Int))), none]) (fun y => []) ?_ (0, 0, M, S) ⟨Nat.zero_le _, Nat.zero_le _, rfl, hB, mq_F.rf⟩
  rintro ⟨i, pl, M3, S3⟩ ⟨hi, hpl, hl3, hB3, hF3⟩ ih
  dsimp only at hi hpl hl3 hB3 hF3 ih ⊢
  have g1_3 := (hF3 (La 6) (mq_ni hI (by decide) hT (by decide))).trans g1
  refine xr_iload_n C dX2_writeIndex_4 rfl ?_
  refine xr_aload_n C dX2_writeIndex_5 rfl ?_
  refine xr_get C (Cn := RX2) (T := TX2) (N := 5) (by decide +kernel) g1_3 rfl 4 (by decide) (C.1.2.2.2.2 (.fieldLink RX2 34 "OssuaryVault$Desk" "count" "I") (by decide +kernel)) (fun _ h => h) rfl dX2_writeIndex_6 ?_
  refine xr_icmp_ge C dX2_writeIndex_9 rfl (by first | omega | (dsimp only; omega)) (by first | omega | (dsimp only; omega)) (fun hq1 => ?_) (fun hq1 => ?_)
  · exact xr_vret C hr hlk ⟨rfl, ⟨S3, by rw [hl3, show i = n by omega], hB3⟩, hF3⟩ (by omega) (by omega) dX2_writeIndex_68
  · have hin : i < n := by omega
    obtain ⟨hk1, hk2⟩ := hP.2.2.2.1 i hin
    have hcl := (g4 i (by omega)).2.1.2.2.1
    have hdl := dfB_len (c i) (pk i)
    have g1_M3 := (hF3 (La 6) (mq_ni hI (by decide) hT (by decide))).trans g1
    have g2_M3 := (hF3 (La 11) (mq_ni hI (by decide) hT (by decide))).trans g2
    have g4_M3 : ∀ j, j < 16 → dkV G M3 La (pf j) (ky j) (c j) (pk j) (ck j) := fun j hj => (g4 j hj).fr hI hF3 (hP.1 j hj) hT (fun r h1 h2 => by simp; omega)
    have hS_M3 : dkI G M3 La pf n ky c pk ck := ⟨g1_M3, ⟨fp, g2_M3, g3⟩, g4_M3⟩
    refine xr_aload_n C dX2_writeIndex_12 rfl ?_
    refine xr_iload_n C dX2_writeIndex_13 rfl ?_
    refine xr_callV1a C (c_dkAt l G La hI pf n ky c pk ck M3 hP hS_M3 i hin) (cwV 1 C.1.2.2.2.2 gX2_writeIndex_X2_at rfl rfl rfl (by decide +kernel) ⟨Nat.le_of_ble_eq_true rfl, Nat.le_of_ble_eq_true rfl⟩) g1_M3 rfl (Nat.le_of_ble_eq_true rfl) ⟨by dsimp only; omega, by dsimp only; omega⟩ dX2_writeIndex_14 (fun r9 M9 hp9 => ?_)
    obtain ⟨rfl, rfl⟩ := hp9
    refine xr_astore_n C dX2_writeIndex_17 (by decide) rfl ?_
    refine xr_aload_n C dX2_writeIndex_18 rfl ?_
    refine xr_ifnull_s C dX2_writeIndex_19 ?_
    refine xr_aload_n C dX2_writeIndex_22 rfl ?_
    refine xr_get C (Cn := RX2) (T := TX2) (N := 5) (by decide +kernel) g1_M3 rfl 2 (by decide) (C.1.2.2.2.2 (.fieldLink RX2 20 "OssuaryVault$Desk" "stream" "LOssuaryVault$Bytes;") (by decide +kernel)) (fun _ h => h) rfl dX2_writeIndex_23 ?_
    refine xr_aload_n C dX2_writeIndex_26 rfl ?_
    refine xr_getN C (Cn := RX3) (T := TX3) (N := 4) (by decide +kernel) (g4_M3 i (by omega)).1 rfl 2 (by decide) (va_Nw.use rfl (C.2.2.1 ("OssuaryVault$Desk", 49, "OssuaryVault$DeskFile", "key", "I", "OssuaryVault") (by decide +kernel))) (fun _ h => h) rfl dX2_writeIndex_27 ?_
    refine xr_callV1v C (c_addWord l G _ _ _ _ M3 hB3 (ky i) hk1 (by omega)) (cwV 1 C.1.2.2.2.2 gX2_writeIndex_X0_addWord rfl rfl rfl (by decide +kernel) ⟨Nat.le_of_ble_eq_true rfl, Nat.le_of_ble_eq_true rfl⟩) hB3.1 rfl (Nat.le_of_ble_eq_true rfl) ⟨by dsimp only; omega, by dsimp only; omega⟩ dX2_writeIndex_30 (fun M4 hp4 => ?_)
    obtain ⟨hB4, hF4⟩ := hp4
    change mq_FR La [9, 10] M3 M4 at hF4
    have G4 := hF3.tr hF4
    have g1_M4 := (G4 (La 6) (mq_ni hI (by decide) hT (by decide))).trans g1
    have g2_M4 := (G4 (La 11) (mq_ni hI (by decide) hT (by decide))).trans g2
    have g4_M4 : ∀ j, j < 16 → dkV G M4 La (pf j) (ky j) (c j) (pk j) (ck j) := fun j hj => (g4 j hj).fr hI G4 (hP.1 j hj) hT (fun r h1 h2 => by simp; omega)
    refine xr_aload_n C dX2_writeIndex_33 rfl ?_
    refine xr_get C (Cn := RX2) (T := TX2) (N := 5) (by decide +kernel) g1_M4 rfl 2 (by decide) (C.1.2.2.2.2 (.fieldLink RX2 20 "OssuaryVault$Desk" "stream" "LOssuaryVault$Bytes;") (by decide +kernel)) (fun _ h => h) rfl dX2_writeIndex_34 ?_
    refine xr_iload_n C dX2_writeIndex_37 rfl ?_
    refine xr_callV1v C (c_addWord l G _ _ _ _ M4 hB4 pl (by omega) (by simp; omega)) (cwV 1 C.1.2.2.2.2 gX2_writeIndex_X0_addWord rfl rfl rfl (by decide +kernel) ⟨Nat.le_of_ble_eq_true rfl, Nat.le_of_ble_eq_true rfl⟩) hB4.1 rfl (Nat.le_of_ble_eq_true rfl) ⟨by dsimp only; omega, by dsimp only; omega⟩ dX2_writeIndex_38 (fun M5 hp5 => ?_)
    obtain ⟨hB5, hF5⟩ := hp5
    change mq_FR La [9, 10] M4 M5 at hF5
    have G5 := G4.tr hF5
    have g1_M5 := (G5 (La 6) (mq_ni hI (by decide) hT (by decide))).trans g1
    have g2_M5 := (G5 (La 11) (mq_ni hI (by decide) hT (by decide))).trans g2
    have g4_M5 : ∀ j, j < 16 → dkV G M5 La (pf j) (ky j) (c j) (pk j) (ck j) := fun j hj => (g4 j hj).fr hI G5 (hP.1 j hj) hT (fun r h1 h2 => by simp; omega)
    refine xr_aload_n C dX2_writeIndex_41 rfl ?_
    refine xr_get C (Cn := RX2) (T := TX2) (N := 5) (by decide +kernel) g1_M5 rfl 2 (by decide) (C.1.2.2.2.2 (.fieldLink RX2 20 "OssuaryVault$Desk" "stream" "LOssuaryVault$Bytes;") (by decide +kernel)) (fun _ h => h) rfl dX2_writeIndex_42 ?_
    refine xr_aload_n C dX2_writeIndex_45 rfl ?_
    refine xr_getN C (Cn := RX3) (T := TX3) (N := 4) (by decide +kernel) (g4_M5 i (by omega)).1 rfl 0 (by decide) (va_Nw.use rfl (C.2.2.1 ("OssuaryVault$Desk", 64, "OssuaryVault$DeskFile", "content", "LOssuaryVault$Bytes;", "OssuaryVault") (by decide +kernel))) (fun _ h => h) rfl dX2_writeIndex_46 ?_
    refine xr_callV0i C (c_size l G _ _ _ _ M5 (g4_M5 i (by omega)).2.1) (cwV 0 C.1.2.2.2.2 gX2_writeIndex_X0_size rfl rfl rfl (by decide +kernel) ⟨Nat.le_of_ble_eq_true rfl, Nat.le_of_ble_eq_true rfl⟩) (g4_M5 i (by omega)).2.1.1 rfl (Nat.le_of_ble_eq_true rfl) ⟨by dsimp only; omega, by dsimp only; omega⟩ dX2_writeIndex_49 (fun r2 M9 hp9 => ?_)
    obtain ⟨rfl, rfl⟩ := hp9
    refine xr_callV1v C (c_addWord l G _ _ _ _ M5 hB5 (c i).length (by omega) (by simp; omega)) (cwV 1 C.1.2.2.2.2 gX2_writeIndex_X0_addWord rfl rfl rfl (by decide +kernel) ⟨Nat.le_of_ble_eq_true rfl, Nat.le_of_ble_eq_true rfl⟩) hB5.1 rfl (Nat.le_of_ble_eq_true rfl) ⟨by dsimp only; omega, by dsimp only; omega⟩ dX2_writeIndex_52 (fun M6 hp6 => ?_)
    obtain ⟨hB6, hF6⟩ := hp6
    change mq_FR La [9, 10] M5 M6 at hF6
    have G6 := G5.tr hF6
    have g1_M6 := (G6 (La 6) (mq_ni hI (by decide) hT (by decide))).trans g1
    have g2_M6 := (G6 (La 11) (mq_ni hI (by decide) hT (by decide))).trans g2
    have g4_M6 : ∀ j, j < 16 → dkV G M6 La (pf j) (ky j) (c j) (pk j) (ck j) := fun j hj => (g4 j hj).fr hI G6 (hP.1 j hj) hT (fun r h1 h2 => by simp; omega)
    refine xr_iload_n C dX2_writeIndex_55 rfl ?_
    refine xr_aload_n C dX2_writeIndex_56 rfl ?_
    refine xr_callV0i C (c_fstreamSize l G _ _ _ _ _ _ _ _ _ M6 (g4_M6 i (by omega))) (cwV 0 C.1.2.2.2.2 gX2_writeIndex_X3_streamSize rfl rfl rfl (by decide +kernel) ⟨Nat.le_of_ble_eq_true rfl, Nat.le_of_ble_eq_true rfl⟩) (g4_M6 i (by omega)).1 rfl (Nat.le_of_ble_eq_true rfl) ⟨by dsimp only; omega, by dsimp only; omega⟩ dX2_writeIndex_57 (fun r3 M9 hp9 => ?_)
    obtain ⟨rfl, rfl⟩ := hp9
    refine xr_iadd C dX2_writeIndex_60 ?_
    refine xr_istore_n C dX2_writeIndex_61 (by decide) rfl ?_
    refine xr_iinc C dX2_writeIndex_62 rfl (by decide) rfl ?_
    refine xr_goto C dX2_writeIndex_65 rfl ?_
    rw [show (pl : Int) + (8 + ((dfB (c i) (pk i)).length : Int)) = ((pl + (8 + (dfB (c i) (pk i)).length) : Nat) : Int) by omega]
    refine mq_drop 3 ?_
    exact ih (i + 1, pl + (8 + (dfB (c i) (pk i)).length), M6, _) ⟨by dsimp only; omega, by dsimp only; omega, by simp; omega, hB6, G6⟩ (by dsimp only; omega)
set_option maxHeartbeats 4000000 in
set_option maxRecDepth 100000 in
theorem c_writtenStream (l : Launch) (G : mq_G) (La : Nat → Nat) (hI : mq_inj La) (pf : Nat → Nat) (n : Nat) (ky : Nat → Nat) (c pk : Nat → List Nat) (ck : Nat → Nat) (M : mq_M) (hP : dkP pf n ky c ck) (hS : dkI G M La pf n ky c pk ck) (hC : ckI G M (La 1) (La 2)) (S : List Nat) (hB : bI G M (La 9) (La 10) 4070 S) : mq_T l yX2_writtenStream wsX2_writtenStream { frames := 4, cells := 0, slots := 0, locals := 83 } G [.ref (La 6)] M (mq_pa (fun r M2 => r = La 9 ∧ (∃ S2 : List Nat, (6 ≤ S2.length ∧ (n = 0 → S2.length = 6)) ∧ bI G M2 (La 9) (La 10) 4070 S2) ∧ mq_FR La [9, 10] M M2)) 0 0 := by
  refine mq_Met.of (cc := cX2_writtenStream) (maxL := 3) (ret := (some (.object "OssuaryVault$Bytes"))) (by decide) rfl (Nat.le_of_ble_eq_true rfl) rfl rfl ?_
  intro p_ e_ s_ m_ args_ below_ meth_ c_ z_ C hr hlk hname
  have hS0 := hS
  obtain ⟨g1, ⟨fp, g2, g3⟩, g4⟩ := hS
  have hn := hP.2.2.1
  have hT : ∀ r ∈ [9, 10], r < 275 := by decide
  refine xr_aload_n C dX2_writtenStream_0 rfl ?_
  refine xr_get C (Cn := RX2) (T := TX2) (N := 5) (by decide +kernel) g1 rfl 2 (by decide) (C.1.2.2.2.2 (.fieldLink RX2 20 "OssuaryVault$Desk" "stream" "LOssuaryVault$Bytes;") (by decide +kernel)) (fun _ h => h) rfl dX2_writtenStream_1 ?_
  refine xr_callV0v C (c_clear l G _ _ _ _ M hB) (cwV 0 C.1.2.2.2.2 gX2_writtenStream_X0_clear rfl rfl rfl (by decide +kernel) ⟨Nat.le_of_ble_eq_true rfl, Nat.le_of_ble_eq_true rfl⟩) hB.1 rfl (Nat.le_of_ble_eq_true rfl) ⟨by dsimp only; omega, by dsimp only; omega⟩ dX2_writtenStream_4 (fun M1 hp1 => ?_)
  obtain ⟨hB1, hF1⟩ := hp1
  have G1 : mq_FR La [9, 10] M M1 := hF1.mono (by simp)
  refine xr_iconst (n := 0) C dX2_writtenStream_7 (by decide +kernel) ?_
  refine xr_istore_n C dX2_writtenStream_8 (by decide) rfl ?_
  refine mq_loop (σ := Nat × mq_M × List Nat) (fun y => y.1 ≤ n ∧ y.2.2.length ≤ 248 * y.1 ∧ bI G y.2.1 (La 9) (La 10) 4070 y.2.2 ∧ mq_FR La [9, 10] M y.2.1) (fun y => n - y.1) (fun y => y.2.1) (fun y => [some (.ref (La 6)), some (.int (zI (y.1 : Int))), none]) (fun y => []) ?_ (0, M1, []) ⟨Nat.zero_le _, Nat.zero_le _, hB1, G1⟩
  rintro ⟨i, M3, S3⟩ ⟨hi, hl3, hB3, hF3⟩ ih
  dsimp only at hi hl3 hB3 hF3 ih ⊢
  have g1_3 := (hF3 (La 6) (mq_ni hI (by decide) hT (by decide))).trans g1
  refine xr_iload_n C dX2_writtenStream_9 rfl ?_
  refine xr_aload_n C dX2_writtenStream_10 rfl ?_
  refine xr_get C (Cn := RX2) (T := TX2) (N := 5) (by decide +kernel) g1_3 rfl 4 (by decide) (C.1.2.2.2.2 (.fieldLink RX2 34 "OssuaryVault$Desk" "count" "I") (by decide +kernel)) (fun _ h => h) rfl dX2_writtenStream_11 ?_
  refine xr_icmp_ge C dX2_writtenStream_14 rfl (by first | omega | (dsimp only; omega)) (by first | omega | (dsimp only; omega)) (fun hq1 => ?_) (fun hq1 => ?_)
  · have hin : i = n := by omega
    subst hin
    refine xr_aload_n C dX2_writtenStream_41 rfl ?_
    refine xr_get C (Cn := RX2) (T := TX2) (N := 5) (by decide +kernel) g1_3 rfl 2 (by decide) (C.1.2.2.2.2 (.fieldLink RX2 20 "OssuaryVault$Desk" "stream" "LOssuaryVault$Bytes;") (by decide +kernel)) (fun _ h => h) rfl dX2_writtenStream_42 ?_
    refine xr_callV0i C (c_size l G _ _ _ _ M3 hB3) (cwV 0 C.1.2.2.2.2 gX2_writtenStream_X0_size rfl rfl rfl (by decide +kernel) ⟨Nat.le_of_ble_eq_true rfl, Nat.le_of_ble_eq_true rfl⟩) hB3.1 rfl (Nat.le_of_ble_eq_true rfl) ⟨by dsimp only; omega, by dsimp only; omega⟩ dX2_writtenStream_45 (fun r2 M9 hp9 => ?_)
    obtain ⟨rfl, rfl⟩ := hp9
    refine xr_istore_n C dX2_writtenStream_48 (by decide) rfl ?_
    refine xr_aload_n C dX2_writtenStream_49 rfl ?_
    have hS3 : dkI G M3 La pf i ky c pk ck := ⟨g1_3, ⟨fp, (hF3 (La 11) (mq_ni hI (by decide) hT (by decide))).trans g2, g3⟩, fun j hj => (g4 j hj).fr hI hF3 (hP.1 j hj) hT (fun r h1 h2 => by simp; omega)⟩
    refine xr_callV0v C (c_writeIndex l G La hI pf i ky c pk ck M3 hP hS3 S3 hB3 (by omega)) (cwV 0 C.1.2.2.2.2 gX2_writtenStream_X2_writeIndex rfl rfl rfl (by decide +kernel) ⟨Nat.le_of_ble_eq_true rfl, Nat.le_of_ble_eq_true rfl⟩) g1_3 rfl (Nat.le_of_ble_eq_true rfl) ⟨by dsimp only; omega, by dsimp only; omega⟩ dX2_writtenStream_50 (fun M5 hp5 => ?_)
    obtain ⟨⟨S5, hl5, hB5⟩, hF5⟩ := hp5
    have G5 := hF3.tr hF5
    have hC5 := hC.fr G5 (mq_ni hI (by decide) hT (by decide)) (mq_ni hI (by decide) hT (by decide))
    have g1_5 := (G5 (La 6) (mq_ni hI (by decide) hT (by decide))).trans g1
    refine xr_aload_n C dX2_writtenStream_53 rfl ?_
    refine xr_get C (Cn := RX2) (T := TX2) (N := 5) (by decide +kernel) g1_5 rfl 0 (by decide) (C.1.2.2.2.2 (.fieldLink RX2 29 "OssuaryVault$Desk" "check" "LOssuaryVault$Check;") (by decide +kernel)) (fun _ h => h) rfl dX2_writtenStream_54 ?_
    refine xr_aload_n C dX2_writtenStream_57 rfl ?_
    refine xr_get C (Cn := RX2) (T := TX2) (N := 5) (by decide +kernel) g1_5 rfl 2 (by decide) (C.1.2.2.2.2 (.fieldLink RX2 20 "OssuaryVault$Desk" "stream" "LOssuaryVault$Bytes;") (by decide +kernel)) (fun _ h => h) rfl dX2_writtenStream_58 ?_
    refine xr_iload_n C dX2_writtenStream_61 rfl ?_
    refine xr_aload_n C dX2_writtenStream_62 rfl ?_
    refine xr_get C (Cn := RX2) (T := TX2) (N := 5) (by decide +kernel) g1_5 rfl 2 (by decide) (C.1.2.2.2.2 (.fieldLink RX2 20 "OssuaryVault$Desk" "stream" "LOssuaryVault$Bytes;") (by decide +kernel)) (fun _ h => h) rfl dX2_writtenStream_63 ?_
    refine xr_callV0i C (c_size l G _ _ _ _ M5 hB5) (cwV 0 C.1.2.2.2.2 gX2_writtenStream_X0_size rfl rfl rfl (by decide +kernel) ⟨Nat.le_of_ble_eq_true rfl, Nat.le_of_ble_eq_true rfl⟩) hB5.1 rfl (Nat.le_of_ble_eq_true rfl) ⟨by dsimp only; omega, by dsimp only; omega⟩ dX2_writtenStream_66 (fun r3 M9 hp9 => ?_)
    obtain ⟨rfl, rfl⟩ := hp9
    refine xr_callV3i C (c_over l G _ _ M5 hC5 _ _ _ _ hB5 (S3.length : Int) (S5.length : Int) (by omega) (by omega)) (cwV 3 C.1.2.2.2.2 gX2_writtenStream_X1_over rfl rfl rfl (by decide +kernel) ⟨Nat.le_of_ble_eq_true rfl, Nat.le_of_ble_eq_true rfl⟩) hC5.1 rfl (Nat.le_of_ble_eq_true rfl) ⟨by dsimp only; omega, by dsimp only; omega⟩ dX2_writtenStream_69 (fun r4 M9 hp9 => ?_)
    obtain ⟨rfl, rfl⟩ := hp9
    have hcr : crF 65535 (mq_part S5 (S3.length : Int) ((S5.length : Int) - (S3.length : Int)).toNat) < 65536 := crF_lt (by decide) _
    generalize crF 65535 (mq_part S5 (S3.length : Int) ((S5.length : Int) - (S3.length : Int)).toNat) = cr at hcr ⊢
    refine xr_istore_n C dX2_writtenStream_72 (by decide) rfl ?_
    refine xr_aload_n C dX2_writtenStream_73 rfl ?_
    refine xr_get C (Cn := RX2) (T := TX2) (N := 5) (by decide +kernel) g1_5 rfl 2 (by decide) (C.1.2.2.2.2 (.fieldLink RX2 20 "OssuaryVault$Desk" "stream" "LOssuaryVault$Bytes;") (by decide +kernel)) (fun _ h => h) rfl dX2_writtenStream_74 ?_
    refine xr_bipush (n := 88) C dX2_writtenStream_77 (by decide +kernel) ?_
    refine xr_callV1v C (c_add l G _ _ _ _ M5 hB5 88 (by decide) (by first | omega | (simp; omega))) (cwV 1 C.1.2.2.2.2 gX2_writtenStream_X0_add rfl rfl rfl (by decide +kernel) ⟨Nat.le_of_ble_eq_true rfl, Nat.le_of_ble_eq_true rfl⟩) hB5.1 rfl (Nat.le_of_ble_eq_true rfl) ⟨by dsimp only; omega, by dsimp only; omega⟩ dX2_writtenStream_79 (fun N0 hn0 => ?_)
    obtain ⟨hE0, hG0⟩ := hn0
    change mq_FR La [9, 10] M5 N0 at hG0
    have K0 := G5.tr hG0
    have gg0 := (K0 (La 6) (mq_ni hI (by decide) hT (by decide))).trans g1
    refine xr_aload_n C dX2_writtenStream_82 rfl ?_
    refine xr_get C (Cn := RX2) (T := TX2) (N := 5) (by decide +kernel) gg0 rfl 2 (by decide) (C.1.2.2.2.2 (.fieldLink RX2 20 "OssuaryVault$Desk" "stream" "LOssuaryVault$Bytes;") (by decide +kernel)) (fun _ h => h) rfl dX2_writtenStream_83 ?_
    refine xr_aload_n C dX2_writtenStream_86 rfl ?_
    refine xr_get C (Cn := RX2) (T := TX2) (N := 5) (by decide +kernel) gg0 rfl 4 (by decide) (C.1.2.2.2.2 (.fieldLink RX2 34 "OssuaryVault$Desk" "count" "I") (by decide +kernel)) (fun _ h => h) rfl dX2_writtenStream_87 ?_
    refine xr_callV1v C (c_add l G _ _ _ _ N0 hE0 i (by omega) (by first | omega | (simp; omega))) (cwV 1 C.1.2.2.2.2 gX2_writtenStream_X0_add rfl rfl rfl (by decide +kernel) ⟨Nat.le_of_ble_eq_true rfl, Nat.le_of_ble_eq_true rfl⟩) hE0.1 rfl (Nat.le_of_ble_eq_true rfl) ⟨by dsimp only; omega, by dsimp only; omega⟩ dX2_writtenStream_90 (fun N1 hn1 => ?_)
    obtain ⟨hE1, hG1⟩ := hn1
    change mq_FR La [9, 10] N0 N1 at hG1
    have K1 := K0.tr hG1
    have gg1 := (K1 (La 6) (mq_ni hI (by decide) hT (by decide))).trans g1
    refine xr_aload_n C dX2_writtenStream_93 rfl ?_
    refine xr_get C (Cn := RX2) (T := TX2) (N := 5) (by decide +kernel) gg1 rfl 2 (by decide) (C.1.2.2.2.2 (.fieldLink RX2 20 "OssuaryVault$Desk" "stream" "LOssuaryVault$Bytes;") (by decide +kernel)) (fun _ h => h) rfl dX2_writtenStream_94 ?_
    refine xr_iload_n C dX2_writtenStream_97 rfl ?_
    refine xr_callV1v C (c_addWord l G _ _ _ _ N1 hE1 S3.length (by omega) (by first | omega | (simp; omega))) (cwV 1 C.1.2.2.2.2 gX2_writtenStream_X0_addWord rfl rfl rfl (by decide +kernel) ⟨Nat.le_of_ble_eq_true rfl, Nat.le_of_ble_eq_true rfl⟩) hE1.1 rfl (Nat.le_of_ble_eq_true rfl) ⟨by dsimp only; omega, by dsimp only; omega⟩ dX2_writtenStream_98 (fun N2 hn2 => ?_)
    obtain ⟨hE2, hG2⟩ := hn2
    change mq_FR La [9, 10] N1 N2 at hG2
    have K2 := K1.tr hG2
    have gg2 := (K2 (La 6) (mq_ni hI (by decide) hT (by decide))).trans g1
    refine xr_aload_n C dX2_writtenStream_101 rfl ?_
    refine xr_get C (Cn := RX2) (T := TX2) (N := 5) (by decide +kernel) gg2 rfl 2 (by decide) (C.1.2.2.2.2 (.fieldLink RX2 20 "OssuaryVault$Desk" "stream" "LOssuaryVault$Bytes;") (by decide +kernel)) (fun _ h => h) rfl dX2_writtenStream_102 ?_
    refine xr_iload_n C dX2_writtenStream_105 rfl ?_
    refine xr_callV1v C (c_addWord l G _ _ _ _ N2 hE2 cr hcr (by first | omega | (simp; omega))) (cwV 1 C.1.2.2.2.2 gX2_writtenStream_X0_addWord rfl rfl rfl (by decide +kernel) ⟨Nat.le_of_ble_eq_true rfl, Nat.le_of_ble_eq_true rfl⟩) hE2.1 rfl (Nat.le_of_ble_eq_true rfl) ⟨by dsimp only; omega, by dsimp only; omega⟩ dX2_writtenStream_106 (fun N3 hn3 => ?_)
    obtain ⟨hE3, hG3⟩ := hn3
    change mq_FR La [9, 10] N2 N3 at hG3
    have K3 := K2.tr hG3
    have gg3 := (K3 (La 6) (mq_ni hI (by decide) hT (by decide))).trans g1
    refine xr_aload_n C dX2_writtenStream_109 rfl ?_
    refine xr_get C (Cn := RX2) (T := TX2) (N := 5) (by decide +kernel) gg3 rfl 2 (by decide) (C.1.2.2.2.2 (.fieldLink RX2 20 "OssuaryVault$Desk" "stream" "LOssuaryVault$Bytes;") (by decide +kernel)) (fun _ h => h) rfl dX2_writtenStream_110 ?_
    exact xr_aret (v := some (La 9)) C hr (Or.inl ⟨_, rfl⟩) hlk ⟨_, rfl, rfl, ⟨_, ⟨by first | omega | (simp; done) | (simp; omega), fun hn0 => by
        have e6 : S5 = [] := List.eq_nil_of_length_eq_zero (by omega)
        rw [e6]; rfl⟩, hE3⟩, K3⟩ (by omega) (by omega) dX2_writtenStream_113
  · have hin : i < n := by omega
    obtain ⟨hk1, hk2⟩ := hP.2.2.2.1 i hin
    have hcl := (g4 i (by omega)).2.1.2.2.1
    have hdl := dfB_len (c i) (pk i)
    have hqi := hP.1 i (by omega)
    have g1_M3 := (hF3 (La 6) (mq_ni hI (by decide) hT (by decide))).trans g1
    have g2_M3 := (hF3 (La 11) (mq_ni hI (by decide) hT (by decide))).trans g2
    have g4_M3 : ∀ j, j < 16 → dkV G M3 La (pf j) (ky j) (c j) (pk j) (ck j) := fun j hj => (g4 j hj).fr hI hF3 (hP.1 j hj) hT (fun r h1 h2 => by simp; omega)
    have hS_M3 : dkI G M3 La pf n ky c pk ck := ⟨g1_M3, ⟨fp, g2_M3, g3⟩, g4_M3⟩
    refine xr_aload_n C dX2_writtenStream_17 rfl ?_
    refine xr_iload_n C dX2_writtenStream_18 rfl ?_
    refine xr_callV1a C (c_dkAt l G La hI pf n ky c pk ck M3 hP hS_M3 i hin) (cwV 1 C.1.2.2.2.2 gX2_writtenStream_X2_at rfl rfl rfl (by decide +kernel) ⟨Nat.le_of_ble_eq_true rfl, Nat.le_of_ble_eq_true rfl⟩) g1_M3 rfl (Nat.le_of_ble_eq_true rfl) ⟨by dsimp only; omega, by dsimp only; omega⟩ dX2_writtenStream_19 (fun r9 M9 hp9 => ?_)
    obtain ⟨rfl, rfl⟩ := hp9
    refine xr_astore_n C dX2_writtenStream_22 (by decide) rfl ?_
    refine xr_aload_n C dX2_writtenStream_23 rfl ?_
    refine xr_ifnull_s C dX2_writtenStream_24 ?_
    refine xr_aload_n C dX2_writtenStream_27 rfl ?_
    refine xr_aload_n C dX2_writtenStream_28 rfl ?_
    refine xr_get C (Cn := RX2) (T := TX2) (N := 5) (by decide +kernel) g1_M3 rfl 2 (by decide) (C.1.2.2.2.2 (.fieldLink RX2 20 "OssuaryVault$Desk" "stream" "LOssuaryVault$Bytes;") (by decide +kernel)) (fun _ h => h) rfl dX2_writtenStream_29 ?_
    refine xr_callV1v C (c_writeTo l G _ _ _ _ _ _ _ _ _ M3 (g4_M3 i (by omega)) hk1 hk2 _ _ _ _ hB3 (mq_rnd hI (l := [24 + 5 * pf i, 25 + 5 * pf i, 26 + 5 * pf i, 27 + 5 * pf i, 28 + 5 * pf i, 9, 10]) (by simp; omega) (by intro r hr; simp at hr; omega)) (by omega)) (cwV 1 C.1.2.2.2.2 gX2_writtenStream_X3_writeTo rfl rfl rfl (by decide +kernel) ⟨Nat.le_of_ble_eq_true rfl, Nat.le_of_ble_eq_true rfl⟩) (g4_M3 i (by omega)).1 rfl (Nat.le_of_ble_eq_true rfl) ⟨by dsimp only; omega, by dsimp only; omega⟩ dX2_writtenStream_32 (fun M4 hp4 => ?_)
    obtain ⟨hB4, hF4⟩ := hp4
    change mq_FR La [9, 10] M3 M4 at hF4
    refine xr_iinc C dX2_writtenStream_35 rfl (by decide) rfl ?_
    refine xr_goto C dX2_writtenStream_38 rfl ?_
    refine mq_drop 2 ?_
    exact ih (i + 1, M4, _) ⟨by dsimp only; omega, by simp [dfW]; omega, hB4, hF3.tr hF4⟩ (by dsimp only; omega)
