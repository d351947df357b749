set_option maxHeartbeats 4000000 in
set_option maxRecDepth 100000 in
theorem c_workOut (l : Launch) (G : mq_G) (La : Nat → Nat) (hI : mq_inj La) (mt : List Nat) (cho : Nat → Nat) (M : mq_M) (hS : rcI G M La mt cho) (pv : Nat → Nat) (h : Nat → Bool) (d : Nat → List Nat) (vd : Nat → Int) (ld mb : Int) (nu ho : Nat → Int) (hP : shP pv h d vd) (hH : shI G M La pv h d vd ld mb nu ho) (hho : ∀ q, -1 ≤ ho q ∧ ho q < 16) (hD : fdI G M (La 3) (La 4) (La 5)) (S : List Nat) (hB : bI G M (La 21) (La 22) 40700 S) (dd dn bd : Nat) (hdd : dd < 10) (hdn : dn ≤ 10) (hbd : S.length + bd ≤ 40700) (hch : ∀ i, i < 10 → cho i < 100) : mq_T l yX8_workOut wsX8_workOut { frames := 3, cells := 0, slots := 0, locals := 71 } G [.ref (La 16), .ref (La 12), .int (zI (dd : Int)), .int (zI (dn : Int)), .int (zI (bd : Int)), .ref (La 21)] M (mq_pv (fun M2 => (∃ T : List Nat, T.length = S.length + bd ∧ bI G M2 (La 21) (La 22) 40700 T) ∧ mq_FR La [21, 22] M M2)) 0 0 := by
  refine mq_Met.of (cc := cX8_workOut) (maxL := 10) (ret := none) (by decide) rfl (Nat.le_of_ble_eq_true rfl) rfl rfl ?_
  intro p_ e_ s_ m_ args_ below_ meth_ c_ z_ C hr hlk hname
  refine xr_aload C dX8_workOut_0 rfl ?_
  refine xr_callV0i C (c_size l G _ _ _ _ M hB) (cwV 0 C.1.2.2.2.2 gX8_workOut_X0_size rfl rfl rfl (by decide +kernel) ⟨Nat.le_of_ble_eq_true rfl, Nat.le_of_ble_eq_true rfl⟩) hB.1 rfl (Nat.le_of_ble_eq_true rfl) ⟨by dsimp only; omega, by dsimp only; omega⟩ dX8_workOut_2 (fun r1 M9 hp9 => ?_)
  obtain ⟨rfl, rfl⟩ := hp9
  refine xr_istore C dX8_workOut_5 (by decide) rfl ?_
  refine xr_aload C dX8_workOut_7 rfl ?_
  refine xr_iconst (n := 0) C dX8_workOut_9 (by decide +kernel) ?_
  refine xr_iload C dX8_workOut_10 rfl ?_
  refine xr_callV2v C (c_addTimes l G _ _ _ _ M hB 0 (by decide) bd hbd) (cwV 2 C.1.2.2.2.2 gX8_workOut_X0_addTimes rfl rfl rfl (by decide +kernel) ⟨Nat.le_of_ble_eq_true rfl, Nat.le_of_ble_eq_true rfl⟩) hB.1 rfl (Nat.le_of_ble_eq_true rfl) ⟨by dsimp only; omega, by dsimp only; omega⟩ dX8_workOut_12 (fun M1 hp1 => ?_)
  obtain ⟨hB1, hF1⟩ := hp1
  change mq_FR La [21, 22] M M1 at hF1
  refine xr_iconst (n := 0) C dX8_workOut_15 (by decide +kernel) ?_
  refine xr_istore C dX8_workOut_16 (by decide) rfl ?_
  refine mq_loop (σ := Nat × mq_M × List Nat) (fun y => y.1 ≤ dn ∧ y.2.2.length = S.length + bd ∧ bI G y.2.1 (La 21) (La 22) 40700 y.2.2 ∧ mq_FR La [21, 22] M y.2.1) (fun y => dn - y.1) (fun y => y.2.1) (fun y => [some (.ref (La 16)), some (.ref (La 12)), some (.int (zI (dd : Int))), some (.int (zI (dn : Int))), some (.int (zI (bd : Int))), some (.ref (La 21)), some (.int (zI (S.length : Int))), some (.int (zI (y.1 : Int))), none, none]) (fun y => []) ?_ (0, M1, S ++ List.replicate bd 0) ⟨Nat.zero_le _, by simp, hB1, hF1⟩
  rintro ⟨i, M3, T⟩ ⟨hi, hTl, hB3, hF3⟩ ih
  dsimp only at hi hTl hB3 hF3 ih ⊢
  have hS3 := hS.fr hI hF3 (by decide) (by decide) (by decide) (by decide) (by decide)
  have hS3c := hS3
  obtain ⟨q1, q2, fc, q3, q4⟩ := hS3
  have hH3 := hH.fr hI hP.1 hF3 (by decide) (fun r h1 => by simp; omega)
  have hD3 := hD.fr hF3 (mq_ni hI (by decide) (by decide) (by decide)) (mq_ni hI (by decide) (by decide) (by decide)) (mq_ni hI (by decide) (by decide) (by decide))
  refine xr_iload C dX8_workOut_18 rfl ?_
  refine xr_iload_n C dX8_workOut_20 rfl ?_
  refine xr_icmp_ge C dX8_workOut_21 rfl (by first | omega | (dsimp only; omega)) (by first | omega | (dsimp only; omega)) (fun hq2 => ?_) (fun hq2 => ?_)
  · exact xr_vret C hr hlk ⟨rfl, ⟨T, hTl, hB3⟩, hF3⟩ (by omega) (by omega) dX8_workOut_99
  · refine xr_iload C dX8_workOut_24 rfl ?_
    refine xr_aload_n C dX8_workOut_26 rfl ?_
    refine xr_get C (Cn := RX8) (T := TX8) (N := 3) (by decide +kernel) q1 rfl 2 (by decide) (C.1.2.2.2.2 (.fieldLink RX8 20 "OssuaryVault$Recovery" "chosen" "[I") (by decide +kernel)) (fun _ h => h) rfl dX8_workOut_27 ?_
    refine xr_alen C q3 mq_tI dX8_workOut_30 ?_
    refine xr_icmp_ge C dX8_workOut_31 rfl (by first | omega | (dsimp only; omega)) (by first | omega | (dsimp only; omega)) (fun hq => absurd hq (by dsimp only; omega)) (fun _ => ?_)
    have hi10 : i < 10 := by omega
    refine xr_aload_n C dX8_workOut_34 rfl ?_
    refine xr_aload_n C dX8_workOut_35 rfl ?_
    refine xr_get C (Cn := RX8) (T := TX8) (N := 3) (by decide +kernel) q1 rfl 2 (by decide) (C.1.2.2.2.2 (.fieldLink RX8 20 "OssuaryVault$Recovery" "chosen" "[I") (by decide +kernel)) (fun _ h => h) rfl dX8_workOut_36 ?_
    refine xr_iload C dX8_workOut_39 rfl ?_
    refine xr_iald C q3 mq_tI (by first | omega | (dsimp only; omega)) (by first | omega | (dsimp only; omega)) (by first | omega | (dsimp only; omega)) dX8_workOut_41 ?_
    rw [Int.toNat_natCast, q4 i hi10]
    have hc9 := hch i hi10
    have hgb := mq_gd_lt q2.2.2.2.2.1 ((dd : Int) * 20 + 10 + (i : Int))
    by_cases hm : cho i < 16 ∧ 0 ≤ ho (cho i)
    · obtain ⟨k, hk⟩ := Int.eq_ofNat_of_zero_le hm.2
      change ho (cho i) = (k : Int) at hk
      have hok := hho (cho i)
      have hpk := hP.1 k (by omega)
      refine xr_callV1a C (c_memberWith l G La hI pv h d vd ld mb nu ho M3 hP hH3 (cho i) hm.1 k (by omega) hk) (cwV 1 C.1.2.2.2.2 gX8_workOut_X9_memberWith rfl rfl rfl (by decide +kernel) ⟨Nat.le_of_ble_eq_true rfl, Nat.le_of_ble_eq_true rfl⟩) hH3.1 rfl (Nat.le_of_ble_eq_true rfl) ⟨by dsimp only; omega, by dsimp only; omega⟩ dX8_workOut_42 (fun r9 M9 hp9 => ?_)
      obtain ⟨rfl, rfl⟩ := hp9
      refine xr_astore C dX8_workOut_45 (by decide) rfl ?_
      refine xr_aload_n C dX8_workOut_47 rfl ?_
      refine xr_get C (Cn := RX8) (T := TX8) (N := 3) (by decide +kernel) q1 rfl 1 (by decide) (C.1.2.2.2.2 (.fieldLink RX8 16 "OssuaryVault$Recovery" "matrix" "LOssuaryVault$Bytes;") (by decide +kernel)) (fun _ h => h) rfl dX8_workOut_48 ?_
      refine xr_iload_n C dX8_workOut_51 rfl ?_
      refine xr_bipush (n := 20) C dX8_workOut_52 (by decide +kernel) ?_
      refine xr_imul C dX8_workOut_54 ?_
      refine xr_bipush (n := 10) C dX8_workOut_55 (by decide +kernel) ?_
      refine xr_iadd C dX8_workOut_57 ?_
      refine xr_iload C dX8_workOut_58 rfl ?_
      refine xr_iadd C dX8_workOut_60 ?_
      refine xr_callV1i C (c_at l G _ _ _ _ M3 q2 ((dd : Int) * 20 + 10 + (i : Int)) (by omega)) (cwV 1 C.1.2.2.2.2 gX8_workOut_X0_at rfl rfl rfl (by decide +kernel) ⟨Nat.le_of_ble_eq_true rfl, Nat.le_of_ble_eq_true rfl⟩) q2.1 rfl (Nat.le_of_ble_eq_true rfl) ⟨by dsimp only; omega, by dsimp only; omega⟩ dX8_workOut_61 (fun r3 M9 hp9 => ?_)
      obtain ⟨rfl, rfl⟩ := hp9
      refine xr_istore C dX8_workOut_64 (by decide) rfl ?_
      refine xr_aload C dX8_workOut_66 rfl ?_
      refine xr_ifnull_s C dX8_workOut_68 ?_
      refine xr_aload_n C dX8_workOut_71 rfl ?_
      refine xr_get C (Cn := RX8) (T := TX8) (N := 3) (by decide +kernel) q1 rfl 0 (by decide) (C.1.2.2.2.2 (.fieldLink RX8 24 "OssuaryVault$Recovery" "field" "LOssuaryVault$Field;") (by decide +kernel)) (fun _ h => h) rfl dX8_workOut_72 ?_
      refine xr_aload C dX8_workOut_75 rfl ?_
      refine xr_iload C dX8_workOut_77 rfl ?_
      refine xr_iload C dX8_workOut_79 rfl ?_
      refine xr_aload C dX8_workOut_81 rfl ?_
      refine xr_getN C (Cn := RX10) (T := TX10) (N := 4) (by decide +kernel) (hH3.2.2.2.2 k (by omega)).1 rfl 1 (by decide) (va_Nw.use rfl (C.2.2.1 ("OssuaryVault$Recovery", 62, "OssuaryVault$Volume", "bytes", "LOssuaryVault$Bytes;", "OssuaryVault") (by decide +kernel))) (fun _ h => h) rfl dX8_workOut_83 ?_
      refine xr_bipush (n := 10) C dX8_workOut_86 (by decide +kernel) ?_
      refine xr_iload C dX8_workOut_88 rfl ?_
      refine xr_callV6v C (c_addProducts l G _ _ _ M3 hD3 _ _ _ _ hB3 _ _ _ _ (hH3.2.2.2.2 k (by omega)).2 ⟨mq_ne hI (by omega) (by decide) (by omega), mq_ne hI (by omega) (by decide) (by omega)⟩ ⟨(mq_ne hI (by decide) (by decide) (by decide)), (mq_ne hI (by decide) (by decide) (by decide)), (mq_ne hI (by decide) (by decide) (by decide))⟩ (S.length : Int) 10 _ bd hgb (by omega) (by decide) (by omega)) (cwV 6 C.1.2.2.2.2 gX8_workOut_X4_addProducts rfl rfl rfl (by decide +kernel) ⟨Nat.le_of_ble_eq_true rfl, Nat.le_of_ble_eq_true rfl⟩) hD3.1 rfl (Nat.le_of_ble_eq_true rfl) ⟨by dsimp only; omega, by dsimp only; omega⟩ dX8_workOut_90 (fun M4 hp4 => ?_)
      obtain ⟨hB4, hF4⟩ := hp4
      have hF4b : mq_FR La [21, 22] M3 M4 := hF4.mono (by simp)
      refine xr_iinc C dX8_workOut_93 rfl (by decide) rfl ?_
      refine xr_goto C dX8_workOut_96 rfl ?_
      refine mq_drop 8 (mq_drop 9 ?_)
      exact ih (i + 1, M4, _) ⟨by dsimp only; omega, (gfP_len _ _ _ _ _ _).trans hTl, hB4, hF3.tr hF4b⟩ (by dsimp only; omega)
    · refine xr_callV1n C (c_memberWithN l G La hI pv h d vd ld mb nu ho M3 hP hH3 (cho i) hc9 (fun hq => by have := hho (cho i); omega)) (cwV 1 C.1.2.2.2.2 gX8_workOut_X9_memberWith rfl rfl rfl (by decide +kernel) ⟨Nat.le_of_ble_eq_true rfl, Nat.le_of_ble_eq_true rfl⟩) hH3.1 rfl (Nat.le_of_ble_eq_true rfl) ⟨by dsimp only; omega, by dsimp only; omega⟩ dX8_workOut_42 (fun M9 hp9 => ?_)
      subst hp9
      refine xr_nstore C dX8_workOut_45 (by decide) rfl ?_
      refine xr_aload_n C dX8_workOut_47 rfl ?_
      refine xr_get C (Cn := RX8) (T := TX8) (N := 3) (by decide +kernel) q1 rfl 1 (by decide) (C.1.2.2.2.2 (.fieldLink RX8 16 "OssuaryVault$Recovery" "matrix" "LOssuaryVault$Bytes;") (by decide +kernel)) (fun _ h => h) rfl dX8_workOut_48 ?_
      refine xr_iload_n C dX8_workOut_51 rfl ?_
      refine xr_bipush (n := 20) C dX8_workOut_52 (by decide +kernel) ?_
      refine xr_imul C dX8_workOut_54 ?_
      refine xr_bipush (n := 10) C dX8_workOut_55 (by decide +kernel) ?_
      refine xr_iadd C dX8_workOut_57 ?_
      refine xr_iload C dX8_workOut_58 rfl ?_
      refine xr_iadd C dX8_workOut_60 ?_
      refine xr_callV1i C (c_at l G _ _ _ _ M3 q2 ((dd : Int) * 20 + 10 + (i : Int)) (by omega)) (cwV 1 C.1.2.2.2.2 gX8_workOut_X0_at rfl rfl rfl (by decide +kernel) ⟨Nat.le_of_ble_eq_true rfl, Nat.le_of_ble_eq_true rfl⟩) q2.1 rfl (Nat.le_of_ble_eq_true rfl) ⟨by dsimp only; omega, by dsimp only; omega⟩ dX8_workOut_61 (fun r4 M9 hp9 => ?_)
      obtain ⟨rfl, rfl⟩ := hp9
      refine xr_istore C dX8_workOut_64 (by decide) rfl ?_
      refine xr_nload C dX8_workOut_66 rfl ?_
      refine xr_ifnull_n C dX8_workOut_68 rfl ?_
      refine xr_iinc C dX8_workOut_93 rfl (by decide) rfl ?_
      refine xr_goto C dX8_workOut_96 rfl ?_
      refine mq_drop 8 (mq_drop 9 ?_)
      exact ih (i + 1, M3, T) ⟨by dsimp only; omega, hTl, hB3, hF3⟩ (by dsimp only; omega)
set_option maxHeartbeats 4000000 in
set_option maxRecDepth 100000 in
theorem c_recover (l : Launch) (G : mq_G) (La : Nat → Nat) (hI : mq_inj La) (mt : List Nat) (cho : Nat → Nat) (M : mq_M) (hS : rcI G M La mt cho) (pv : Nat → Nat) (h : Nat → Bool) (d : Nat → List Nat) (vd : Nat → Int) (ld mb : Int) (nu ho : Nat → Int) (hP : shP pv h d vd) (hH : shI G M La pv h d vd ld mb nu ho) (hho : ∀ q, -1 ≤ ho q ∧ ho q < 16) (hD : fdI G M (La 3) (La 4) (La 5)) (S0 : List Nat) (hB : bI G M (La 21) (La 22) 40700 S0) (k : Nat) (hk : k < 16) (dn bd st : Nat) (hdn : mq_gd (d k) 2 = dn) (hdn10 : dn ≤ 10) (hbd : mq_wd (d k) 4 = bd) (hst : mq_wd (d k) 6 = st) (hroom : dn * bd ≤ 40700) (hstr : st ≤ dn * bd) (hch : ∀ i, i < 10 → cho i < 100) : mq_T l yX8_recover wsX8_recover { frames := 5, cells := 0, slots := 0, locals := 110 } G [.ref (La 16), .ref (La 12), .ref (La (104 + 3 * pv k)), .ref (La 21)] M (mq_pi (fun r M2 => r = (msC ho dn : Int) ∧ (∃ (T mt2 : List Nat) (cho2 : Nat → Nat), T.length = st ∧ bI G M2 (La 21) (La 22) 40700 T ∧ (msC ho dn = 0 → T = (rcS d ho bd dn).take st) ∧ rcI G M2 La mt2 cho2 ∧ ∀ i, i < 10 → cho2 i < 100) ∧ mq_FR La [17, 18, 19, 21, 22] M M2)) 0 0 := by
  refine mq_Met.of (cc := cX8_recover) (maxL := 9) (ret := (some .int)) (by decide) rfl (Nat.le_of_ble_eq_true rfl) rfl rfl ?_
  intro p_ e_ s_ m_ args_ below_ meth_ c_ z_ C hr hlk hname
  refine xr_aload_n C dX8_recover_0 rfl ?_
  refine xr_callV0i C (c_dataTold l G _ _ _ _ _ _ _ M (hH.2.2.2.2 k (by omega))) (cwV 0 C.1.2.2.2.2 gX8_recover_X10_dataTold rfl rfl rfl (by decide +kernel) ⟨Nat.le_of_ble_eq_true rfl, Nat.le_of_ble_eq_true rfl⟩) (hH.2.2.2.2 k (by omega)).1 rfl (Nat.le_of_ble_eq_true rfl) ⟨by dsimp only; omega, by dsimp only; omega⟩ dX8_recover_1 (fun r1 M9 hp9 => ?_)
  obtain ⟨rfl, rfl⟩ := hp9
  rw [hdn]
  refine xr_bipush (n := 10) C dX8_recover_4 (by decide +kernel) ?_
  refine xr_min C (by first | omega | (dsimp only; omega)) (by first | omega | (dsimp only; omega)) (C.1.2.2.2.2 (.methodLink RX8 34 Lib.Math.min.name) (by decide +kernel)) (C.1.2.2.2.2 (.static Lib.Math.min.name) (by decide +kernel)) (C.1.2.2.2.2 (.initialized "java/lang/Math") (by decide +kernel)) (C.1.2.2.2.2 (.code Lib.Math.min.name Lib.Math.min.code 2 (some .int)) (by decide +kernel)) (Nat.le_of_ble_eq_true rfl) (Nat.le_of_ble_eq_true rfl) (by dsimp only; omega) (by dsimp only; omega) dX8_recover_6 ?_
  rw [show min (dn : Int) 10 = (dn : Int) by omega]
  refine xr_istore C dX8_recover_9 (by decide) rfl ?_
  refine xr_aload_n C dX8_recover_11 rfl ?_
  refine xr_callV0i C (c_bodyTold l G _ _ _ _ _ _ _ M (hH.2.2.2.2 k (by omega))) (cwV 0 C.1.2.2.2.2 gX8_recover_X10_bodyTold rfl rfl rfl (by decide +kernel) ⟨Nat.le_of_ble_eq_true rfl, Nat.le_of_ble_eq_true rfl⟩) (hH.2.2.2.2 k (by omega)).1 rfl (Nat.le_of_ble_eq_true rfl) ⟨by dsimp only; omega, by dsimp only; omega⟩ dX8_recover_12 (fun r2 M9 hp9 => ?_)
  obtain ⟨rfl, rfl⟩ := hp9
  rw [hbd]
  refine xr_istore C dX8_recover_15 (by decide) rfl ?_
  refine xr_aload_n C dX8_recover_17 rfl ?_
  refine xr_aload_n C dX8_recover_18 rfl ?_
  refine xr_iload C dX8_recover_19 rfl ?_
  refine xr_callV2i C (c_choose l G La hI mt cho M hS pv h d vd ld mb nu ho hP hH hho dn hdn10) (cwV 2 C.1.2.2.2.2 gX8_recover_X8_choose rfl rfl rfl (by decide +kernel) ⟨Nat.le_of_ble_eq_true rfl, Nat.le_of_ble_eq_true rfl⟩) hS.1 rfl (Nat.le_of_ble_eq_true rfl) ⟨by dsimp only; omega, by dsimp only; omega⟩ dX8_recover_21 (fun r1 M1 hp1 => ?_)
  obtain ⟨rfl, ⟨ch1, hS1, hc1⟩, hF1⟩ := hp1
  have hc1 := hc1 hch
  have hmd := msC_le ho dn
  have hD1 := hD.fr hF1 (mq_ni hI (by decide) (by decide) (by decide)) (mq_ni hI (by decide) (by decide) (by decide)) (mq_ni hI (by decide) (by decide) (by decide))
  refine xr_istore C dX8_recover_24 (by decide) rfl ?_
  refine xr_iload C dX8_recover_26 rfl ?_
  refine xr_if_le C dX8_recover_28 rfl (by first | omega | (dsimp only; omega)) (fun hq3 => ?_) (fun hq3 => ?_)
  · have hB2 := hB.fr hF1 (mq_ni hI (by decide) (by decide) (by decide)) (mq_ni hI (by decide) (by decide) (by decide))
    refine xr_aload_n C dX8_recover_43 rfl ?_
    refine xr_callV0v C (c_clear l G _ _ _ _ M1 hB2) (cwV 0 C.1.2.2.2.2 gX8_recover_X0_clear rfl rfl rfl (by decide +kernel) ⟨Nat.le_of_ble_eq_true rfl, Nat.le_of_ble_eq_true rfl⟩) hB2.1 rfl (Nat.le_of_ble_eq_true rfl) ⟨by dsimp only; omega, by dsimp only; omega⟩ dX8_recover_44 (fun M5 hp5 => ?_)
    obtain ⟨hB5, hF5⟩ := hp5
    have hF5b : mq_FR La [21, 22] M1 M5 := hF5.mono (by simp)
    refine xr_iconst (n := 0) C dX8_recover_47 (by decide +kernel) ?_
    refine xr_istore C dX8_recover_48 (by decide) rfl ?_
    refine mq_loop (σ := Nat × mq_M × List Nat) (fun y => y.1 ≤ dn ∧ y.2.2.length = y.1 * bd ∧ (msC ho y.1 = 0 → y.2.2 = rcS d ho bd y.1) ∧ bI G y.2.1 (La 21) (La 22) 40700 y.2.2 ∧ mq_FR La [21, 22] M1 y.2.1) (fun y => dn - y.1) (fun y => y.2.1) (fun y => [some (.ref (La 16)), some (.ref (La 12)), some (.ref (La (104 + 3 * pv k))), some (.ref (La 21)), some (.int (zI (dn : Int))), some (.int (zI (bd : Int))), some (.int (zI (msC ho dn : Int))), some (.int (zI (y.1 : Int))), none]) (fun y => []) ?_ (0, M5, []) ⟨Nat.zero_le _, by simp, fun _ => rfl, hB5, hF5b⟩
    rintro ⟨i, M6, T⟩ ⟨hi, hTl, hTm, hB6, hF6⟩ ih
    dsimp only at hi hTl hTm hB6 hF6 ih ⊢
    have G6 : mq_FR La [17, 18, 19, 21, 22] M M6 := (hF1.mono (by simp)).tr (hF6.mono (by simp))
    have hS6 := hS1.fr hI hF6 (by decide) (by decide) (by decide) (by decide) (by decide)
    have hH6 := hH.fr hI hP.1 G6 (by decide) (fun r h1 => by simp; omega)
    have hD6 := hD.fr G6 (mq_ni hI (by decide) (by decide) (by decide)) (mq_ni hI (by decide) (by decide) (by decide)) (mq_ni hI (by decide) (by decide) (by decide))
    refine xr_iload C dX8_recover_50 rfl ?_
    refine xr_iload C dX8_recover_52 rfl ?_
    refine xr_icmp_ge C dX8_recover_54 rfl (by first | omega | (dsimp only; omega)) (by first | omega | (dsimp only; omega)) (fun hq4 => ?_) (fun hq4 => ?_)
    · have hid : i = dn := by omega
      subst hid
      refine xr_aload_n C dX8_recover_104 rfl ?_
      refine xr_aload_n C dX8_recover_105 rfl ?_
      refine xr_callV0i C (c_streamTold l G _ _ _ _ _ _ _ M6 (hH6.2.2.2.2 k (by omega))) (cwV 0 C.1.2.2.2.2 gX8_recover_X10_streamTold rfl rfl rfl (by decide +kernel) ⟨Nat.le_of_ble_eq_true rfl, Nat.le_of_ble_eq_true rfl⟩) (hH6.2.2.2.2 k (by omega)).1 rfl (Nat.le_of_ble_eq_true rfl) ⟨by dsimp only; omega, by dsimp only; omega⟩ dX8_recover_106 (fun r5 M9 hp9 => ?_)
      obtain ⟨rfl, rfl⟩ := hp9
      rw [hst]
      refine xr_callV1v C (c_shorten l G _ _ _ _ M6 hB6 st (by omega)) (cwV 1 C.1.2.2.2.2 gX8_recover_X0_shorten rfl rfl rfl (by decide +kernel) ⟨Nat.le_of_ble_eq_true rfl, Nat.le_of_ble_eq_true rfl⟩) hB6.1 rfl (Nat.le_of_ble_eq_true rfl) ⟨by dsimp only; omega, by dsimp only; omega⟩ dX8_recover_109 (fun M7 hp7 => ?_)
      obtain ⟨hB7, hF7⟩ := hp7
      have hF7b : mq_FR La [21, 22] M6 M7 := hF7.mono (by simp)
      have hS7 := hS6.fr hI hF7b (by decide) (by decide) (by decide) (by decide) (by decide)
      refine xr_iload C dX8_recover_112 rfl ?_
      exact xr_iret C hr hlk ⟨_, rfl, rfl, ⟨_, _, _, by rw [List.length_take]; omega, hB7, fun q => by rw [hTm q], hS7, hc1⟩, G6.tr (hF7b.mono (by simp))⟩ (by omega) (by omega) dX8_recover_114
    · have hsn : msC ho (i + 1) = msC ho i + (if ho i < 0 then 1 else 0) := rfl
      have hle : (i + 1) * bd ≤ dn * bd := Nat.mul_le_mul_right _ (by omega)
      rw [Nat.succ_mul] at hle
      have hoi := hho i
      refine xr_aload_n C dX8_recover_57 rfl ?_
      refine xr_iload C dX8_recover_58 rfl ?_
      by_cases hm : 0 ≤ ho i
      · obtain ⟨j, hj⟩ := Int.eq_ofNat_of_zero_le hm
        change ho i = (j : Int) at hj
        have hpj := hP.1 j (by omega)
        refine xr_callV1a C (c_memberWith l G La hI pv h d vd ld mb nu ho M6 hP hH6 i (by omega) j (by omega) hj) (cwV 1 C.1.2.2.2.2 gX8_recover_X9_memberWith rfl rfl rfl (by decide +kernel) ⟨Nat.le_of_ble_eq_true rfl, Nat.le_of_ble_eq_true rfl⟩) hH6.1 rfl (Nat.le_of_ble_eq_true rfl) ⟨by dsimp only; omega, by dsimp only; omega⟩ dX8_recover_60 (fun r9 M9 hp9 => ?_)
        obtain ⟨rfl, rfl⟩ := hp9
        refine xr_astore C dX8_recover_63 (by decide) rfl ?_
        refine xr_aload C dX8_recover_65 rfl ?_
        refine xr_ifnull_s C dX8_recover_67 ?_
        refine xr_aload_n C dX8_recover_70 rfl ?_
        refine xr_aload C dX8_recover_71 rfl ?_
        refine xr_getN C (Cn := RX10) (T := TX10) (N := 4) (by decide +kernel) (hH6.2.2.2.2 j (by omega)).1 rfl 1 (by decide) (va_Nw.use rfl (C.2.2.1 ("OssuaryVault$Recovery", 62, "OssuaryVault$Volume", "bytes", "LOssuaryVault$Bytes;", "OssuaryVault") (by decide +kernel))) (fun _ h => h) rfl dX8_recover_73 ?_
        refine xr_bipush (n := 10) C dX8_recover_76 (by decide +kernel) ?_
        refine xr_iload C dX8_recover_78 rfl ?_
        refine xr_callV3v C (c_addPart l G _ _ _ _ M6 hB6 _ _ _ _ (hH6.2.2.2.2 j (by omega)).2 ⟨mq_ne hI (by omega) (by decide) (by omega), mq_ne hI (by omega) (by decide) (by omega), mq_ne hI (by omega) (by decide) (by omega), mq_ne hI (by omega) (by decide) (by omega)⟩ 10 bd (by decide) (by omega)) (cwV 3 C.1.2.2.2.2 gX8_recover_X0_addPart rfl rfl rfl (by decide +kernel) ⟨Nat.le_of_ble_eq_true rfl, Nat.le_of_ble_eq_true rfl⟩) hB6.1 rfl (Nat.le_of_ble_eq_true rfl) ⟨by dsimp only; omega, by dsimp only; omega⟩ dX8_recover_80 (fun M7 hp7 => ?_)
        obtain ⟨hB7, hF7⟩ := hp7
        change mq_FR La [21, 22] M6 M7 at hF7
        rw [if_neg (by omega)] at hsn
        have hTj : msC ho (i + 1) = 0 → T ++ mq_part (d j) 10 bd = rcS d ho bd (i + 1) := fun q => by
          show _ = rcS d ho bd i ++ mq_part (d (ho i).toNat) 10 bd
          rw [hTm (by omega), hj]; rfl
        refine xr_goto C dX8_recover_83 rfl ?_
        refine xr_iinc C dX8_recover_98 rfl (by decide) rfl ?_
        refine xr_goto C dX8_recover_101 rfl ?_
        refine mq_drop 8 ?_
        exact ih (i + 1, M7, _) ⟨by dsimp only; omega, by dsimp only; rw [List.length_append, mq_part_len, Nat.succ_mul]; omega, hTj, hB7, hF6.tr hF7⟩ (by dsimp only; omega)
      · refine xr_callV1n C (c_memberWithN l G La hI pv h d vd ld mb nu ho M6 hP hH6 i (by omega) (fun _ => by omega)) (cwV 1 C.1.2.2.2.2 gX8_recover_X9_memberWith rfl rfl rfl (by decide +kernel) ⟨Nat.le_of_ble_eq_true rfl, Nat.le_of_ble_eq_true rfl⟩) hH6.1 rfl (Nat.le_of_ble_eq_true rfl) ⟨by dsimp only; omega, by dsimp only; omega⟩ dX8_recover_60 (fun M9 hp9 => ?_)
        subst hp9
        refine xr_nstore C dX8_recover_63 (by decide) rfl ?_
        refine xr_nload C dX8_recover_65 rfl ?_
        refine xr_ifnull_n C dX8_recover_67 rfl ?_
        refine xr_aload_n C dX8_recover_86 rfl ?_
        refine xr_aload_n C dX8_recover_87 rfl ?_
        refine xr_iload C dX8_recover_88 rfl ?_
        refine xr_iload C dX8_recover_90 rfl ?_
        refine xr_iload C dX8_recover_92 rfl ?_
        refine xr_aload_n C dX8_recover_94 rfl ?_
        refine xr_callV5v C (c_workOut l G La hI _ _ M6 hS6 pv h d vd ld mb nu ho hP hH6 hho hD6 T hB6 i dn bd (by omega) hdn10 (by omega) hc1) (cwV 5 C.1.2.2.2.2 gX8_recover_X8_workOut rfl rfl rfl (by decide +kernel) ⟨Nat.le_of_ble_eq_true rfl, Nat.le_of_ble_eq_true rfl⟩) hS6.1 rfl (Nat.le_of_ble_eq_true rfl) ⟨by dsimp only; omega, by dsimp only; omega⟩ dX8_recover_95 (fun M7 hp7 => ?_)
        obtain ⟨⟨T7, hl7, hB7⟩, hF7⟩ := hp7
        rw [if_pos (by omega)] at hsn
        refine xr_iinc C dX8_recover_98 rfl (by decide) rfl ?_
        refine xr_goto C dX8_recover_101 rfl ?_
        refine mq_drop 8 ?_
        exact ih (i + 1, M7, T7) ⟨by dsimp only; omega, by dsimp only; rw [Nat.succ_mul]; omega, fun q => by dsimp only at q; omega, hB7, hF6.tr hF7⟩ (by dsimp only; omega)
  · refine xr_aload_n C dX8_recover_31 rfl ?_
    refine xr_iload C dX8_recover_32 rfl ?_
    refine xr_callV1v C (c_writeWeights l G La hI _ _ M1 hS1 hD1 dn hdn10 hc1) (cwV 1 C.1.2.2.2.2 gX8_recover_X8_writeWeights rfl rfl rfl (by decide +kernel) ⟨Nat.le_of_ble_eq_true rfl, Nat.le_of_ble_eq_true rfl⟩) hS1.1 rfl (Nat.le_of_ble_eq_true rfl) ⟨by dsimp only; omega, by dsimp only; omega⟩ dX8_recover_34 (fun M2 hp2 => ?_)
    obtain ⟨⟨mt2, hS2⟩, hF2⟩ := hp2
    have F12 : mq_FR La [17, 18, 19] M M2 := (hF1.mono (by simp)).tr (hF2.mono (by simp))
    have hD2 := hD.fr F12 (mq_ni hI (by decide) (by decide) (by decide)) (mq_ni hI (by decide) (by decide) (by decide)) (mq_ni hI (by decide) (by decide) (by decide))
    refine xr_aload_n C dX8_recover_37 rfl ?_
    refine xr_iload C dX8_recover_38 rfl ?_
    refine xr_callV1v C (c_invert l G La hI _ _ M2 hS2 hD2 dn hdn10) (cwV 1 C.1.2.2.2.2 gX8_recover_X8_invert rfl rfl rfl (by decide +kernel) ⟨Nat.le_of_ble_eq_true rfl, Nat.le_of_ble_eq_true rfl⟩) hS2.1 rfl (Nat.le_of_ble_eq_true rfl) ⟨by dsimp only; omega, by dsimp only; omega⟩ dX8_recover_40 (fun M3 hp3 => ?_)
    obtain ⟨⟨mt3, _, hS3⟩, hF3⟩ := hp3
    have F13 : mq_FR La [17, 18, 19] M M3 := F12.tr (hF3.mono (by simp))
    have hB2 := hB.fr F13 (mq_ni hI (by decide) (by decide) (by decide)) (mq_ni hI (by decide) (by decide) (by decide))
    refine xr_aload_n C dX8_recover_43 rfl ?_
    refine xr_callV0v C (c_clear l G _ _ _ _ M3 hB2) (cwV 0 C.1.2.2.2.2 gX8_recover_X0_clear rfl rfl rfl (by decide +kernel) ⟨Nat.le_of_ble_eq_true rfl, Nat.le_of_ble_eq_true rfl⟩) hB2.1 rfl (Nat.le_of_ble_eq_true rfl) ⟨by dsimp only; omega, by dsimp only; omega⟩ dX8_recover_44 (fun M5 hp5 => ?_)
    obtain ⟨hB5, hF5⟩ := hp5
    have hF5b : mq_FR La [21, 22] M3 M5 := hF5.mono (by simp)
    refine xr_iconst (n := 0) C dX8_recover_47 (by decide +kernel) ?_
    refine xr_istore C dX8_recover_48 (by decide) rfl ?_
    refine mq_loop (σ := Nat × mq_M × List Nat) (fun y => y.1 ≤ dn ∧ y.2.2.length = y.1 * bd ∧ (msC ho y.1 = 0 → y.2.2 = rcS d ho bd y.1) ∧ bI G y.2.1 (La 21) (La 22) 40700 y.2.2 ∧ mq_FR La [21, 22] M3 y.2.1) (fun y => dn - y.1) (fun y => y.2.1) (fun y => [some (.ref (La 16)), some (.ref (La 12)), some (.ref (La (104 + 3 * pv k))), some (.ref (La 21)), some (.int (zI (dn : Int))), some (.int (zI (bd : Int))), some (.int (zI (msC ho dn : Int))), some (.int (zI (y.1 : Int))), none]) (fun y => []) ?_ (0, M5, []) ⟨Nat.zero_le _, by simp, fun _ => rfl, hB5, hF5b⟩
    rintro ⟨i, M6, T⟩ ⟨hi, hTl, hTm, hB6, hF6⟩ ih
    dsimp only at hi hTl hTm hB6 hF6 ih ⊢
    have G6 : mq_FR La [17, 18, 19, 21, 22] M M6 := (F13.mono (by simp)).tr (hF6.mono (by simp))
    have hS6 := hS3.fr hI hF6 (by decide) (by decide) (by decide) (by decide) (by decide)
    have hH6 := hH.fr hI hP.1 G6 (by decide) (fun r h1 => by simp; omega)
    have hD6 := hD.fr G6 (mq_ni hI (by decide) (by decide) (by decide)) (mq_ni hI (by decide) (by decide) (by decide)) (mq_ni hI (by decide) (by decide) (by decide))
    refine xr_iload C dX8_recover_50 rfl ?_
    refine xr_iload C dX8_recover_52 rfl ?_
    refine xr_icmp_ge C dX8_recover_54 rfl (by first | omega | (dsimp only; omega)) (by first | omega | (dsimp only; omega)) (fun hq6 => ?_) (fun hq6 => ?_)
    · have hid : i = dn := by omega
      subst hid
      refine xr_aload_n C dX8_recover_104 rfl ?_
      refine xr_aload_n C dX8_recover_105 rfl ?_
      refine xr_callV0i C (c_streamTold l G _ _ _ _ _ _ _ M6 (hH6.2.2.2.2 k (by omega))) (cwV 0 C.1.2.2.2.2 gX8_recover_X10_streamTold rfl rfl rfl (by decide +kernel) ⟨Nat.le_of_ble_eq_true rfl, Nat.le_of_ble_eq_true rfl⟩) (hH6.2.2.2.2 k (by omega)).1 rfl (Nat.le_of_ble_eq_true rfl) ⟨by dsimp only; omega, by dsimp only; omega⟩ dX8_recover_106 (fun r7 M9 hp9 => ?_)
      obtain ⟨rfl, rfl⟩ := hp9
      rw [hst]
      refine xr_callV1v C (c_shorten l G _ _ _ _ M6 hB6 st (by omega)) (cwV 1 C.1.2.2.2.2 gX8_recover_X0_shorten rfl rfl rfl (by decide +kernel) ⟨Nat.le_of_ble_eq_true rfl, Nat.le_of_ble_eq_true rfl⟩) hB6.1 rfl (Nat.le_of_ble_eq_true rfl) ⟨by dsimp only; omega, by dsimp only; omega⟩ dX8_recover_109 (fun M7 hp7 => ?_)
      obtain ⟨hB7, hF7⟩ := hp7
      have hF7b : mq_FR La [21, 22] M6 M7 := hF7.mono (by simp)
      have hS7 := hS6.fr hI hF7b (by decide) (by decide) (by decide) (by decide) (by decide)
      refine xr_iload C dX8_recover_112 rfl ?_
      exact xr_iret C hr hlk ⟨_, rfl, rfl, ⟨_, _, _, by rw [List.length_take]; omega, hB7, fun q => by rw [hTm q], hS7, hc1⟩, G6.tr (hF7b.mono (by simp))⟩ (by omega) (by omega) dX8_recover_114
    · have hsn : msC ho (i + 1) = msC ho i + (if ho i < 0 then 1 else 0) := rfl
      have hle : (i + 1) * bd ≤ dn * bd := Nat.mul_le_mul_right _ (by omega)
      rw [Nat.succ_mul] at hle
      have hoi := hho i
      refine xr_aload_n C dX8_recover_57 rfl ?_
      refine xr_iload C dX8_recover_58 rfl ?_
      by_cases hm : 0 ≤ ho i
      · obtain ⟨j, hj⟩ := Int.eq_ofNat_of_zero_le hm
        change ho i = (j : Int) at hj
        have hpj := hP.1 j (by omega)
        refine xr_callV1a C (c_memberWith l G La hI pv h d vd ld mb nu ho M6 hP hH6 i (by omega) j (by omega) hj) (cwV 1 C.1.2.2.2.2 gX8_recover_X9_memberWith rfl rfl rfl (by decide +kernel) ⟨Nat.le_of_ble_eq_true rfl, Nat.le_of_ble_eq_true rfl⟩) hH6.1 rfl (Nat.le_of_ble_eq_true rfl) ⟨by dsimp only; omega, by dsimp only; omega⟩ dX8_recover_60 (fun r9 M9 hp9 => ?_)
        obtain ⟨rfl, rfl⟩ := hp9
        refine xr_astore C dX8_recover_63 (by decide) rfl ?_
        refine xr_aload C dX8_recover_65 rfl ?_
        refine xr_ifnull_s C dX8_recover_67 ?_
        refine xr_aload_n C dX8_recover_70 rfl ?_
        refine xr_aload C dX8_recover_71 rfl ?_
        refine xr_getN C (Cn := RX10) (T := TX10) (N := 4) (by decide +kernel) (hH6.2.2.2.2 j (by omega)).1 rfl 1 (by decide) (va_Nw.use rfl (C.2.2.1 ("OssuaryVault$Recovery", 62, "OssuaryVault$Volume", "bytes", "LOssuaryVault$Bytes;", "OssuaryVault") (by decide +kernel))) (fun _ h => h) rfl dX8_recover_73 ?_
        refine xr_bipush (n := 10) C dX8_recover_76 (by decide +kernel) ?_
        refine xr_iload C dX8_recover_78 rfl ?_
        refine xr_callV3v C (c_addPart l G _ _ _ _ M6 hB6 _ _ _ _ (hH6.2.2.2.2 j (by omega)).2 ⟨mq_ne hI (by omega) (by decide) (by omega), mq_ne hI (by omega) (by decide) (by omega), mq_ne hI (by omega) (by decide) (by omega), mq_ne hI (by omega) (by decide) (by omega)⟩ 10 bd (by decide) (by omega)) (cwV 3 C.1.2.2.2.2 gX8_recover_X0_addPart rfl rfl rfl (by decide +kernel) ⟨Nat.le_of_ble_eq_true rfl, Nat.le_of_ble_eq_true rfl⟩) hB6.1 rfl (Nat.le_of_ble_eq_true rfl) ⟨by dsimp only; omega, by dsimp only; omega⟩ dX8_recover_80 (fun M7 hp7 => ?_)
        obtain ⟨hB7, hF7⟩ := hp7
        change mq_FR La [21, 22] M6 M7 at hF7
        rw [if_neg (by omega)] at hsn
        have hTj : msC ho (i + 1) = 0 → T ++ mq_part (d j) 10 bd = rcS d ho bd (i + 1) := fun q => by
          show _ = rcS d ho bd i ++ mq_part (d (ho i).toNat) 10 bd
          rw [hTm (by omega), hj]; rfl
        refine xr_goto C dX8_recover_83 rfl ?_
        refine xr_iinc C dX8_recover_98 rfl (by decide) rfl ?_
        refine xr_goto C dX8_recover_101 rfl ?_
        refine mq_drop 8 ?_
        exact ih (i + 1, M7, _) ⟨by dsimp only; omega, by dsimp only; rw [List.length_append, mq_part_len, Nat.succ_mul]; omega, hTj, hB7, hF6.tr hF7⟩ (by dsimp only; omega)
      · refine xr_callV1n C (c_memberWithN l G La hI pv h d vd ld mb nu ho M6 hP hH6 i (by omega) (fun _ => by omega)) (cwV 1 C.1.2.2.2.2 gX8_recover_X9_memberWith rfl rfl rfl (by decide +kernel) ⟨Nat.le_of_ble_eq_true rfl, Nat.le_of_ble_eq_true rfl⟩) hH6.1 rfl (Nat.le_of_ble_eq_true rfl) ⟨by dsimp only; omega, by dsimp only; omega⟩ dX8_recover_60 (fun M9 hp9 => ?_)
        subst hp9
        refine xr_nstore C dX8_recover_63 (by decide) rfl ?_
        refine xr_nload C dX8_recover_65 rfl ?_
        refine xr_ifnull_n C dX8_recover_67 rfl ?_
        refine xr_aload_n C dX8_recover_86 rfl ?_
        refine xr_aload_n C dX8_recover_87 rfl ?_
        refine xr_iload C dX8_recover_88 rfl ?_
        refine xr_iload C dX8_recover_90 rfl ?_
        refine xr_iload C dX8_recover_92 rfl ?_
        refine xr_aload_n C dX8_recover_94 rfl ?_
        refine xr_callV5v C (c_workOut l G La hI _ _ M6 hS6 pv h d vd ld mb nu ho hP hH6 hho hD6 T hB6 i dn bd (by omega) hdn10 (by omega) hc1) (cwV 5 C.1.2.2.2.2 gX8_recover_X8_workOut rfl rfl rfl (by decide +kernel) ⟨Nat.le_of_ble_eq_true rfl, Nat.le_of_ble_eq_true rfl⟩) hS6.1 rfl (Nat.le_of_ble_eq_true rfl) ⟨by dsimp only; omega, by dsimp only; omega⟩ dX8_recover_95 (fun M7 hp7 => ?_)
        obtain ⟨⟨T7, hl7, hB7⟩, hF7⟩ := hp7
        rw [if_pos (by omega)] at hsn
        refine xr_iinc C dX8_recover_98 rfl (by decide) rfl ?_
        refine xr_goto C dX8_recover_101 rfl ?_
        refine mq_drop 8 ?_
        exact ih (i + 1, M7, T7) ⟨by dsimp only; omega, by dsimp only; rw [Nat.succ_mul]; omega, fun q => by dsimp only at q; omega, hB7, hF6.tr hF7⟩ (by dsimp only; omega)
