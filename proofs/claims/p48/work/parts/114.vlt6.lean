set_option maxHeartbeats 4000000 in
set_option maxRecDepth 100000 in
theorem c_then (l : Launch) (G : mq_G) (M : mq_M) (x v : Int64) : mq_T l yX11_then wsX11_then { frames := 0, cells := 0, slots := 0, locals := 0 } G [.long x, .long v] M (mq_pl (fun r M2 => r = dgT x v ∧ M = M2)) 0 0 := by
  refine mq_Met.of (cc := cX11_then) (maxL := 4) (ret := (some .long)) (by decide) rfl (Nat.le_of_ble_eq_true rfl) rfl rfl ?_
  intro p_ e_ s_ m_ args_ below_ meth_ c_ z_ C hr hlk hname
  refine xr_lload_n C dX11_then_0 rfl ?_
  refine xr_ldc2 (k0 := 31) C (C.1.2.2.2.2 (.constantLong RX11 330 31) (by decide +kernel)) dX11_then_1 ?_
  refine xr_lmul C dX11_then_4 ?_
  refine xr_lload_n C dX11_then_5 rfl ?_
  refine xr_ladd C dX11_then_6 ?_
  exact xr_lret C hr hlk ⟨_, rfl, rfl, rfl⟩ (by omega) (by omega) dX11_then_7
set_option maxHeartbeats 4000000 in
set_option maxRecDepth 100000 in
theorem c_withDesk (l : Launch) (G : mq_G) (La : Nat → Nat) (hI : mq_inj La) (sh : List Nat) (k : vtD) (h : Nat → Bool) (d : Nat → List Nat) (r : vtR) (M : mq_M) (hV : vtI G M La sh k h d r) (x0 : Int64) : mq_T l yX11_withDesk wsX11_withDesk { frames := 4, cells := 0, slots := 0, locals := 83 } G [.ref (La 0), .long x0] M (mq_pl (fun r9 M2 => r9 = dgK k x0 k.1 ∧ M = M2)) 0 0 := by
  refine mq_Met.of (cc := cX11_withDesk) (maxL := 7) (ret := (some .long)) (by decide) rfl (Nat.le_of_ble_eq_true rfl) rfl rfl ?_
  intro p_ e_ s_ m_ args_ below_ meth_ c_ z_ C hr hlk hname
  obtain ⟨v1, v2, v3, v4, v5, ⟨pf, hKP, hK⟩, v7, v8, v9⟩ := id hV
  have hn16 := hKP.2.2.1
  refine xr_lload_n C dX11_withDesk_0 rfl ?_
  refine xr_aload_n C dX11_withDesk_1 rfl ?_
  refine xr_get C (Cn := RX11) (T := TX11) (N := 5) (by decide +kernel) v1 rfl 1 (by decide) (C.1.2.2.2.2 (.fieldLink RX11 24 "OssuaryVault" "desk" "LOssuaryVault$Desk;") (by decide +kernel)) (fun _ h => h) rfl dX11_withDesk_2 ?_
  refine xr_callV0i C (c_dkCount l G La hI pf _ _ _ _ _ M hKP hK) (cwV 0 C.1.2.2.2.2 gX11_withDesk_X2_count rfl rfl rfl (by decide +kernel) ⟨Nat.le_of_ble_eq_true rfl, Nat.le_of_ble_eq_true rfl⟩) hK.1 rfl (Nat.le_of_ble_eq_true rfl) ⟨by dsimp only; omega, by dsimp only; omega⟩ dX11_withDesk_5 (fun r1 M9 hp9 => ?_)
  obtain ⟨rfl, rfl⟩ := hp9
  refine xr_i2l C dX11_withDesk_8 ?_
  refine xr_callS2l C (c_then l G M _ _) (cwS 2 C.1.2.2.2.2 gX11_withDesk_X11_then rfl rfl rfl (by decide +kernel) ⟨Nat.le_of_ble_eq_true rfl, Nat.le_of_ble_eq_true rfl⟩) (Nat.le_of_ble_eq_true rfl) ⟨by dsimp only; omega, by dsimp only; omega⟩ dX11_withDesk_9 (fun rt M9 hp9 => ?_)
  obtain ⟨rfl, rfl⟩ := hp9
  refine xr_aload_n C dX11_withDesk_12 rfl ?_
  refine xr_get C (Cn := RX11) (T := TX11) (N := 5) (by decide +kernel) v1 rfl 1 (by decide) (C.1.2.2.2.2 (.fieldLink RX11 24 "OssuaryVault" "desk" "LOssuaryVault$Desk;") (by decide +kernel)) (fun _ h => h) rfl dX11_withDesk_13 ?_
  refine xr_callV0i C (c_dkStreamSize l G La hI pf _ _ _ _ _ M hKP hK) (cwV 0 C.1.2.2.2.2 gX11_withDesk_X2_streamSize rfl rfl rfl (by decide +kernel) ⟨Nat.le_of_ble_eq_true rfl, Nat.le_of_ble_eq_true rfl⟩) hK.1 rfl (Nat.le_of_ble_eq_true rfl) ⟨by dsimp only; omega, by dsimp only; omega⟩ dX11_withDesk_16 (fun r2 M9 hp9 => ?_)
  obtain ⟨rfl, rfl⟩ := hp9
  refine xr_i2l C dX11_withDesk_19 ?_
  refine xr_callS2l C (c_then l G M _ _) (cwS 2 C.1.2.2.2.2 gX11_withDesk_X11_then rfl rfl rfl (by decide +kernel) ⟨Nat.le_of_ble_eq_true rfl, Nat.le_of_ble_eq_true rfl⟩) (Nat.le_of_ble_eq_true rfl) ⟨by dsimp only; omega, by dsimp only; omega⟩ dX11_withDesk_20 (fun rt M9 hp9 => ?_)
  obtain ⟨rfl, rfl⟩ := hp9
  refine xr_lstore_n C dX11_withDesk_23 (by decide) rfl ?_
  refine xr_iconst (n := 0) C dX11_withDesk_24 (by decide +kernel) ?_
  refine xr_istore C dX11_withDesk_25 (by decide) rfl ?_
  refine mq_loop (σ := Nat) (fun y => y ≤ k.1) (fun y => k.1 - y) (fun y => M) (fun y => [some (.ref (La 0)), some (.long x0), none, some (.long (dgK k x0 y)), none, some (.int (zI (y : Int))), none]) (fun y => []) ?_ 0 (Nat.zero_le _)
  intro i hi ih
  try dsimp only at hi ih ⊢
  refine xr_iload C dX11_withDesk_27 rfl ?_
  refine xr_aload_n C dX11_withDesk_29 rfl ?_
  refine xr_get C (Cn := RX11) (T := TX11) (N := 5) (by decide +kernel) v1 rfl 1 (by decide) (C.1.2.2.2.2 (.fieldLink RX11 24 "OssuaryVault" "desk" "LOssuaryVault$Desk;") (by decide +kernel)) (fun _ h => h) rfl dX11_withDesk_30 ?_
  refine xr_callV0i C (c_dkCount l G La hI pf _ _ _ _ _ M hKP hK) (cwV 0 C.1.2.2.2.2 gX11_withDesk_X2_count rfl rfl rfl (by decide +kernel) ⟨Nat.le_of_ble_eq_true rfl, Nat.le_of_ble_eq_true rfl⟩) hK.1 rfl (Nat.le_of_ble_eq_true rfl) ⟨by dsimp only; omega, by dsimp only; omega⟩ dX11_withDesk_33 (fun r3 M9 hp9 => ?_)
  obtain ⟨rfl, rfl⟩ := hp9
  refine xr_icmp_ge C dX11_withDesk_36 rfl (by first | omega | (dsimp only; omega)) (by first | omega | (dsimp only; omega)) (fun hq4 => ?_) (fun hq4 => ?_)
  · refine xr_lload_n C dX11_withDesk_107 rfl ?_
    exact xr_lret C hr hlk ⟨_, rfl, by rw [show i = k.1 by omega], rfl⟩ (by omega) (by omega) dX11_withDesk_108
  · have hil : i < k.1 := by omega
    have hfi := hK.2.2 i (by omega)
    refine xr_aload_n C dX11_withDesk_39 rfl ?_
    refine xr_get C (Cn := RX11) (T := TX11) (N := 5) (by decide +kernel) v1 rfl 1 (by decide) (C.1.2.2.2.2 (.fieldLink RX11 24 "OssuaryVault" "desk" "LOssuaryVault$Desk;") (by decide +kernel)) (fun _ h => h) rfl dX11_withDesk_40 ?_
    refine xr_iload C dX11_withDesk_43 rfl ?_
    refine xr_callV1a C (c_dkAt l G La hI pf _ _ _ _ _ M hKP hK i hil) (cwV 1 C.1.2.2.2.2 gX11_withDesk_X2_at rfl rfl rfl (by decide +kernel) ⟨Nat.le_of_ble_eq_true rfl, Nat.le_of_ble_eq_true rfl⟩) hK.1 rfl (Nat.le_of_ble_eq_true rfl) ⟨by dsimp only; omega, by dsimp only; omega⟩ dX11_withDesk_45 (fun r9 M9 hp9 => ?_)
    obtain ⟨rfl, rfl⟩ := hp9
    refine xr_astore C dX11_withDesk_48 (by decide) rfl ?_
    refine xr_aload C dX11_withDesk_50 rfl ?_
    refine xr_ifnull_s C dX11_withDesk_52 ?_
    refine xr_lload_n C dX11_withDesk_55 rfl ?_
    refine xr_aload C dX11_withDesk_56 rfl ?_
    refine xr_getN C (Cn := RX3) (T := TX3) (N := 4) (by decide +kernel) hfi.1 rfl 2 (by decide) (va_Nw.use rfl (C.2.2.1 ("OssuaryVault", 147, "OssuaryVault$DeskFile", "key", "I", "OssuaryVault") (by decide +kernel))) (fun _ h => h) rfl dX11_withDesk_58 ?_
    refine xr_i2l C dX11_withDesk_61 ?_
    refine xr_callS2l C (c_then l G M _ _) (cwS 2 C.1.2.2.2.2 gX11_withDesk_X11_then rfl rfl rfl (by decide +kernel) ⟨Nat.le_of_ble_eq_true rfl, Nat.le_of_ble_eq_true rfl⟩) (Nat.le_of_ble_eq_true rfl) ⟨by dsimp only; omega, by dsimp only; omega⟩ dX11_withDesk_62 (fun rt M9 hp9 => ?_)
    obtain ⟨rfl, rfl⟩ := hp9
    refine xr_aload C dX11_withDesk_65 rfl ?_
    refine xr_getN C (Cn := RX3) (T := TX3) (N := 4) (by decide +kernel) hfi.1 rfl 0 (by decide) (va_Nw.use rfl (C.2.2.1 ("OssuaryVault", 153, "OssuaryVault$DeskFile", "content", "LOssuaryVault$Bytes;", "OssuaryVault") (by decide +kernel))) (fun _ h => h) rfl dX11_withDesk_67 ?_
    refine xr_callV0i C (c_size l G _ _ _ _ M hfi.2.1) (cwV 0 C.1.2.2.2.2 gX11_withDesk_X0_size rfl rfl rfl (by decide +kernel) ⟨Nat.le_of_ble_eq_true rfl, Nat.le_of_ble_eq_true rfl⟩) hfi.2.1.1 rfl (Nat.le_of_ble_eq_true rfl) ⟨by dsimp only; omega, by dsimp only; omega⟩ dX11_withDesk_70 (fun r5 M9 hp9 => ?_)
    obtain ⟨rfl, rfl⟩ := hp9
    refine xr_i2l C dX11_withDesk_73 ?_
    refine xr_callS2l C (c_then l G M _ _) (cwS 2 C.1.2.2.2.2 gX11_withDesk_X11_then rfl rfl rfl (by decide +kernel) ⟨Nat.le_of_ble_eq_true rfl, Nat.le_of_ble_eq_true rfl⟩) (Nat.le_of_ble_eq_true rfl) ⟨by dsimp only; omega, by dsimp only; omega⟩ dX11_withDesk_74 (fun rt M9 hp9 => ?_)
    obtain ⟨rfl, rfl⟩ := hp9
    refine xr_lstore_n C dX11_withDesk_77 (by decide) rfl ?_
    refine xr_lload_n C dX11_withDesk_78 rfl ?_
    refine xr_aload C dX11_withDesk_79 rfl ?_
    refine xr_getN C (Cn := RX3) (T := TX3) (N := 4) (by decide +kernel) hfi.1 rfl 3 (by decide) (va_Nw.use rfl (C.2.2.1 ("OssuaryVault", 160, "OssuaryVault$DeskFile", "contentCheck", "I", "OssuaryVault") (by decide +kernel))) (fun _ h => h) rfl dX11_withDesk_81 ?_
    refine xr_i2l C dX11_withDesk_84 ?_
    refine xr_callS2l C (c_then l G M _ _) (cwS 2 C.1.2.2.2.2 gX11_withDesk_X11_then rfl rfl rfl (by decide +kernel) ⟨Nat.le_of_ble_eq_true rfl, Nat.le_of_ble_eq_true rfl⟩) (Nat.le_of_ble_eq_true rfl) ⟨by dsimp only; omega, by dsimp only; omega⟩ dX11_withDesk_85 (fun rt M9 hp9 => ?_)
    obtain ⟨rfl, rfl⟩ := hp9
    refine xr_aload C dX11_withDesk_88 rfl ?_
    refine xr_getN C (Cn := RX3) (T := TX3) (N := 4) (by decide +kernel) hfi.1 rfl 1 (by decide) (va_Nw.use rfl (C.2.2.1 ("OssuaryVault", 163, "OssuaryVault$DeskFile", "packed", "LOssuaryVault$Bytes;", "OssuaryVault") (by decide +kernel))) (fun _ h => h) rfl dX11_withDesk_90 ?_
    refine xr_callV0i C (c_size l G _ _ _ _ M hfi.2.2) (cwV 0 C.1.2.2.2.2 gX11_withDesk_X0_size rfl rfl rfl (by decide +kernel) ⟨Nat.le_of_ble_eq_true rfl, Nat.le_of_ble_eq_true rfl⟩) hfi.2.2.1 rfl (Nat.le_of_ble_eq_true rfl) ⟨by dsimp only; omega, by dsimp only; omega⟩ dX11_withDesk_93 (fun r6 M9 hp9 => ?_)
    obtain ⟨rfl, rfl⟩ := hp9
    refine xr_i2l C dX11_withDesk_96 ?_
    refine xr_callS2l C (c_then l G M _ _) (cwS 2 C.1.2.2.2.2 gX11_withDesk_X11_then rfl rfl rfl (by decide +kernel) ⟨Nat.le_of_ble_eq_true rfl, Nat.le_of_ble_eq_true rfl⟩) (Nat.le_of_ble_eq_true rfl) ⟨by dsimp only; omega, by dsimp only; omega⟩ dX11_withDesk_97 (fun rt M9 hp9 => ?_)
    obtain ⟨rfl, rfl⟩ := hp9
    refine xr_lstore_n C dX11_withDesk_100 (by decide) rfl ?_
    refine xr_iinc C dX11_withDesk_101 rfl (by decide) rfl ?_
    refine xr_goto C dX11_withDesk_104 rfl ?_
    refine mq_drop 6 ?_
    exact ih (i + 1) (by omega) (by omega)
set_option maxHeartbeats 4000000 in
set_option maxRecDepth 100000 in
theorem c_withReading (l : Launch) (G : mq_G) (La : Nat → Nat) (hI : mq_inj La) (sh : List Nat) (k : vtD) (h : Nat → Bool) (d : Nat → List Nat) (op : Bool) (da pa : Int) (ix : Bool) (n : Nat) (S : List Nat) (fc : Nat → List Nat) (fk fp ft : Nat → Int) (fg : Nat → Bool) (M : mq_M) (hV : vtI G M La sh k h d (op, da, pa, ix, n, S, fc, fk, fp, ft, fg)) (x0 : Int64) : mq_T l yX11_withReading wsX11_withReading { frames := 2, cells := 0, slots := 0, locals := 40 } G [.ref (La 0), .long x0] M (mq_pl (fun r9 M2 => r9 = dgF (op, da, pa, ix, n, S, fc, fk, fp, ft, fg) x0 ∧ M = M2)) 0 0 := by
  refine mq_Met.of (cc := cX11_withReading) (maxL := 7) (ret := (some .long)) (by decide) rfl (Nat.le_of_ble_eq_true rfl) rfl rfl ?_
  intro p_ e_ s_ m_ args_ below_ meth_ c_ z_ C hr hlk hname
  obtain ⟨v1, v2, v3, v4, v5, v6, v7, v8, v9⟩ := id hV
  have hR : rdI G M La op da pa ix n S fc fk fp ft fg := v9.1
  have hn40 : n ≤ 40 := v9.2.2
  have hob := mq_b_rng op
  have hib := mq_b_rng ix
  refine xr_aload_n C dX11_withReading_0 rfl ?_
  refine xr_get C (Cn := RX11) (T := TX11) (N := 5) (by decide +kernel) v1 rfl 4 (by decide) (C.1.2.2.2.2 (.fieldLink RX11 49 "OssuaryVault" "reading" "LOssuaryVault$Reading;") (by decide +kernel)) (fun _ h => h) rfl dX11_withReading_1 ?_
  refine xr_getN C (Cn := RX7) (T := TX7) (N := 8) (by decide +kernel) hR.1 rfl 3 (by decide) (va_Nw.use rfl (C.2.2.1 ("OssuaryVault", 327, "OssuaryVault$Reading", "isOpen", "Z", "OssuaryVault") (by decide +kernel))) (fun _ h => h) rfl dX11_withReading_4 ?_
  refine xr_if_ne C dX11_withReading_7 rfl (by first | omega | (dsimp only; omega)) (fun hq1 => ?_) (fun hq1 => ?_)
  · refine xr_lload_n C dX11_withReading_16 rfl ?_
    refine xr_lconst C dX11_withReading_17 rfl ?_
    refine xr_callS2l C (c_then l G M _ _) (cwS 2 C.1.2.2.2.2 gX11_withReading_X11_then rfl rfl rfl (by decide +kernel) ⟨Nat.le_of_ble_eq_true rfl, Nat.le_of_ble_eq_true rfl⟩) (Nat.le_of_ble_eq_true rfl) ⟨by dsimp only; omega, by dsimp only; omega⟩ dX11_withReading_18 (fun rt M9 hp9 => ?_)
    obtain ⟨rfl, rfl⟩ := hp9
    refine xr_aload_n C dX11_withReading_21 rfl ?_
    refine xr_get C (Cn := RX11) (T := TX11) (N := 5) (by decide +kernel) v1 rfl 4 (by decide) (C.1.2.2.2.2 (.fieldLink RX11 49 "OssuaryVault" "reading" "LOssuaryVault$Reading;") (by decide +kernel)) (fun _ h => h) rfl dX11_withReading_22 ?_
    refine xr_getN C (Cn := RX7) (T := TX7) (N := 8) (by decide +kernel) hR.1 rfl 1 (by decide) (va_Nw.use rfl (C.2.2.1 ("OssuaryVault", 248, "OssuaryVault$Reading", "stream", "LOssuaryVault$Bytes;", "OssuaryVault") (by decide +kernel))) (fun _ h => h) rfl dX11_withReading_25 ?_
    refine xr_callV0i C (c_size l G _ _ _ _ M hR.2.1) (cwV 0 C.1.2.2.2.2 gX11_withReading_X0_size rfl rfl rfl (by decide +kernel) ⟨Nat.le_of_ble_eq_true rfl, Nat.le_of_ble_eq_true rfl⟩) hR.2.1.1 rfl (Nat.le_of_ble_eq_true rfl) ⟨by dsimp only; omega, by dsimp only; omega⟩ dX11_withReading_28 (fun r2 M9 hp9 => ?_)
    obtain ⟨rfl, rfl⟩ := hp9
    refine xr_i2l C dX11_withReading_31 ?_
    refine xr_callS2l C (c_then l G M _ _) (cwS 2 C.1.2.2.2.2 gX11_withReading_X11_then rfl rfl rfl (by decide +kernel) ⟨Nat.le_of_ble_eq_true rfl, Nat.le_of_ble_eq_true rfl⟩) (Nat.le_of_ble_eq_true rfl) ⟨by dsimp only; omega, by dsimp only; omega⟩ dX11_withReading_32 (fun rt M9 hp9 => ?_)
    obtain ⟨rfl, rfl⟩ := hp9
    refine xr_lstore_n C dX11_withReading_35 (by decide) rfl ?_
    refine xr_lload_n C dX11_withReading_36 rfl ?_
    refine xr_aload_n C dX11_withReading_37 rfl ?_
    refine xr_get C (Cn := RX11) (T := TX11) (N := 5) (by decide +kernel) v1 rfl 4 (by decide) (C.1.2.2.2.2 (.fieldLink RX11 49 "OssuaryVault" "reading" "LOssuaryVault$Reading;") (by decide +kernel)) (fun _ h => h) rfl dX11_withReading_38 ?_
    refine xr_getN C (Cn := RX7) (T := TX7) (N := 8) (by decide +kernel) hR.1 rfl 6 (by decide) (va_Nw.use rfl (C.2.2.1 ("OssuaryVault", 276, "OssuaryVault$Reading", "indexed", "Z", "OssuaryVault") (by decide +kernel))) (fun _ h => h) rfl dX11_withReading_41 ?_
    refine xr_if_eq C dX11_withReading_44 rfl (by first | omega | (dsimp only; omega)) (fun hq3 => ?_) (fun hq3 => ?_)
    · have hix : dgO ix = 0 := by cases ix <;> first | rfl | exact absurd hq3 (by decide)
      refine xr_lconst C dX11_withReading_51 rfl ?_
      refine xr_callS2l C (c_then l G M _ _) (cwS 2 C.1.2.2.2.2 gX11_withReading_X11_then rfl rfl rfl (by decide +kernel) ⟨Nat.le_of_ble_eq_true rfl, Nat.le_of_ble_eq_true rfl⟩) (Nat.le_of_ble_eq_true rfl) ⟨by dsimp only; omega, by dsimp only; omega⟩ dX11_withReading_52 (fun rt M9 hp9 => ?_)
      obtain ⟨rfl, rfl⟩ := hp9
      refine xr_aload_n C dX11_withReading_55 rfl ?_
      refine xr_get C (Cn := RX11) (T := TX11) (N := 5) (by decide +kernel) v1 rfl 4 (by decide) (C.1.2.2.2.2 (.fieldLink RX11 49 "OssuaryVault" "reading" "LOssuaryVault$Reading;") (by decide +kernel)) (fun _ h => h) rfl dX11_withReading_56 ?_
      refine xr_getN C (Cn := RX7) (T := TX7) (N := 8) (by decide +kernel) hR.1 rfl 7 (by decide) (va_Nw.use rfl (C.2.2.1 ("OssuaryVault", 280, "OssuaryVault$Reading", "count", "I", "OssuaryVault") (by decide +kernel))) (fun _ h => h) rfl dX11_withReading_59 ?_
      refine xr_i2l C dX11_withReading_62 ?_
      refine xr_callS2l C (c_then l G M _ _) (cwS 2 C.1.2.2.2.2 gX11_withReading_X11_then rfl rfl rfl (by decide +kernel) ⟨Nat.le_of_ble_eq_true rfl, Nat.le_of_ble_eq_true rfl⟩) (Nat.le_of_ble_eq_true rfl) ⟨by dsimp only; omega, by dsimp only; omega⟩ dX11_withReading_63 (fun rt M9 hp9 => ?_)
      obtain ⟨rfl, rfl⟩ := hp9
      refine xr_lstore_n C dX11_withReading_66 (by decide) rfl ?_
      refine xr_iconst (n := 0) C dX11_withReading_67 (by decide +kernel) ?_
      refine xr_istore C dX11_withReading_68 (by decide) rfl ?_
      have hst : dgT (dgT (dgT (dgT x0 1) (dgZ (S.length : Int))) 0) (dgZ (n : Int)) = dgR S ix n fc fk fp fg x0 0 := by unfold dgR; rw [hix]
      refine mq_eqL (L2 := [some (.ref (La 0)), some (.long x0), none, some (.long (dgR S ix n fc fk fp fg x0 0)), none, some (.int (zI ((0 : Nat) : Int))), none]) rfl (by rw [← hst]; rfl) rfl rfl ?_
      refine mq_loop (σ := Nat) (fun y => y ≤ n) (fun y => n - y) (fun y => M) (fun y => [some (.ref (La 0)), some (.long x0), none, some (.long (dgR S ix n fc fk fp fg x0 y)), none, some (.int (zI (y : Int))), none]) (fun y => []) ?_ 0 (Nat.zero_le _)
      intro i hi ih
      try dsimp only at hi ih ⊢
      refine xr_iload C dX11_withReading_70 rfl ?_
      refine xr_aload_n C dX11_withReading_72 rfl ?_
      refine xr_get C (Cn := RX11) (T := TX11) (N := 5) (by decide +kernel) v1 rfl 4 (by decide) (C.1.2.2.2.2 (.fieldLink RX11 49 "OssuaryVault" "reading" "LOssuaryVault$Reading;") (by decide +kernel)) (fun _ h => h) rfl dX11_withReading_73 ?_
      refine xr_getN C (Cn := RX7) (T := TX7) (N := 8) (by decide +kernel) hR.1 rfl 7 (by decide) (va_Nw.use rfl (C.2.2.1 ("OssuaryVault", 280, "OssuaryVault$Reading", "count", "I", "OssuaryVault") (by decide +kernel))) (fun _ h => h) rfl dX11_withReading_76 ?_
      refine xr_icmp_ge C dX11_withReading_79 rfl (by first | omega | (dsimp only; omega)) (by first | omega | (dsimp only; omega)) (fun hq4 => ?_) (fun hq4 => ?_)
      · refine xr_lload_n C dX11_withReading_151 rfl ?_
        have hop : op = true := by
          cases op
          · exact absurd rfl hq1
          · rfl
        have hin : i = n := by omega
        subst hin
        exact xr_lret C hr hlk ⟨_, rfl, by unfold dgF; rw [if_pos hop], rfl⟩ (by omega) (by omega) dX11_withReading_152
      · have hil : i < n := by omega
        have hfi := hR.2.2.2 i (by omega)
        have hgb := mq_b_rng (fg i)
        refine xr_aload_n C dX11_withReading_82 rfl ?_
        refine xr_get C (Cn := RX11) (T := TX11) (N := 5) (by decide +kernel) v1 rfl 4 (by decide) (C.1.2.2.2.2 (.fieldLink RX11 49 "OssuaryVault" "reading" "LOssuaryVault$Reading;") (by decide +kernel)) (fun _ h => h) rfl dX11_withReading_83 ?_
        refine xr_iload C dX11_withReading_86 rfl ?_
        refine xr_callV1a C (c_rdAt l G La hI _ _ _ _ _ _ _ _ _ _ _ M hR i hil (by omega) hn40) (cwV 1 C.1.2.2.2.2 gX11_withReading_X7_at rfl rfl rfl (by decide +kernel) ⟨Nat.le_of_ble_eq_true rfl, Nat.le_of_ble_eq_true rfl⟩) hR.1 rfl (Nat.le_of_ble_eq_true rfl) ⟨by dsimp only; omega, by dsimp only; omega⟩ dX11_withReading_88 (fun r9 M9 hp9 => ?_)
        obtain ⟨rfl, rfl⟩ := hp9
        refine xr_astore C dX11_withReading_91 (by decide) rfl ?_
        refine xr_aload C dX11_withReading_93 rfl ?_
        refine xr_ifnull_s C dX11_withReading_95 ?_
        refine xr_lload_n C dX11_withReading_98 rfl ?_
        refine xr_aload C dX11_withReading_99 rfl ?_
        refine xr_getN C (Cn := RX5) (T := TX5) (N := 5) (by decide +kernel) hfi.1 rfl 1 (by decide) (va_Nw.use rfl (C.2.2.1 ("OssuaryVault", 286, "OssuaryVault$FoundFile", "key", "I", "OssuaryVault") (by decide +kernel))) (fun _ h => h) rfl dX11_withReading_101 ?_
        refine xr_i2l C dX11_withReading_104 ?_
        refine xr_callS2l C (c_then l G M _ _) (cwS 2 C.1.2.2.2.2 gX11_withReading_X11_then rfl rfl rfl (by decide +kernel) ⟨Nat.le_of_ble_eq_true rfl, Nat.le_of_ble_eq_true rfl⟩) (Nat.le_of_ble_eq_true rfl) ⟨by dsimp only; omega, by dsimp only; omega⟩ dX11_withReading_105 (fun rt M9 hp9 => ?_)
        obtain ⟨rfl, rfl⟩ := hp9
        refine xr_aload C dX11_withReading_108 rfl ?_
        refine xr_getN C (Cn := RX5) (T := TX5) (N := 5) (by decide +kernel) hfi.1 rfl 2 (by decide) (va_Nw.use rfl (C.2.2.1 ("OssuaryVault", 289, "OssuaryVault$FoundFile", "place", "I", "OssuaryVault") (by decide +kernel))) (fun _ h => h) rfl dX11_withReading_110 ?_
        refine xr_i2l C dX11_withReading_113 ?_
        refine xr_callS2l C (c_then l G M _ _) (cwS 2 C.1.2.2.2.2 gX11_withReading_X11_then rfl rfl rfl (by decide +kernel) ⟨Nat.le_of_ble_eq_true rfl, Nat.le_of_ble_eq_true rfl⟩) (Nat.le_of_ble_eq_true rfl) ⟨by dsimp only; omega, by dsimp only; omega⟩ dX11_withReading_114 (fun rt M9 hp9 => ?_)
        obtain ⟨rfl, rfl⟩ := hp9
        refine xr_lstore_n C dX11_withReading_117 (by decide) rfl ?_
        refine xr_lload_n C dX11_withReading_118 rfl ?_
        refine xr_aload C dX11_withReading_119 rfl ?_
        refine xr_getN C (Cn := RX5) (T := TX5) (N := 5) (by decide +kernel) hfi.1 rfl 4 (by decide) (va_Nw.use rfl (C.2.2.1 ("OssuaryVault", 292, "OssuaryVault$FoundFile", "good", "Z", "OssuaryVault") (by decide +kernel))) (fun _ h => h) rfl dX11_withReading_121 ?_
        refine xr_if_eq C dX11_withReading_124 rfl (by first | omega | (dsimp only; omega)) (fun hq5 => ?_) (fun hq5 => ?_)
        · have hfx : dgO (fg i) = 0 := by
            cases hc : fg i
            all_goals first | rfl | exact absurd hq5 (by rw [hc]; decide)
          refine xr_lconst C dX11_withReading_131 rfl ?_
          refine xr_callS2l C (c_then l G M _ _) (cwS 2 C.1.2.2.2.2 gX11_withReading_X11_then rfl rfl rfl (by decide +kernel) ⟨Nat.le_of_ble_eq_true rfl, Nat.le_of_ble_eq_true rfl⟩) (Nat.le_of_ble_eq_true rfl) ⟨by dsimp only; omega, by dsimp only; omega⟩ dX11_withReading_132 (fun rt M9 hp9 => ?_)
          obtain ⟨rfl, rfl⟩ := hp9
          refine xr_aload C dX11_withReading_135 rfl ?_
          refine xr_callV0i C (c_ffsize l G _ _ _ _ _ _ _ _ M hfi) (cwV 0 C.1.2.2.2.2 gX11_withReading_X5_size rfl rfl rfl (by decide +kernel) ⟨Nat.le_of_ble_eq_true rfl, Nat.le_of_ble_eq_true rfl⟩) hfi.1 rfl (Nat.le_of_ble_eq_true rfl) ⟨by dsimp only; omega, by dsimp only; omega⟩ dX11_withReading_137 (fun r6 M9 hp9 => ?_)
          obtain ⟨rfl, rfl⟩ := hp9
          refine xr_i2l C dX11_withReading_140 ?_
          refine xr_callS2l C (c_then l G M _ _) (cwS 2 C.1.2.2.2.2 gX11_withReading_X11_then rfl rfl rfl (by decide +kernel) ⟨Nat.le_of_ble_eq_true rfl, Nat.le_of_ble_eq_true rfl⟩) (Nat.le_of_ble_eq_true rfl) ⟨by dsimp only; omega, by dsimp only; omega⟩ dX11_withReading_141 (fun rt M9 hp9 => ?_)
          obtain ⟨rfl, rfl⟩ := hp9
          refine xr_lstore_n C dX11_withReading_144 (by decide) rfl ?_
          refine xr_iinc C dX11_withReading_145 rfl (by decide) rfl ?_
          refine xr_goto C dX11_withReading_148 rfl ?_
          refine mq_drop 6 ?_
          have hs9 : dgR S ix n fc fk fp fg x0 (i + 1) = dgT (dgT (dgT (dgT (dgR S ix n fc fk fp fg x0 i) (dgZ (fk i))) (dgZ (fp i))) (dgO (fg i))) (dgZ (vsz (fg i) (fc i))) := rfl
          rw [hfx] at hs9
          refine mq_eqL (L2 := [some (.ref (La 0)), some (.long x0), none, some (.long (dgR S ix n fc fk fp fg x0 (i + 1))), none, some (.int (zI ((i + 1 : Nat) : Int))), none]) rfl (by rw [hs9]; rfl) rfl rfl ?_
          exact ih (i + 1) (by omega) (by omega)
        · have hfx : dgO (fg i) = 1 := by
            cases hc : fg i
            all_goals first | rfl | exact absurd hq5 (by rw [hc]; decide)
          refine xr_lconst C dX11_withReading_127 rfl ?_
          refine xr_goto C dX11_withReading_128 rfl ?_
          refine xr_callS2l C (c_then l G M _ _) (cwS 2 C.1.2.2.2.2 gX11_withReading_X11_then rfl rfl rfl (by decide +kernel) ⟨Nat.le_of_ble_eq_true rfl, Nat.le_of_ble_eq_true rfl⟩) (Nat.le_of_ble_eq_true rfl) ⟨by dsimp only; omega, by dsimp only; omega⟩ dX11_withReading_132 (fun rt M9 hp9 => ?_)
          obtain ⟨rfl, rfl⟩ := hp9
          refine xr_aload C dX11_withReading_135 rfl ?_
          refine xr_callV0i C (c_ffsize l G _ _ _ _ _ _ _ _ M hfi) (cwV 0 C.1.2.2.2.2 gX11_withReading_X5_size rfl rfl rfl (by decide +kernel) ⟨Nat.le_of_ble_eq_true rfl, Nat.le_of_ble_eq_true rfl⟩) hfi.1 rfl (Nat.le_of_ble_eq_true rfl) ⟨by dsimp only; omega, by dsimp only; omega⟩ dX11_withReading_137 (fun r7 M9 hp9 => ?_)
          obtain ⟨rfl, rfl⟩ := hp9
          refine xr_i2l C dX11_withReading_140 ?_
          refine xr_callS2l C (c_then l G M _ _) (cwS 2 C.1.2.2.2.2 gX11_withReading_X11_then rfl rfl rfl (by decide +kernel) ⟨Nat.le_of_ble_eq_true rfl, Nat.le_of_ble_eq_true rfl⟩) (Nat.le_of_ble_eq_true rfl) ⟨by dsimp only; omega, by dsimp only; omega⟩ dX11_withReading_141 (fun rt M9 hp9 => ?_)
          obtain ⟨rfl, rfl⟩ := hp9
          refine xr_lstore_n C dX11_withReading_144 (by decide) rfl ?_
          refine xr_iinc C dX11_withReading_145 rfl (by decide) rfl ?_
          refine xr_goto C dX11_withReading_148 rfl ?_
          refine mq_drop 6 ?_
          have hs9 : dgR S ix n fc fk fp fg x0 (i + 1) = dgT (dgT (dgT (dgT (dgR S ix n fc fk fp fg x0 i) (dgZ (fk i))) (dgZ (fp i))) (dgO (fg i))) (dgZ (vsz (fg i) (fc i))) := rfl
          rw [hfx] at hs9
          refine mq_eqL (L2 := [some (.ref (La 0)), some (.long x0), none, some (.long (dgR S ix n fc fk fp fg x0 (i + 1))), none, some (.int (zI ((i + 1 : Nat) : Int))), none]) rfl (by rw [hs9]; rfl) rfl rfl ?_
          exact ih (i + 1) (by omega) (by omega)
    · have hix : dgO ix = 1 := by cases ix <;> first | rfl | exact absurd hq3 (by decide)
      refine xr_lconst C dX11_withReading_47 rfl ?_
      refine xr_goto C dX11_withReading_48 rfl ?_
      refine xr_callS2l C (c_then l G M _ _) (cwS 2 C.1.2.2.2.2 gX11_withReading_X11_then rfl rfl rfl (by decide +kernel) ⟨Nat.le_of_ble_eq_true rfl, Nat.le_of_ble_eq_true rfl⟩) (Nat.le_of_ble_eq_true rfl) ⟨by dsimp only; omega, by dsimp only; omega⟩ dX11_withReading_52 (fun rt M9 hp9 => ?_)
      obtain ⟨rfl, rfl⟩ := hp9
      refine xr_aload_n C dX11_withReading_55 rfl ?_
      refine xr_get C (Cn := RX11) (T := TX11) (N := 5) (by decide +kernel) v1 rfl 4 (by decide) (C.1.2.2.2.2 (.fieldLink RX11 49 "OssuaryVault" "reading" "LOssuaryVault$Reading;") (by decide +kernel)) (fun _ h => h) rfl dX11_withReading_56 ?_
      refine xr_getN C (Cn := RX7) (T := TX7) (N := 8) (by decide +kernel) hR.1 rfl 7 (by decide) (va_Nw.use rfl (C.2.2.1 ("OssuaryVault", 280, "OssuaryVault$Reading", "count", "I", "OssuaryVault") (by decide +kernel))) (fun _ h => h) rfl dX11_withReading_59 ?_
      refine xr_i2l C dX11_withReading_62 ?_
      refine xr_callS2l C (c_then l G M _ _) (cwS 2 C.1.2.2.2.2 gX11_withReading_X11_then rfl rfl rfl (by decide +kernel) ⟨Nat.le_of_ble_eq_true rfl, Nat.le_of_ble_eq_true rfl⟩) (Nat.le_of_ble_eq_true rfl) ⟨by dsimp only; omega, by dsimp only; omega⟩ dX11_withReading_63 (fun rt M9 hp9 => ?_)
      obtain ⟨rfl, rfl⟩ := hp9
      refine xr_lstore_n C dX11_withReading_66 (by decide) rfl ?_
      refine xr_iconst (n := 0) C dX11_withReading_67 (by decide +kernel) ?_
      refine xr_istore C dX11_withReading_68 (by decide) rfl ?_
      have hst : dgT (dgT (dgT (dgT x0 1) (dgZ (S.length : Int))) 1) (dgZ (n : Int)) = dgR S ix n fc fk fp fg x0 0 := by unfold dgR; rw [hix]
      refine mq_eqL (L2 := [some (.ref (La 0)), some (.long x0), none, some (.long (dgR S ix n fc fk fp fg x0 0)), none, some (.int (zI ((0 : Nat) : Int))), none]) rfl (by rw [← hst]; rfl) rfl rfl ?_
      refine mq_loop (σ := Nat) (fun y => y ≤ n) (fun y => n - y) (fun y => M) (fun y => [some (.ref (La 0)), some (.long x0), none, some (.long (dgR S ix n fc fk fp fg x0 y)), none, some (.int (zI (y : Int))), none]) (fun y => []) ?_ 0 (Nat.zero_le _)
      intro i hi ih
      try dsimp only at hi ih ⊢
      refine xr_iload C dX11_withReading_70 rfl ?_
      refine xr_aload_n C dX11_withReading_72 rfl ?_
      refine xr_get C (Cn := RX11) (T := TX11) (N := 5) (by decide +kernel) v1 rfl 4 (by decide) (C.1.2.2.2.2 (.fieldLink RX11 49 "OssuaryVault" "reading" "LOssuaryVault$Reading;") (by decide +kernel)) (fun _ h => h) rfl dX11_withReading_73 ?_
      refine xr_getN C (Cn := RX7) (T := TX7) (N := 8) (by decide +kernel) hR.1 rfl 7 (by decide) (va_Nw.use rfl (C.2.2.1 ("OssuaryVault", 280, "OssuaryVault$Reading", "count", "I", "OssuaryVault") (by decide +kernel))) (fun _ h => h) rfl dX11_withReading_76 ?_
      refine xr_icmp_ge C dX11_withReading_79 rfl (by first | omega | (dsimp only; omega)) (by first | omega | (dsimp only; omega)) (fun hq8 => ?_) (fun hq8 => ?_)
      · refine xr_lload_n C dX11_withReading_151 rfl ?_
        have hop : op = true := by
          cases op
          · exact absurd rfl hq1
          · rfl
        have hin : i = n := by omega
        subst hin
        exact xr_lret C hr hlk ⟨_, rfl, by unfold dgF; rw [if_pos hop], rfl⟩ (by omega) (by omega) dX11_withReading_152
      · have hil : i < n := by omega
        have hfi := hR.2.2.2 i (by omega)
        have hgb := mq_b_rng (fg i)
        refine xr_aload_n C dX11_withReading_82 rfl ?_
        refine xr_get C (Cn := RX11) (T := TX11) (N := 5) (by decide +kernel) v1 rfl 4 (by decide) (C.1.2.2.2.2 (.fieldLink RX11 49 "OssuaryVault" "reading" "LOssuaryVault$Reading;") (by decide +kernel)) (fun _ h => h) rfl dX11_withReading_83 ?_
        refine xr_iload C dX11_withReading_86 rfl ?_
        refine xr_callV1a C (c_rdAt l G La hI _ _ _ _ _ _ _ _ _ _ _ M hR i hil (by omega) hn40) (cwV 1 C.1.2.2.2.2 gX11_withReading_X7_at rfl rfl rfl (by decide +kernel) ⟨Nat.le_of_ble_eq_true rfl, Nat.le_of_ble_eq_true rfl⟩) hR.1 rfl (Nat.le_of_ble_eq_true rfl) ⟨by dsimp only; omega, by dsimp only; omega⟩ dX11_withReading_88 (fun r9 M9 hp9 => ?_)
        obtain ⟨rfl, rfl⟩ := hp9
        refine xr_astore C dX11_withReading_91 (by decide) rfl ?_
        refine xr_aload C dX11_withReading_93 rfl ?_
        refine xr_ifnull_s C dX11_withReading_95 ?_
        refine xr_lload_n C dX11_withReading_98 rfl ?_
        refine xr_aload C dX11_withReading_99 rfl ?_
        refine xr_getN C (Cn := RX5) (T := TX5) (N := 5) (by decide +kernel) hfi.1 rfl 1 (by decide) (va_Nw.use rfl (C.2.2.1 ("OssuaryVault", 286, "OssuaryVault$FoundFile", "key", "I", "OssuaryVault") (by decide +kernel))) (fun _ h => h) rfl dX11_withReading_101 ?_
        refine xr_i2l C dX11_withReading_104 ?_
        refine xr_callS2l C (c_then l G M _ _) (cwS 2 C.1.2.2.2.2 gX11_withReading_X11_then rfl rfl rfl (by decide +kernel) ⟨Nat.le_of_ble_eq_true rfl, Nat.le_of_ble_eq_true rfl⟩) (Nat.le_of_ble_eq_true rfl) ⟨by dsimp only; omega, by dsimp only; omega⟩ dX11_withReading_105 (fun rt M9 hp9 => ?_)
        obtain ⟨rfl, rfl⟩ := hp9
        refine xr_aload C dX11_withReading_108 rfl ?_
        refine xr_getN C (Cn := RX5) (T := TX5) (N := 5) (by decide +kernel) hfi.1 rfl 2 (by decide) (va_Nw.use rfl (C.2.2.1 ("OssuaryVault", 289, "OssuaryVault$FoundFile", "place", "I", "OssuaryVault") (by decide +kernel))) (fun _ h => h) rfl dX11_withReading_110 ?_
        refine xr_i2l C dX11_withReading_113 ?_
        refine xr_callS2l C (c_then l G M _ _) (cwS 2 C.1.2.2.2.2 gX11_withReading_X11_then rfl rfl rfl (by decide +kernel) ⟨Nat.le_of_ble_eq_true rfl, Nat.le_of_ble_eq_true rfl⟩) (Nat.le_of_ble_eq_true rfl) ⟨by dsimp only; omega, by dsimp only; omega⟩ dX11_withReading_114 (fun rt M9 hp9 => ?_)
        obtain ⟨rfl, rfl⟩ := hp9
        refine xr_lstore_n C dX11_withReading_117 (by decide) rfl ?_
        refine xr_lload_n C dX11_withReading_118 rfl ?_
        refine xr_aload C dX11_withReading_119 rfl ?_
        refine xr_getN C (Cn := RX5) (T := TX5) (N := 5) (by decide +kernel) hfi.1 rfl 4 (by decide) (va_Nw.use rfl (C.2.2.1 ("OssuaryVault", 292, "OssuaryVault$FoundFile", "good", "Z", "OssuaryVault") (by decide +kernel))) (fun _ h => h) rfl dX11_withReading_121 ?_
        refine xr_if_eq C dX11_withReading_124 rfl (by first | omega | (dsimp only; omega)) (fun hq9 => ?_) (fun hq9 => ?_)
        · have hfx : dgO (fg i) = 0 := by
            cases hc : fg i
            all_goals first | rfl | exact absurd hq9 (by rw [hc]; decide)
          refine xr_lconst C dX11_withReading_131 rfl ?_
          refine xr_callS2l C (c_then l G M _ _) (cwS 2 C.1.2.2.2.2 gX11_withReading_X11_then rfl rfl rfl (by decide +kernel) ⟨Nat.le_of_ble_eq_true rfl, Nat.le_of_ble_eq_true rfl⟩) (Nat.le_of_ble_eq_true rfl) ⟨by dsimp only; omega, by dsimp only; omega⟩ dX11_withReading_132 (fun rt M9 hp9 => ?_)
          obtain ⟨rfl, rfl⟩ := hp9
          refine xr_aload C dX11_withReading_135 rfl ?_
          refine xr_callV0i C (c_ffsize l G _ _ _ _ _ _ _ _ M hfi) (cwV 0 C.1.2.2.2.2 gX11_withReading_X5_size rfl rfl rfl (by decide +kernel) ⟨Nat.le_of_ble_eq_true rfl, Nat.le_of_ble_eq_true rfl⟩) hfi.1 rfl (Nat.le_of_ble_eq_true rfl) ⟨by dsimp only; omega, by dsimp only; omega⟩ dX11_withReading_137 (fun r10 M9 hp9 => ?_)
          obtain ⟨rfl, rfl⟩ := hp9
          refine xr_i2l C dX11_withReading_140 ?_
          refine xr_callS2l C (c_then l G M _ _) (cwS 2 C.1.2.2.2.2 gX11_withReading_X11_then rfl rfl rfl (by decide +kernel) ⟨Nat.le_of_ble_eq_true rfl, Nat.le_of_ble_eq_true rfl⟩) (Nat.le_of_ble_eq_true rfl) ⟨by dsimp only; omega, by dsimp only; omega⟩ dX11_withReading_141 (fun rt M9 hp9 => ?_)
          obtain ⟨rfl, rfl⟩ := hp9
          refine xr_lstore_n C dX11_withReading_144 (by decide) rfl ?_
          refine xr_iinc C dX11_withReading_145 rfl (by decide) rfl ?_
          refine xr_goto C dX11_withReading_148 rfl ?_
          refine mq_drop 6 ?_
          have hs9 : dgR S ix n fc fk fp fg x0 (i + 1) = dgT (dgT (dgT (dgT (dgR S ix n fc fk fp fg x0 i) (dgZ (fk i))) (dgZ (fp i))) (dgO (fg i))) (dgZ (vsz (fg i) (fc i))) := rfl
          rw [hfx] at hs9
          refine mq_eqL (L2 := [some (.ref (La 0)), some (.long x0), none, some (.long (dgR S ix n fc fk fp fg x0 (i + 1))), none, some (.int (zI ((i + 1 : Nat) : Int))), none]) rfl (by rw [hs9]; rfl) rfl rfl ?_
          exact ih (i + 1) (by omega) (by omega)
        · have hfx : dgO (fg i) = 1 := by
            cases hc : fg i
            all_goals first | rfl | exact absurd hq9 (by rw [hc]; decide)
          refine xr_lconst C dX11_withReading_127 rfl ?_
          refine xr_goto C dX11_withReading_128 rfl ?_
          refine xr_callS2l C (c_then l G M _ _) (cwS 2 C.1.2.2.2.2 gX11_withReading_X11_then rfl rfl rfl (by decide +kernel) ⟨Nat.le_of_ble_eq_true rfl, Nat.le_of_ble_eq_true rfl⟩) (Nat.le_of_ble_eq_true rfl) ⟨by dsimp only; omega, by dsimp only; omega⟩ dX11_withReading_132 (fun rt M9 hp9 => ?_)
          obtain ⟨rfl, rfl⟩ := hp9
          refine xr_aload C dX11_withReading_135 rfl ?_
          refine xr_callV0i C (c_ffsize l G _ _ _ _ _ _ _ _ M hfi) (cwV 0 C.1.2.2.2.2 gX11_withReading_X5_size rfl rfl rfl (by decide +kernel) ⟨Nat.le_of_ble_eq_true rfl, Nat.le_of_ble_eq_true rfl⟩) hfi.1 rfl (Nat.le_of_ble_eq_true rfl) ⟨by dsimp only; omega, by dsimp only; omega⟩ dX11_withReading_137 (fun r11 M9 hp9 => ?_)
          obtain ⟨rfl, rfl⟩ := hp9
          refine xr_i2l C dX11_withReading_140 ?_
          refine xr_callS2l C (c_then l G M _ _) (cwS 2 C.1.2.2.2.2 gX11_withReading_X11_then rfl rfl rfl (by decide +kernel) ⟨Nat.le_of_ble_eq_true rfl, Nat.le_of_ble_eq_true rfl⟩) (Nat.le_of_ble_eq_true rfl) ⟨by dsimp only; omega, by dsimp only; omega⟩ dX11_withReading_141 (fun rt M9 hp9 => ?_)
          obtain ⟨rfl, rfl⟩ := hp9
          refine xr_lstore_n C dX11_withReading_144 (by decide) rfl ?_
          refine xr_iinc C dX11_withReading_145 rfl (by decide) rfl ?_
          refine xr_goto C dX11_withReading_148 rfl ?_
          refine mq_drop 6 ?_
          have hs9 : dgR S ix n fc fk fp fg x0 (i + 1) = dgT (dgT (dgT (dgT (dgR S ix n fc fk fp fg x0 i) (dgZ (fk i))) (dgZ (fp i))) (dgO (fg i))) (dgZ (vsz (fg i) (fc i))) := rfl
          rw [hfx] at hs9
          refine mq_eqL (L2 := [some (.ref (La 0)), some (.long x0), none, some (.long (dgR S ix n fc fk fp fg x0 (i + 1))), none, some (.int (zI ((i + 1 : Nat) : Int))), none]) rfl (by rw [hs9]; rfl) rfl rfl ?_
          exact ih (i + 1) (by omega) (by omega)
  · refine xr_lload_n C dX11_withReading_10 rfl ?_
    refine xr_lconst C dX11_withReading_11 rfl ?_
    refine xr_callS2l C (c_then l G M _ _) (cwS 2 C.1.2.2.2.2 gX11_withReading_X11_then rfl rfl rfl (by decide +kernel) ⟨Nat.le_of_ble_eq_true rfl, Nat.le_of_ble_eq_true rfl⟩) (Nat.le_of_ble_eq_true rfl) ⟨by dsimp only; omega, by dsimp only; omega⟩ dX11_withReading_12 (fun rt M9 hp9 => ?_)
    obtain ⟨rfl, rfl⟩ := hp9
    cases op
    · skip
      exact xr_lret C hr hlk ⟨_, rfl, by unfold dgF; rfl, rfl⟩ (by omega) (by omega) dX11_withReading_15
    · exact absurd (show mq_b true = 0 by omega) (by decide)
