set_option maxHeartbeats 4000000 in
set_option maxRecDepth 100000 in
theorem c_goesPacked (l : Launch) (G : mq_G) (x b a b2 a2 key : Nat) (c pk : List Nat) (ck : Nat) (M : mq_M) (hV : dfI G M x b a b2 a2 key c pk ck) : mq_T l yX3_goesPacked wsX3_goesPacked { frames := 1, cells := 0, slots := 0, locals := 20 } G [.ref x] M (mq_ri M (if pk.length < c.length then 1 else 0)) 0 0 := by
  refine mq_Met.of (cc := cX3_goesPacked) (maxL := 1) (ret := (some .boolean)) (by decide) rfl (Nat.le_of_ble_eq_true rfl) rfl rfl ?_
  intro p_ e_ s_ m_ args_ below_ meth_ c_ z_ C hr hlk hname
  have hcl : c.length ≤ 240 := hV.2.1.2.2.1
  have hpl : pk.length ≤ 242 := hV.2.2.2.2.1
  refine xr_aload_n C dX3_goesPacked_0 rfl ?_
  refine xr_get C (Cn := RX3) (T := TX3) (N := 4) (by decide +kernel) hV.1 rfl 1 (by decide) (C.1.2.2.2.2 (.fieldLink RX3 20 "OssuaryVault$DeskFile" "packed" "LOssuaryVault$Bytes;") (by decide +kernel)) (fun _ h => h) rfl dX3_goesPacked_1 ?_
  refine xr_callV0i C (c_size l G b2 a2 242 pk M hV.2.2) (cwV 0 C.1.2.2.2.2 gX3_goesPacked_X0_size rfl rfl rfl (by decide +kernel) ⟨Nat.le_of_ble_eq_true rfl, Nat.le_of_ble_eq_true rfl⟩) hV.2.2.1 rfl (Nat.le_of_ble_eq_true rfl) ⟨by dsimp only; omega, by dsimp only; omega⟩ dX3_goesPacked_4 (fun r1 M9 hp9 => ?_)
  obtain ⟨rfl, rfl⟩ := hp9
  refine xr_aload_n C dX3_goesPacked_7 rfl ?_
  refine xr_get C (Cn := RX3) (T := TX3) (N := 4) (by decide +kernel) hV.1 rfl 0 (by decide) (C.1.2.2.2.2 (.fieldLink RX3 14 "OssuaryVault$DeskFile" "content" "LOssuaryVault$Bytes;") (by decide +kernel)) (fun _ h => h) rfl dX3_goesPacked_8 ?_
  refine xr_callV0i C (c_size l G b a 240 c M hV.2.1) (cwV 0 C.1.2.2.2.2 gX3_goesPacked_X0_size rfl rfl rfl (by decide +kernel) ⟨Nat.le_of_ble_eq_true rfl, Nat.le_of_ble_eq_true rfl⟩) hV.2.1.1 rfl (Nat.le_of_ble_eq_true rfl) ⟨by dsimp only; omega, by dsimp only; omega⟩ dX3_goesPacked_11 (fun r2 M9 hp9 => ?_)
  obtain ⟨rfl, rfl⟩ := hp9
  refine xr_icmp_ge C dX3_goesPacked_14 rfl (by first | omega | (dsimp only; omega)) (by first | omega | (dsimp only; omega)) (fun hq3 => ?_) (fun hq3 => ?_)
  · refine xr_iconst (n := 0) C dX3_goesPacked_21 (by decide +kernel) ?_
    exact xr_zret C hr (by decide +kernel) hlk ⟨_, rfl, by rw [if_neg (by omega)], rfl⟩ (by omega) (by omega) dX3_goesPacked_22
  · refine xr_iconst (n := 1) C dX3_goesPacked_17 (by decide +kernel) ?_
    refine xr_goto C dX3_goesPacked_18 rfl ?_
    exact xr_zret C hr (by decide +kernel) hlk ⟨_, rfl, by rw [if_pos (by omega)], rfl⟩ (by omega) (by omega) dX3_goesPacked_22
set_option maxHeartbeats 4000000 in
set_option maxRecDepth 100000 in
theorem c_fstreamSize (l : Launch) (G : mq_G) (x b a b2 a2 key : Nat) (c pk : List Nat) (ck : Nat) (M : mq_M) (hV : dfI G M x b a b2 a2 key c pk ck) : mq_T l yX3_streamSize wsX3_streamSize { frames := 2, cells := 0, slots := 0, locals := 40 } G [.ref x] M (mq_ri M (8 + ((dfB c pk).length : Int))) 0 0 := by
  refine mq_Met.of (cc := cX3_streamSize) (maxL := 1) (ret := (some .int)) (by decide) rfl (Nat.le_of_ble_eq_true rfl) rfl rfl ?_
  intro p_ e_ s_ m_ args_ below_ meth_ c_ z_ C hr hlk hname
  have hcl : c.length ≤ 240 := hV.2.1.2.2.1
  have hpl : pk.length ≤ 242 := hV.2.2.2.2.1
  refine xr_bipush (n := 8) C dX3_streamSize_0 (by decide +kernel) ?_
  refine xr_aload_n C dX3_streamSize_2 rfl ?_
  refine xr_callV0i C (c_goesPacked l G x b a b2 a2 key c pk ck M hV) (cwV 0 C.1.2.2.2.2 gX3_streamSize_X3_goesPacked rfl rfl rfl (by decide +kernel) ⟨Nat.le_of_ble_eq_true rfl, Nat.le_of_ble_eq_true rfl⟩) hV.1 rfl (Nat.le_of_ble_eq_true rfl) ⟨by dsimp only; omega, by dsimp only; omega⟩ dX3_streamSize_3 (fun r1 M9 hp9 => ?_)
  obtain ⟨rfl, rfl⟩ := hp9
  by_cases hc : pk.length < c.length
  · rw [if_pos hc]
    refine xr_if_eq C dX3_streamSize_6 rfl (by decide) (fun hq => absurd hq (by decide)) (fun _ => ?_)
    refine xr_aload_n C dX3_streamSize_9 rfl ?_
    refine xr_get C (Cn := RX3) (T := TX3) (N := 4) (by decide +kernel) hV.1 rfl 1 (by decide) (C.1.2.2.2.2 (.fieldLink RX3 20 "OssuaryVault$DeskFile" "packed" "LOssuaryVault$Bytes;") (by decide +kernel)) (fun _ h => h) rfl dX3_streamSize_10 ?_
    refine xr_callV0i C (c_size l G b2 a2 242 pk M hV.2.2) (cwV 0 C.1.2.2.2.2 gX3_streamSize_X0_size rfl rfl rfl (by decide +kernel) ⟨Nat.le_of_ble_eq_true rfl, Nat.le_of_ble_eq_true rfl⟩) hV.2.2.1 rfl (Nat.le_of_ble_eq_true rfl) ⟨by dsimp only; omega, by dsimp only; omega⟩ dX3_streamSize_13 (fun r2 M9 hp9 => ?_)
    obtain ⟨rfl, rfl⟩ := hp9
    refine xr_goto C dX3_streamSize_16 rfl ?_
    refine xr_iadd C dX3_streamSize_26 ?_
    exact xr_iret C hr hlk ⟨_, rfl, by unfold dfB; rw [if_pos hc], rfl⟩ (by omega) (by omega) dX3_streamSize_27
  · rw [if_neg hc]
    refine xr_if_eq C dX3_streamSize_6 rfl (by decide) (fun _ => ?_) (fun hq => absurd hq (by decide))
    refine xr_aload_n C dX3_streamSize_19 rfl ?_
    refine xr_get C (Cn := RX3) (T := TX3) (N := 4) (by decide +kernel) hV.1 rfl 0 (by decide) (C.1.2.2.2.2 (.fieldLink RX3 14 "OssuaryVault$DeskFile" "content" "LOssuaryVault$Bytes;") (by decide +kernel)) (fun _ h => h) rfl dX3_streamSize_20 ?_
    refine xr_callV0i C (c_size l G b a 240 c M hV.2.1) (cwV 0 C.1.2.2.2.2 gX3_streamSize_X0_size rfl rfl rfl (by decide +kernel) ⟨Nat.le_of_ble_eq_true rfl, Nat.le_of_ble_eq_true rfl⟩) hV.2.1.1 rfl (Nat.le_of_ble_eq_true rfl) ⟨by dsimp only; omega, by dsimp only; omega⟩ dX3_streamSize_23 (fun r3 M9 hp9 => ?_)
    obtain ⟨rfl, rfl⟩ := hp9
    refine xr_iadd C dX3_streamSize_26 ?_
    exact xr_iret C hr hlk ⟨_, rfl, by unfold dfB; rw [if_neg hc], rfl⟩ (by omega) (by omega) dX3_streamSize_27
set_option maxHeartbeats 4000000 in
set_option maxRecDepth 100000 in
theorem c_writeTo (l : Launch) (G : mq_G) (x b a b2 a2 key : Nat) (c pk : List Nat) (ck : Nat) (M : mq_M) (hV : dfI G M x b a b2 a2 key c pk ck) (hkey : key < 65536) (hck : ck < 65536) (b3 a3 n3 : Nat) (d3 : List Nat) (hB3 : bI G M b3 a3 n3 d3) (hN : [x, b, a, b2, a2, b3, a3].Nodup) (hroom : d3.length + 8 + (dfB c pk).length ≤ n3) : mq_T l yX3_writeTo wsX3_writeTo { frames := 2, cells := 0, slots := 0, locals := 45 } G [.ref x, .ref b3] M (mq_pv (fun M2 => bI G M2 b3 a3 n3 (d3 ++ dfW key c pk ck) ∧ mq_F [b3, a3] M M2)) 0 0 := by
  refine mq_Met.of (cc := cX3_writeTo) (maxL := 3) (ret := none) (by decide) rfl (Nat.le_of_ble_eq_true rfl) rfl rfl ?_
  intro p_ e_ s_ m_ args_ below_ meth_ c_ z_ C hr hlk hname
  have hcl : c.length ≤ 240 := hV.2.1.2.2.1
  have hpl : pk.length ≤ 242 := hV.2.2.2.2.1
  have n_x_b3 : x ≠ b3 := mq_nd hN 0 5 rfl
  have n_x_a3 : x ≠ a3 := mq_nd hN 0 6 rfl
  have n_b_b3 : b ≠ b3 := mq_nd hN 1 5 rfl
  have n_b_a3 : b ≠ a3 := mq_nd hN 1 6 rfl
  have n_a_b3 : a ≠ b3 := mq_nd hN 2 5 rfl
  have n_a_a3 : a ≠ a3 := mq_nd hN 2 6 rfl
  have n_b2_b3 : b2 ≠ b3 := mq_nd hN 3 5 rfl
  have n_b2_a3 : b2 ≠ a3 := mq_nd hN 3 6 rfl
  have n_a2_b3 : a2 ≠ b3 := mq_nd hN 4 5 rfl
  have n_a2_a3 : a2 ≠ a3 := mq_nd hN 4 6 rfl
  have hbl := dfB_len c pk
  refine xr_aload_n C dX3_writeTo_0 rfl ?_
  refine xr_callV0i C (c_goesPacked l G x b a b2 a2 key c pk ck M hV) (cwV 0 C.1.2.2.2.2 gX3_writeTo_X3_goesPacked rfl rfl rfl (by decide +kernel) ⟨Nat.le_of_ble_eq_true rfl, Nat.le_of_ble_eq_true rfl⟩) hV.1 rfl (Nat.le_of_ble_eq_true rfl) ⟨by dsimp only; omega, by dsimp only; omega⟩ dX3_writeTo_1 (fun r1 M9 hp9 => ?_)
  obtain ⟨rfl, rfl⟩ := hp9
  by_cases hc : pk.length < c.length
  · rw [if_pos hc]
    refine xr_if_eq C dX3_writeTo_4 rfl (by decide) (fun hq => absurd hq (by decide)) (fun _ => ?_)
    have hdb : dfB c pk = pk := by unfold dfB; rw [if_pos hc]
    rw [hdb] at hroom hbl
    refine xr_aload_n C dX3_writeTo_7 rfl ?_
    refine xr_get C (Cn := RX3) (T := TX3) (N := 4) (by decide +kernel) hV.1 rfl 1 (by decide) (C.1.2.2.2.2 (.fieldLink RX3 20 "OssuaryVault$DeskFile" "packed" "LOssuaryVault$Bytes;") (by decide +kernel)) (fun _ h => h) rfl dX3_writeTo_8 ?_
    refine xr_goto C dX3_writeTo_11 rfl ?_
    refine xr_astore_n C dX3_writeTo_18 (by decide) rfl ?_
    refine xr_aload_n C dX3_writeTo_19 rfl ?_
    refine xr_bipush (n := 69) C dX3_writeTo_20 (by decide +kernel) ?_
    refine xr_callV1v C (c_add l G b3 a3 n3 d3 M hB3 69 (by decide) (by omega)) (cwV 1 C.1.2.2.2.2 gX3_writeTo_X0_add rfl rfl rfl (by decide +kernel) ⟨Nat.le_of_ble_eq_true rfl, Nat.le_of_ble_eq_true rfl⟩) hB3.1 rfl (Nat.le_of_ble_eq_true rfl) ⟨by dsimp only; omega, by dsimp only; omega⟩ dX3_writeTo_22 (fun M1 hp1 => ?_)
    obtain ⟨hB4, hF1⟩ := hp1
    have hVM1 : dfI G M1 x b a b2 a2 key c pk ck := hV.fr hF1 (by simp [n_x_b3, n_x_a3]) (by simp [n_b_b3, n_b_a3]) (by simp [n_a_b3, n_a_a3]) (by simp [n_b2_b3, n_b2_a3]) (by simp [n_a2_b3, n_a2_a3])
    refine xr_aload_n C dX3_writeTo_25 rfl ?_
    refine xr_aload_n C dX3_writeTo_26 rfl ?_
    refine xr_callV0i C (c_goesPacked l G x b a b2 a2 key c pk ck M1 hVM1) (cwV 0 C.1.2.2.2.2 gX3_writeTo_X3_goesPacked rfl rfl rfl (by decide +kernel) ⟨Nat.le_of_ble_eq_true rfl, Nat.le_of_ble_eq_true rfl⟩) hVM1.1 rfl (Nat.le_of_ble_eq_true rfl) ⟨by dsimp only; omega, by dsimp only; omega⟩ dX3_writeTo_27 (fun r2 M9 hp9 => ?_)
    obtain ⟨rfl, rfl⟩ := hp9
    rw [if_pos hc]
    refine xr_if_eq C dX3_writeTo_30 rfl (by decide) (fun hq => absurd hq (by decide)) (fun _ => ?_)
    refine xr_iconst (n := 1) C dX3_writeTo_33 (by decide +kernel) ?_
    refine xr_goto C dX3_writeTo_34 rfl ?_
    refine xr_callV1v C (c_add l G b3 a3 n3 _ M1 hB4 1 (by decide) (by simp; omega)) (cwV 1 C.1.2.2.2.2 gX3_writeTo_X0_add rfl rfl rfl (by decide +kernel) ⟨Nat.le_of_ble_eq_true rfl, Nat.le_of_ble_eq_true rfl⟩) hB4.1 rfl (Nat.le_of_ble_eq_true rfl) ⟨by dsimp only; omega, by dsimp only; omega⟩ dX3_writeTo_38 (fun M2 hp2 => ?_)
    obtain ⟨hB5, hF2⟩ := hp2
    have hVM2 : dfI G M2 x b a b2 a2 key c pk ck := hVM1.fr hF2 (by simp [n_x_b3, n_x_a3]) (by simp [n_b_b3, n_b_a3]) (by simp [n_a_b3, n_a_a3]) (by simp [n_b2_b3, n_b2_a3]) (by simp [n_a2_b3, n_a2_a3])
    refine xr_aload_n C dX3_writeTo_41 rfl ?_
    refine xr_aload_n C dX3_writeTo_42 rfl ?_
    refine xr_get C (Cn := RX3) (T := TX3) (N := 4) (by decide +kernel) hVM2.1 rfl 2 (by decide) (C.1.2.2.2.2 (.fieldLink RX3 23 "OssuaryVault$DeskFile" "key" "I") (by decide +kernel)) (fun _ h => h) rfl dX3_writeTo_43 ?_
    refine xr_callV1v C (c_addWord l G b3 a3 n3 _ M2 hB5 key hkey (by simp; omega)) (cwV 1 C.1.2.2.2.2 gX3_writeTo_X0_addWord rfl rfl rfl (by decide +kernel) ⟨Nat.le_of_ble_eq_true rfl, Nat.le_of_ble_eq_true rfl⟩) hB5.1 rfl (Nat.le_of_ble_eq_true rfl) ⟨by dsimp only; omega, by dsimp only; omega⟩ dX3_writeTo_46 (fun M3 hp3 => ?_)
    obtain ⟨hB6, hF3⟩ := hp3
    have hVM3 : dfI G M3 x b a b2 a2 key c pk ck := hVM2.fr hF3 (by simp [n_x_b3, n_x_a3]) (by simp [n_b_b3, n_b_a3]) (by simp [n_a_b3, n_a_a3]) (by simp [n_b2_b3, n_b2_a3]) (by simp [n_a2_b3, n_a2_a3])
    refine xr_aload_n C dX3_writeTo_49 rfl ?_
    refine xr_aload_n C dX3_writeTo_50 rfl ?_
    refine xr_callV0i C (c_size l G b2 a2 242 pk M3 hVM3.2.2) (cwV 0 C.1.2.2.2.2 gX3_writeTo_X0_size rfl rfl rfl (by decide +kernel) ⟨Nat.le_of_ble_eq_true rfl, Nat.le_of_ble_eq_true rfl⟩) hVM3.2.2.1 rfl (Nat.le_of_ble_eq_true rfl) ⟨by dsimp only; omega, by dsimp only; omega⟩ dX3_writeTo_51 (fun r3 M9 hp9 => ?_)
    obtain ⟨rfl, rfl⟩ := hp9
    refine xr_callV1v C (c_addWord l G b3 a3 n3 _ M3 hB6 pk.length (by omega) (by simp; omega)) (cwV 1 C.1.2.2.2.2 gX3_writeTo_X0_addWord rfl rfl rfl (by decide +kernel) ⟨Nat.le_of_ble_eq_true rfl, Nat.le_of_ble_eq_true rfl⟩) hB6.1 rfl (Nat.le_of_ble_eq_true rfl) ⟨by dsimp only; omega, by dsimp only; omega⟩ dX3_writeTo_54 (fun M4 hp4 => ?_)
    obtain ⟨hB7, hF4⟩ := hp4
    have hVM4 : dfI G M4 x b a b2 a2 key c pk ck := hVM3.fr hF4 (by simp [n_x_b3, n_x_a3]) (by simp [n_b_b3, n_b_a3]) (by simp [n_a_b3, n_a_a3]) (by simp [n_b2_b3, n_b2_a3]) (by simp [n_a2_b3, n_a2_a3])
    refine xr_aload_n C dX3_writeTo_57 rfl ?_
    refine xr_aload_n C dX3_writeTo_58 rfl ?_
    refine xr_get C (Cn := RX3) (T := TX3) (N := 4) (by decide +kernel) hVM4.1 rfl 3 (by decide) (C.1.2.2.2.2 (.fieldLink RX3 41 "OssuaryVault$DeskFile" "contentCheck" "I") (by decide +kernel)) (fun _ h => h) rfl dX3_writeTo_59 ?_
    refine xr_callV1v C (c_addWord l G b3 a3 n3 _ M4 hB7 ck hck (by simp; omega)) (cwV 1 C.1.2.2.2.2 gX3_writeTo_X0_addWord rfl rfl rfl (by decide +kernel) ⟨Nat.le_of_ble_eq_true rfl, Nat.le_of_ble_eq_true rfl⟩) hB7.1 rfl (Nat.le_of_ble_eq_true rfl) ⟨by dsimp only; omega, by dsimp only; omega⟩ dX3_writeTo_62 (fun M5 hp5 => ?_)
    obtain ⟨hB8, hF5⟩ := hp5
    have hVM5 : dfI G M5 x b a b2 a2 key c pk ck := hVM4.fr hF5 (by simp [n_x_b3, n_x_a3]) (by simp [n_b_b3, n_b_a3]) (by simp [n_a_b3, n_a_a3]) (by simp [n_b2_b3, n_b2_a3]) (by simp [n_a2_b3, n_a2_a3])
    refine xr_aload_n C dX3_writeTo_65 rfl ?_
    refine xr_aload_n C dX3_writeTo_66 rfl ?_
    refine xr_iconst (n := 0) C dX3_writeTo_67 (by decide +kernel) ?_
    refine xr_aload_n C dX3_writeTo_68 rfl ?_
    refine xr_callV0i C (c_size l G b2 a2 242 pk M5 hVM5.2.2) (cwV 0 C.1.2.2.2.2 gX3_writeTo_X0_size rfl rfl rfl (by decide +kernel) ⟨Nat.le_of_ble_eq_true rfl, Nat.le_of_ble_eq_true rfl⟩) hVM5.2.2.1 rfl (Nat.le_of_ble_eq_true rfl) ⟨by dsimp only; omega, by dsimp only; omega⟩ dX3_writeTo_69 (fun r4 M9 hp9 => ?_)
    obtain ⟨rfl, rfl⟩ := hp9
    refine xr_callV3v C (c_addPart l G b3 a3 n3 _ M5 hB8 b2 a2 242 pk hVM5.2.2 ⟨n_b2_b3, n_b2_a3, n_a2_b3, n_a2_a3⟩ 0 pk.length (by decide) (by simp; omega)) (cwV 3 C.1.2.2.2.2 gX3_writeTo_X0_addPart rfl rfl rfl (by decide +kernel) ⟨Nat.le_of_ble_eq_true rfl, Nat.le_of_ble_eq_true rfl⟩) hB8.1 rfl (Nat.le_of_ble_eq_true rfl) ⟨by dsimp only; omega, by dsimp only; omega⟩ dX3_writeTo_72 (fun M6 hp6 => ?_)
    obtain ⟨hB9, hF6⟩ := hp6
    exact xr_vret C hr hlk ⟨rfl, by rw [mq_part_all] at hB9; unfold dfW; rw [hdb, if_pos hc]; simpa using hB9, ((((hF1.tr hF2).tr hF3).tr hF4).tr hF5).tr hF6⟩ (by omega) (by omega) dX3_writeTo_75
  · rw [if_neg hc]
    refine xr_if_eq C dX3_writeTo_4 rfl (by decide) (fun _ => ?_) (fun hq => absurd hq (by decide))
    have hdb : dfB c pk = c := by unfold dfB; rw [if_neg hc]
    rw [hdb] at hroom hbl
    refine xr_aload_n C dX3_writeTo_14 rfl ?_
    refine xr_get C (Cn := RX3) (T := TX3) (N := 4) (by decide +kernel) hV.1 rfl 0 (by decide) (C.1.2.2.2.2 (.fieldLink RX3 14 "OssuaryVault$DeskFile" "content" "LOssuaryVault$Bytes;") (by decide +kernel)) (fun _ h => h) rfl dX3_writeTo_15 ?_
    refine xr_astore_n C dX3_writeTo_18 (by decide) rfl ?_
    refine xr_aload_n C dX3_writeTo_19 rfl ?_
    refine xr_bipush (n := 69) C dX3_writeTo_20 (by decide +kernel) ?_
    refine xr_callV1v C (c_add l G b3 a3 n3 d3 M hB3 69 (by decide) (by omega)) (cwV 1 C.1.2.2.2.2 gX3_writeTo_X0_add rfl rfl rfl (by decide +kernel) ⟨Nat.le_of_ble_eq_true rfl, Nat.le_of_ble_eq_true rfl⟩) hB3.1 rfl (Nat.le_of_ble_eq_true rfl) ⟨by dsimp only; omega, by dsimp only; omega⟩ dX3_writeTo_22 (fun M1 hp1 => ?_)
    obtain ⟨hB4, hF1⟩ := hp1
    have hVM1 : dfI G M1 x b a b2 a2 key c pk ck := hV.fr hF1 (by simp [n_x_b3, n_x_a3]) (by simp [n_b_b3, n_b_a3]) (by simp [n_a_b3, n_a_a3]) (by simp [n_b2_b3, n_b2_a3]) (by simp [n_a2_b3, n_a2_a3])
    refine xr_aload_n C dX3_writeTo_25 rfl ?_
    refine xr_aload_n C dX3_writeTo_26 rfl ?_
    refine xr_callV0i C (c_goesPacked l G x b a b2 a2 key c pk ck M1 hVM1) (cwV 0 C.1.2.2.2.2 gX3_writeTo_X3_goesPacked rfl rfl rfl (by decide +kernel) ⟨Nat.le_of_ble_eq_true rfl, Nat.le_of_ble_eq_true rfl⟩) hVM1.1 rfl (Nat.le_of_ble_eq_true rfl) ⟨by dsimp only; omega, by dsimp only; omega⟩ dX3_writeTo_27 (fun r5 M9 hp9 => ?_)
    obtain ⟨rfl, rfl⟩ := hp9
    rw [if_neg hc]
    refine xr_if_eq C dX3_writeTo_30 rfl (by decide) (fun _ => ?_) (fun hq => absurd hq (by decide))
    refine xr_iconst (n := 0) C dX3_writeTo_37 (by decide +kernel) ?_
    refine xr_callV1v C (c_add l G b3 a3 n3 _ M1 hB4 0 (by decide) (by simp; omega)) (cwV 1 C.1.2.2.2.2 gX3_writeTo_X0_add rfl rfl rfl (by decide +kernel) ⟨Nat.le_of_ble_eq_true rfl, Nat.le_of_ble_eq_true rfl⟩) hB4.1 rfl (Nat.le_of_ble_eq_true rfl) ⟨by dsimp only; omega, by dsimp only; omega⟩ dX3_writeTo_38 (fun M2 hp2 => ?_)
    obtain ⟨hB5, hF2⟩ := hp2
    have hVM2 : dfI G M2 x b a b2 a2 key c pk ck := hVM1.fr hF2 (by simp [n_x_b3, n_x_a3]) (by simp [n_b_b3, n_b_a3]) (by simp [n_a_b3, n_a_a3]) (by simp [n_b2_b3, n_b2_a3]) (by simp [n_a2_b3, n_a2_a3])
    refine xr_aload_n C dX3_writeTo_41 rfl ?_
    refine xr_aload_n C dX3_writeTo_42 rfl ?_
    refine xr_get C (Cn := RX3) (T := TX3) (N := 4) (by decide +kernel) hVM2.1 rfl 2 (by decide) (C.1.2.2.2.2 (.fieldLink RX3 23 "OssuaryVault$DeskFile" "key" "I") (by decide +kernel)) (fun _ h => h) rfl dX3_writeTo_43 ?_
    refine xr_callV1v C (c_addWord l G b3 a3 n3 _ M2 hB5 key hkey (by simp; omega)) (cwV 1 C.1.2.2.2.2 gX3_writeTo_X0_addWord rfl rfl rfl (by decide +kernel) ⟨Nat.le_of_ble_eq_true rfl, Nat.le_of_ble_eq_true rfl⟩) hB5.1 rfl (Nat.le_of_ble_eq_true rfl) ⟨by dsimp only; omega, by dsimp only; omega⟩ dX3_writeTo_46 (fun M3 hp3 => ?_)
    obtain ⟨hB6, hF3⟩ := hp3
    have hVM3 : dfI G M3 x b a b2 a2 key c pk ck := hVM2.fr hF3 (by simp [n_x_b3, n_x_a3]) (by simp [n_b_b3, n_b_a3]) (by simp [n_a_b3, n_a_a3]) (by simp [n_b2_b3, n_b2_a3]) (by simp [n_a2_b3, n_a2_a3])
    refine xr_aload_n C dX3_writeTo_49 rfl ?_
    refine xr_aload_n C dX3_writeTo_50 rfl ?_
    refine xr_callV0i C (c_size l G b a 240 c M3 hVM3.2.1) (cwV 0 C.1.2.2.2.2 gX3_writeTo_X0_size rfl rfl rfl (by decide +kernel) ⟨Nat.le_of_ble_eq_true rfl, Nat.le_of_ble_eq_true rfl⟩) hVM3.2.1.1 rfl (Nat.le_of_ble_eq_true rfl) ⟨by dsimp only; omega, by dsimp only; omega⟩ dX3_writeTo_51 (fun r6 M9 hp9 => ?_)
    obtain ⟨rfl, rfl⟩ := hp9
    refine xr_callV1v C (c_addWord l G b3 a3 n3 _ M3 hB6 c.length (by omega) (by simp; omega)) (cwV 1 C.1.2.2.2.2 gX3_writeTo_X0_addWord rfl rfl rfl (by decide +kernel) ⟨Nat.le_of_ble_eq_true rfl, Nat.le_of_ble_eq_true rfl⟩) hB6.1 rfl (Nat.le_of_ble_eq_true rfl) ⟨by dsimp only; omega, by dsimp only; omega⟩ dX3_writeTo_54 (fun M4 hp4 => ?_)
    obtain ⟨hB7, hF4⟩ := hp4
    have hVM4 : dfI G M4 x b a b2 a2 key c pk ck := hVM3.fr hF4 (by simp [n_x_b3, n_x_a3]) (by simp [n_b_b3, n_b_a3]) (by simp [n_a_b3, n_a_a3]) (by simp [n_b2_b3, n_b2_a3]) (by simp [n_a2_b3, n_a2_a3])
    refine xr_aload_n C dX3_writeTo_57 rfl ?_
    refine xr_aload_n C dX3_writeTo_58 rfl ?_
    refine xr_get C (Cn := RX3) (T := TX3) (N := 4) (by decide +kernel) hVM4.1 rfl 3 (by decide) (C.1.2.2.2.2 (.fieldLink RX3 41 "OssuaryVault$DeskFile" "contentCheck" "I") (by decide +kernel)) (fun _ h => h) rfl dX3_writeTo_59 ?_
    refine xr_callV1v C (c_addWord l G b3 a3 n3 _ M4 hB7 ck hck (by simp; omega)) (cwV 1 C.1.2.2.2.2 gX3_writeTo_X0_addWord rfl rfl rfl (by decide +kernel) ⟨Nat.le_of_ble_eq_true rfl, Nat.le_of_ble_eq_true rfl⟩) hB7.1 rfl (Nat.le_of_ble_eq_true rfl) ⟨by dsimp only; omega, by dsimp only; omega⟩ dX3_writeTo_62 (fun M5 hp5 => ?_)
    obtain ⟨hB8, hF5⟩ := hp5
    have hVM5 : dfI G M5 x b a b2 a2 key c pk ck := hVM4.fr hF5 (by simp [n_x_b3, n_x_a3]) (by simp [n_b_b3, n_b_a3]) (by simp [n_a_b3, n_a_a3]) (by simp [n_b2_b3, n_b2_a3]) (by simp [n_a2_b3, n_a2_a3])
    refine xr_aload_n C dX3_writeTo_65 rfl ?_
    refine xr_aload_n C dX3_writeTo_66 rfl ?_
    refine xr_iconst (n := 0) C dX3_writeTo_67 (by decide +kernel) ?_
    refine xr_aload_n C dX3_writeTo_68 rfl ?_
    refine xr_callV0i C (c_size l G b a 240 c M5 hVM5.2.1) (cwV 0 C.1.2.2.2.2 gX3_writeTo_X0_size rfl rfl rfl (by decide +kernel) ⟨Nat.le_of_ble_eq_true rfl, Nat.le_of_ble_eq_true rfl⟩) hVM5.2.1.1 rfl (Nat.le_of_ble_eq_true rfl) ⟨by dsimp only; omega, by dsimp only; omega⟩ dX3_writeTo_69 (fun r7 M9 hp9 => ?_)
    obtain ⟨rfl, rfl⟩ := hp9
    refine xr_callV3v C (c_addPart l G b3 a3 n3 _ M5 hB8 b a 240 c hVM5.2.1 ⟨n_b_b3, n_b_a3, n_a_b3, n_a_a3⟩ 0 c.length (by decide) (by simp; omega)) (cwV 3 C.1.2.2.2.2 gX3_writeTo_X0_addPart rfl rfl rfl (by decide +kernel) ⟨Nat.le_of_ble_eq_true rfl, Nat.le_of_ble_eq_true rfl⟩) hB8.1 rfl (Nat.le_of_ble_eq_true rfl) ⟨by dsimp only; omega, by dsimp only; omega⟩ dX3_writeTo_72 (fun M6 hp6 => ?_)
    obtain ⟨hB9, hF6⟩ := hp6
    exact xr_vret C hr hlk ⟨rfl, by rw [mq_part_all] at hB9; unfold dfW; rw [hdb, if_neg hc]; simpa using hB9, ((((hF1.tr hF2).tr hF3).tr hF4).tr hF5).tr hF6⟩ (by omega) (by omega) dX3_writeTo_75
set_option maxHeartbeats 4000000 in
set_option maxRecDepth 100000 in
theorem c_fill (l : Launch) (G : mq_G) (x b a b2 a2 key : Nat) (c pk : List Nat) (ck : Nat) (M : mq_M) (hV : dfI G M x b a b2 a2 key c pk ck) (b3 a3 n3 : Nat) (d3 : List Nat) (hB3 : bI G M b3 a3 n3 d3) (ch ca : Nat) (hC : ckI G M ch ca) (hN : [x, b, a, b2, a2, b3, a3, ch, ca].Nodup) (k2 : Nat) (hk2 : k2 < 65536) (hd3 : d3.length ≤ 240) : mq_T l yX3_fill wsX3_fill { frames := 4, cells := 0, slots := 0, locals := 89 } G [.ref x, .int (zI (k2 : Int)), .ref b3, .ref ch] M (mq_pv (fun M2 => (∃ pk2, dfI G M2 x b a b2 a2 k2 d3 pk2 (crF 65535 d3)) ∧ mq_F [x, b, a, b2, a2] M M2)) 0 0 := by
  refine mq_Met.of (cc := cX3_fill) (maxL := 4) (ret := none) (by decide) rfl (Nat.le_of_ble_eq_true rfl) rfl rfl ?_
  intro p_ e_ s_ m_ args_ below_ meth_ c_ z_ C hr hlk hname
  have n_x_b : x ≠ b := mq_nd hN 0 1 rfl
  have n_x_a : x ≠ a := mq_nd hN 0 2 rfl
  have n_x_b2 : x ≠ b2 := mq_nd hN 0 3 rfl
  have n_x_a2 : x ≠ a2 := mq_nd hN 0 4 rfl
  have n_x_b3 : x ≠ b3 := mq_nd hN 0 5 rfl
  have n_x_a3 : x ≠ a3 := mq_nd hN 0 6 rfl
  have n_x_ch : x ≠ ch := mq_nd hN 0 7 rfl
  have n_x_ca : x ≠ ca := mq_nd hN 0 8 rfl
  have n_b_x : b ≠ x := mq_nd hN 1 0 rfl
  have n_b_a : b ≠ a := mq_nd hN 1 2 rfl
  have n_b_b2 : b ≠ b2 := mq_nd hN 1 3 rfl
  have n_b_a2 : b ≠ a2 := mq_nd hN 1 4 rfl
  have n_b_b3 : b ≠ b3 := mq_nd hN 1 5 rfl
  have n_b_a3 : b ≠ a3 := mq_nd hN 1 6 rfl
  have n_b_ch : b ≠ ch := mq_nd hN 1 7 rfl
  have n_b_ca : b ≠ ca := mq_nd hN 1 8 rfl
  have n_a_x : a ≠ x := mq_nd hN 2 0 rfl
  have n_a_b : a ≠ b := mq_nd hN 2 1 rfl
  have n_a_b2 : a ≠ b2 := mq_nd hN 2 3 rfl
  have n_a_a2 : a ≠ a2 := mq_nd hN 2 4 rfl
  have n_a_b3 : a ≠ b3 := mq_nd hN 2 5 rfl
  have n_a_a3 : a ≠ a3 := mq_nd hN 2 6 rfl
  have n_a_ch : a ≠ ch := mq_nd hN 2 7 rfl
  have n_a_ca : a ≠ ca := mq_nd hN 2 8 rfl
  have n_b2_x : b2 ≠ x := mq_nd hN 3 0 rfl
  have n_b2_b : b2 ≠ b := mq_nd hN 3 1 rfl
  have n_b2_a : b2 ≠ a := mq_nd hN 3 2 rfl
  have n_b2_a2 : b2 ≠ a2 := mq_nd hN 3 4 rfl
  have n_b2_b3 : b2 ≠ b3 := mq_nd hN 3 5 rfl
  have n_b2_a3 : b2 ≠ a3 := mq_nd hN 3 6 rfl
  have n_b2_ch : b2 ≠ ch := mq_nd hN 3 7 rfl
  have n_b2_ca : b2 ≠ ca := mq_nd hN 3 8 rfl
  have n_a2_x : a2 ≠ x := mq_nd hN 4 0 rfl
  have n_a2_b : a2 ≠ b := mq_nd hN 4 1 rfl
  have n_a2_a : a2 ≠ a := mq_nd hN 4 2 rfl
  have n_a2_b2 : a2 ≠ b2 := mq_nd hN 4 3 rfl
  have n_a2_b3 : a2 ≠ b3 := mq_nd hN 4 5 rfl
  have n_a2_a3 : a2 ≠ a3 := mq_nd hN 4 6 rfl
  have n_a2_ch : a2 ≠ ch := mq_nd hN 4 7 rfl
  have n_a2_ca : a2 ≠ ca := mq_nd hN 4 8 rfl
  have n_b3_x : b3 ≠ x := mq_nd hN 5 0 rfl
  have n_b3_b : b3 ≠ b := mq_nd hN 5 1 rfl
  have n_b3_a : b3 ≠ a := mq_nd hN 5 2 rfl
  have n_b3_b2 : b3 ≠ b2 := mq_nd hN 5 3 rfl
  have n_b3_a2 : b3 ≠ a2 := mq_nd hN 5 4 rfl
  have n_b3_a3 : b3 ≠ a3 := mq_nd hN 5 6 rfl
  have n_b3_ch : b3 ≠ ch := mq_nd hN 5 7 rfl
  have n_b3_ca : b3 ≠ ca := mq_nd hN 5 8 rfl
  have n_a3_x : a3 ≠ x := mq_nd hN 6 0 rfl
  have n_a3_b : a3 ≠ b := mq_nd hN 6 1 rfl
  have n_a3_a : a3 ≠ a := mq_nd hN 6 2 rfl
  have n_a3_b2 : a3 ≠ b2 := mq_nd hN 6 3 rfl
  have n_a3_a2 : a3 ≠ a2 := mq_nd hN 6 4 rfl
  have n_a3_b3 : a3 ≠ b3 := mq_nd hN 6 5 rfl
  have n_a3_ch : a3 ≠ ch := mq_nd hN 6 7 rfl
  have n_a3_ca : a3 ≠ ca := mq_nd hN 6 8 rfl
  have n_ch_x : ch ≠ x := mq_nd hN 7 0 rfl
  have n_ch_b : ch ≠ b := mq_nd hN 7 1 rfl
  have n_ch_a : ch ≠ a := mq_nd hN 7 2 rfl
  have n_ch_b2 : ch ≠ b2 := mq_nd hN 7 3 rfl
  have n_ch_a2 : ch ≠ a2 := mq_nd hN 7 4 rfl
  have n_ch_b3 : ch ≠ b3 := mq_nd hN 7 5 rfl
  have n_ch_a3 : ch ≠ a3 := mq_nd hN 7 6 rfl
  have n_ch_ca : ch ≠ ca := mq_nd hN 7 8 rfl
  have n_ca_x : ca ≠ x := mq_nd hN 8 0 rfl
  have n_ca_b : ca ≠ b := mq_nd hN 8 1 rfl
  have n_ca_a : ca ≠ a := mq_nd hN 8 2 rfl
  have n_ca_b2 : ca ≠ b2 := mq_nd hN 8 3 rfl
  have n_ca_a2 : ca ≠ a2 := mq_nd hN 8 4 rfl
  have n_ca_b3 : ca ≠ b3 := mq_nd hN 8 5 rfl
  have n_ca_a3 : ca ≠ a3 := mq_nd hN 8 6 rfl
  have n_ca_ch : ca ≠ ch := mq_nd hN 8 7 rfl
  refine xr_aload_n C dX3_fill_0 rfl ?_
  refine xr_iload_n C dX3_fill_1 rfl ?_
  refine xr_put C (Cn := RX3) (T := TX3) (N := 4) (by decide +kernel) hV.1 rfl 2 (by decide) tyX3 tyX3_ok nmX3 (C.1.2.2.2.2 (.fieldLink RX3 23 "OssuaryVault$DeskFile" "key" "I") (by decide +kernel)) (fun _ h => h) rfl (tyX3_ok 2 (by decide)) rfl rfl (Nat.le_of_ble_eq_true rfl) dX3_fill_2 ?_
  refine mq_ren (fun M1 hM1 => ?_)
  have hF1 : mq_F [x] M M1 := mq_F.up hM1 (by simp)
  have hx1 : M1 x = some (.inr (3, [.ref b, .ref b2, .int (zI (k2 : Int)), .int (zI (ck : Int))])) := by rw [hM1, mq_up_s]; rfl
  have hc1 : bI G M1 b a 240 c := hV.2.1.fr hF1 (by simp [n_b_x]) (by simp [n_a_x])
  have hp1 : bI G M1 b2 a2 242 pk := hV.2.2.fr hF1 (by simp [n_b2_x]) (by simp [n_a2_x])
  have hs1 : bI G M1 b3 a3 n3 d3 := hB3.fr hF1 (by simp [n_b3_x]) (by simp [n_a3_x])
  have hC1 : ckI G M1 ch ca := hC.fr hF1 (by simp [n_ch_x]) (by simp [n_ca_x])
  refine xr_aload_n C dX3_fill_5 rfl ?_
  refine xr_get C (Cn := RX3) (T := TX3) (N := 4) (by decide +kernel) hx1 rfl 0 (by decide) (C.1.2.2.2.2 (.fieldLink RX3 14 "OssuaryVault$DeskFile" "content" "LOssuaryVault$Bytes;") (by decide +kernel)) (fun _ h => h) rfl dX3_fill_6 ?_
  refine xr_aload_n C dX3_fill_9 rfl ?_
  refine xr_callV1v C (c_fillFrom l G b a 240 c M1 hc1 b3 a3 n3 d3 hs1 ⟨n_b3_b, n_b3_a, n_a3_b, n_a3_a⟩ hd3) (cwV 1 C.1.2.2.2.2 gX3_fill_X0_fillFrom rfl rfl rfl (by decide +kernel) ⟨Nat.le_of_ble_eq_true rfl, Nat.le_of_ble_eq_true rfl⟩) hc1.1 rfl (Nat.le_of_ble_eq_true rfl) ⟨by dsimp only; omega, by dsimp only; omega⟩ dX3_fill_10 (fun M2 hp2 => ?_)
  obtain ⟨hc2, hF2⟩ := hp2
  have hx2 : M2 x = some (.inr (3, [.ref b, .ref b2, .int (zI (k2 : Int)), .int (zI (ck : Int))])) := (hF2 x (by simp [n_x_b, n_x_a])).trans hx1
  have hp2 : bI G M2 b2 a2 242 pk := hp1.fr hF2 (by simp [n_b2_b, n_b2_a]) (by simp [n_a2_b, n_a2_a])
  have hC2 : ckI G M2 ch ca := hC1.fr hF2 (by simp [n_ch_b, n_ch_a]) (by simp [n_ca_b, n_ca_a])
  refine xr_aload_n C dX3_fill_13 rfl ?_
  refine xr_aload_n C dX3_fill_14 rfl ?_
  refine xr_aload_n C dX3_fill_15 rfl ?_
  refine xr_get C (Cn := RX3) (T := TX3) (N := 4) (by decide +kernel) hx2 rfl 0 (by decide) (C.1.2.2.2.2 (.fieldLink RX3 14 "OssuaryVault$DeskFile" "content" "LOssuaryVault$Bytes;") (by decide +kernel)) (fun _ h => h) rfl dX3_fill_16 ?_
  refine xr_iconst (n := 0) C dX3_fill_19 (by decide +kernel) ?_
  refine xr_aload_n C dX3_fill_20 rfl ?_
  refine xr_get C (Cn := RX3) (T := TX3) (N := 4) (by decide +kernel) hx2 rfl 0 (by decide) (C.1.2.2.2.2 (.fieldLink RX3 14 "OssuaryVault$DeskFile" "content" "LOssuaryVault$Bytes;") (by decide +kernel)) (fun _ h => h) rfl dX3_fill_21 ?_
  refine xr_callV0i C (c_size l G b a 240 d3 M2 hc2) (cwV 0 C.1.2.2.2.2 gX3_fill_X0_size rfl rfl rfl (by decide +kernel) ⟨Nat.le_of_ble_eq_true rfl, Nat.le_of_ble_eq_true rfl⟩) hc2.1 rfl (Nat.le_of_ble_eq_true rfl) ⟨by dsimp only; omega, by dsimp only; omega⟩ dX3_fill_24 (fun r2 M9 hp9 => ?_)
  obtain ⟨rfl, rfl⟩ := hp9
  refine xr_callV3i C (c_over l G ch ca M2 hC2 b a 240 d3 hc2 0 (d3.length : Int) (by decide) (by omega)) (cwV 3 C.1.2.2.2.2 gX3_fill_X1_over rfl rfl rfl (by decide +kernel) ⟨Nat.le_of_ble_eq_true rfl, Nat.le_of_ble_eq_true rfl⟩) hC2.1 rfl (Nat.le_of_ble_eq_true rfl) ⟨by dsimp only; omega, by dsimp only; omega⟩ dX3_fill_27 (fun r3 M9 hp9 => ?_)
  obtain ⟨rfl, rfl⟩ := hp9
  rw [show ((d3.length : Int) - 0).toNat = d3.length by omega, mq_part_all]
  refine xr_put C (Cn := RX3) (T := TX3) (N := 4) (by decide +kernel) hx2 rfl 3 (by decide) tyX3 tyX3_ok nmX3 (C.1.2.2.2.2 (.fieldLink RX3 41 "OssuaryVault$DeskFile" "contentCheck" "I") (by decide +kernel)) (fun _ h => h) rfl (tyX3_ok 3 (by decide)) rfl rfl (Nat.le_of_ble_eq_true rfl) dX3_fill_30 ?_
  refine mq_ren (fun M4 hM4 => ?_)
  have hF3 : mq_F [x] M2 M4 := mq_F.up hM4 (by simp)
  have hx3 : M4 x = some (.inr (3, [.ref b, .ref b2, .int (zI (k2 : Int)), .int (zI (crF 65535 d3 : Int))])) := by rw [hM4, mq_up_s]; rfl
  have hc3 : bI G M4 b a 240 d3 := hc2.fr hF3 (by simp [n_b_x]) (by simp [n_a_x])
  have hp3 : bI G M4 b2 a2 242 pk := hp2.fr hF3 (by simp [n_b2_x]) (by simp [n_a2_x])
  refine xr_aload_n C dX3_fill_33 rfl ?_
  refine xr_get C (Cn := RX3) (T := TX3) (N := 4) (by decide +kernel) hx3 rfl 0 (by decide) (C.1.2.2.2.2 (.fieldLink RX3 14 "OssuaryVault$DeskFile" "content" "LOssuaryVault$Bytes;") (by decide +kernel)) (fun _ h => h) rfl dX3_fill_34 ?_
  refine xr_aload_n C dX3_fill_37 rfl ?_
  refine xr_get C (Cn := RX3) (T := TX3) (N := 4) (by decide +kernel) hx3 rfl 1 (by decide) (C.1.2.2.2.2 (.fieldLink RX3 20 "OssuaryVault$DeskFile" "packed" "LOssuaryVault$Bytes;") (by decide +kernel)) (fun _ h => h) rfl dX3_fill_38 ?_
  refine xr_callS2v C (c_pack l G b a 240 d3 M4 hc3 b2 a2 242 pk hp3 ⟨n_b_b2, n_b_a2, n_a_b2, n_a_a2⟩) (va_cwS 2 C.1.2.2.2.2 gX3_fill_X6_pack rfl rfl rfl (by decide +kernel) ⟨Nat.le_of_ble_eq_true rfl, Nat.le_of_ble_eq_true rfl⟩) (Nat.le_of_ble_eq_true rfl) ⟨by dsimp only; omega, by dsimp only; omega⟩ dX3_fill_41 (fun M4 hp4 => ?_)
  obtain ⟨⟨pk4, hp4⟩, hF4⟩ := hp4
  have hx4 := (hF4 x (by simp [n_x_b2, n_x_a2])).trans hx3
  have hc4 : bI G M4 b a 240 d3 := hc3.fr hF4 (by simp [n_b_b2, n_b_a2]) (by simp [n_a_b2, n_a_a2])
  exact xr_vret C hr hlk ⟨rfl, ⟨pk4, hx4, hc4, hp4⟩, (((hF1.mono (by simp)).tr (hF2.mono (by simp))).tr (hF3.mono (by simp))).tr (hF4.mono (by simp))⟩ (by omega) (by omega) dX3_fill_44
set_option maxHeartbeats 4000000 in
set_option maxRecDepth 100000 in
theorem c_ffsize (l : Launch) (G : mq_G) (x b a : Nat) (c : List Nat) (key pl tl : Int) (gd : Bool) (M : mq_M) (hV : ffI G M x b a c key pl tl gd) : mq_T l yX5_size wsX5_size { frames := 1, cells := 0, slots := 0, locals := 20 } G [.ref x] M (mq_ri M (vsz gd c)) 0 0 := by
  refine mq_Met.of (cc := cX5_size) (maxL := 1) (ret := (some .int)) (by decide) rfl (Nat.le_of_ble_eq_true rfl) rfl rfl ?_
  intro p_ e_ s_ m_ args_ below_ meth_ c_ z_ C hr hlk hname
  cases gd
  · refine xr_aload_n C dX5_size_0 rfl ?_
    refine xr_get C (Cn := RX5) (T := TX5) (N := 5) (by decide +kernel) hV.1 rfl 4 (by decide) (C.1.2.2.2.2 (.fieldLink RX5 20 "OssuaryVault$FoundFile" "good" "Z") (by decide +kernel)) (fun _ h => h) rfl dX5_size_1 ?_
    refine xr_if_eq C dX5_size_4 rfl (by decide) (fun _ => ?_) (fun hq => absurd hq (by decide))
    refine xr_iconst (n := (-1)) C dX5_size_17 (by decide +kernel) ?_
    exact xr_iret C hr hlk ⟨_, rfl, rfl, rfl⟩ (by omega) (by omega) dX5_size_18
  · refine xr_aload_n C dX5_size_0 rfl ?_
    refine xr_get C (Cn := RX5) (T := TX5) (N := 5) (by decide +kernel) hV.1 rfl 4 (by decide) (C.1.2.2.2.2 (.fieldLink RX5 20 "OssuaryVault$FoundFile" "good" "Z") (by decide +kernel)) (fun _ h => h) rfl dX5_size_1 ?_
    refine xr_if_eq C dX5_size_4 rfl (by decide) (fun hq => absurd hq (by decide)) (fun _ => ?_)
    refine xr_aload_n C dX5_size_7 rfl ?_
    refine xr_get C (Cn := RX5) (T := TX5) (N := 5) (by decide +kernel) hV.1 rfl 0 (by decide) (C.1.2.2.2.2 (.fieldLink RX5 14 "OssuaryVault$FoundFile" "content" "LOssuaryVault$Bytes;") (by decide +kernel)) (fun _ h => h) rfl dX5_size_8 ?_
    refine xr_callV0i C (c_size l G b a 240 c M hV.2) (cwV 0 C.1.2.2.2.2 gX5_size_X0_size rfl rfl rfl (by decide +kernel) ⟨Nat.le_of_ble_eq_true rfl, Nat.le_of_ble_eq_true rfl⟩) hV.2.1 rfl (Nat.le_of_ble_eq_true rfl) ⟨by dsimp only; omega, by dsimp only; omega⟩ dX5_size_11 (fun r1 M9 hp9 => ?_)
    obtain ⟨rfl, rfl⟩ := hp9
    refine xr_goto C dX5_size_14 rfl ?_
    exact xr_iret C hr hlk ⟨_, rfl, rfl, rfl⟩ (by omega) (by omega) dX5_size_18
