set_option maxHeartbeats 4000000 in
set_option maxRecDepth 100000 in
theorem m_keyOf (l : Launch) (G : mq_G) (Mb : Nat → Nat) (hb : mb_inj Mb) (t0 : Int) (M : mq_M) (hD : mdI G M Mb t0) (i : Int) (hir : -2147483648 ≤ i ∧ i < 2147483648) : mq_T l yX12_keyOf wsX12_keyOf { frames := 2, cells := 0, slots := 0, locals := 43 } G [.ref (Mb 0), .int (zI i)] M (mdR M Mb (1) (0)) 0 0 := by
  refine mq_Met.of (cc := cX12_keyOf) (maxL := 2) (ret := (some .int)) (by decide) rfl (Nat.le_of_ble_eq_true rfl) rfl rfl ?_
  intro p_ e_ s_ m_ args_ below_ meth_ c_ z_ C hr hlk hname
  refine xr_aload_n C dX12_keyOf_0 rfl ?_
  refine xr_iconst (n := 0) C dX12_keyOf_1 (by decide +kernel) ?_
  refine xr_put C (Cn := RX12) (T := TX12) (N := 25) (by decide +kernel) hD.1 rfl 0 (by decide) tyX12 tyX12_ok nmX12 (C.1.2.2.2.2 (.fieldLink RX12 59 "OssuaryVaultModel" "thrown" "I") (by decide +kernel)) (fun _ h => h) rfl (tyX12_ok 0 (by decide)) rfl rfl (Nat.le_of_ble_eq_true rfl) dX12_keyOf_2 ?_
  refine mq_ren (fun M1 hM1 => ?_)
  have hD1 : mdI G M1 Mb 0 := hD.th hb hM1
  have hO1 : M1 (Mb 39) = M (Mb 39) := by rw [hM1, mq_up_n (mb_ne hb (by decide) (by decide) (by decide))]
  refine xr_aload_n C dX12_keyOf_5 rfl ?_
  refine xr_iload_n C dX12_keyOf_6 rfl ?_
  refine xr_callV1i C (m_isFile l G Mb hb 0 M1 hD1 i hir) (cwV 1 C.1.2.2.2.2 gX12_keyOf_X12_isFile rfl rfl rfl (by decide +kernel) ⟨Nat.le_of_ble_eq_true rfl, Nat.le_of_ble_eq_true rfl⟩) hD1.1 rfl (Nat.le_of_ble_eq_true rfl) ⟨by dsimp only; omega, by dsimp only; omega⟩ dX12_keyOf_7 (fun r2 M9 hp9 => ?_)
  obtain ⟨rfl, rfl⟩ := hp9
  refine xr_if_eq C dX12_keyOf_10 rfl (by decide) (fun _ => ?_) (fun hq => absurd hq (by decide))
  refine xr_aload_n C dX12_keyOf_22 rfl ?_
  refine xr_iconst (n := 1) C dX12_keyOf_23 (by decide +kernel) ?_
  refine xr_callV1i C (m_no l G Mb hb 0 M1 hD1 1) (cwV 1 C.1.2.2.2.2 gX12_keyOf_X12_no rfl rfl rfl (by decide +kernel) ⟨Nat.le_of_ble_eq_true rfl, Nat.le_of_ble_eq_true rfl⟩) hD1.1 rfl (Nat.le_of_ble_eq_true rfl) ⟨by dsimp only; omega, by dsimp only; omega⟩ dX12_keyOf_24 (fun r9 M9 hp9 => ?_)
  obtain ⟨rfl, hD9, hO9⟩ := hp9
  exact xr_iret C hr hlk ⟨_, rfl, by exact ⟨fun h => absurd h (by decide), mdQ.of hD9 (hO9.trans hO1)⟩⟩ (by omega) (by omega) dX12_keyOf_27
set_option maxHeartbeats 4000000 in
set_option maxRecDepth 100000 in
theorem m_lengthOf (l : Launch) (G : mq_G) (Mb : Nat → Nat) (hb : mb_inj Mb) (t0 : Int) (M : mq_M) (hD : mdI G M Mb t0) (i : Int) (hir : -2147483648 ≤ i ∧ i < 2147483648) : mq_T l yX12_lengthOf wsX12_lengthOf { frames := 2, cells := 0, slots := 0, locals := 43 } G [.ref (Mb 0), .int (zI i)] M (mdR M Mb (1) (0)) 0 0 := by
  refine mq_Met.of (cc := cX12_lengthOf) (maxL := 2) (ret := (some .int)) (by decide) rfl (Nat.le_of_ble_eq_true rfl) rfl rfl ?_
  intro p_ e_ s_ m_ args_ below_ meth_ c_ z_ C hr hlk hname
  refine xr_aload_n C dX12_lengthOf_0 rfl ?_
  refine xr_iconst (n := 0) C dX12_lengthOf_1 (by decide +kernel) ?_
  refine xr_put C (Cn := RX12) (T := TX12) (N := 25) (by decide +kernel) hD.1 rfl 0 (by decide) tyX12 tyX12_ok nmX12 (C.1.2.2.2.2 (.fieldLink RX12 59 "OssuaryVaultModel" "thrown" "I") (by decide +kernel)) (fun _ h => h) rfl (tyX12_ok 0 (by decide)) rfl rfl (Nat.le_of_ble_eq_true rfl) dX12_lengthOf_2 ?_
  refine mq_ren (fun M1 hM1 => ?_)
  have hD1 : mdI G M1 Mb 0 := hD.th hb hM1
  have hO1 : M1 (Mb 39) = M (Mb 39) := by rw [hM1, mq_up_n (mb_ne hb (by decide) (by decide) (by decide))]
  refine xr_aload_n C dX12_lengthOf_5 rfl ?_
  refine xr_iload_n C dX12_lengthOf_6 rfl ?_
  refine xr_callV1i C (m_isFile l G Mb hb 0 M1 hD1 i hir) (cwV 1 C.1.2.2.2.2 gX12_lengthOf_X12_isFile rfl rfl rfl (by decide +kernel) ⟨Nat.le_of_ble_eq_true rfl, Nat.le_of_ble_eq_true rfl⟩) hD1.1 rfl (Nat.le_of_ble_eq_true rfl) ⟨by dsimp only; omega, by dsimp only; omega⟩ dX12_lengthOf_7 (fun r2 M9 hp9 => ?_)
  obtain ⟨rfl, rfl⟩ := hp9
  refine xr_if_eq C dX12_lengthOf_10 rfl (by decide) (fun _ => ?_) (fun hq => absurd hq (by decide))
  refine xr_aload_n C dX12_lengthOf_22 rfl ?_
  refine xr_iconst (n := 1) C dX12_lengthOf_23 (by decide +kernel) ?_
  refine xr_callV1i C (m_no l G Mb hb 0 M1 hD1 1) (cwV 1 C.1.2.2.2.2 gX12_lengthOf_X12_no rfl rfl rfl (by decide +kernel) ⟨Nat.le_of_ble_eq_true rfl, Nat.le_of_ble_eq_true rfl⟩) hD1.1 rfl (Nat.le_of_ble_eq_true rfl) ⟨by dsimp only; omega, by dsimp only; omega⟩ dX12_lengthOf_24 (fun r9 M9 hp9 => ?_)
  obtain ⟨rfl, hD9, hO9⟩ := hp9
  exact xr_iret C hr hlk ⟨_, rfl, by exact ⟨fun h => absurd h (by decide), mdQ.of hD9 (hO9.trans hO1)⟩⟩ (by omega) (by omega) dX12_lengthOf_27
set_option maxHeartbeats 4000000 in
set_option maxRecDepth 100000 in
theorem m_contentAt (l : Launch) (G : mq_G) (Mb : Nat → Nat) (hb : mb_inj Mb) (t0 : Int) (M : mq_M) (hD : mdI G M Mb t0) (i : Int) (hir : -2147483648 ≤ i ∧ i < 2147483648) (q : Int) (hqr : -2147483648 ≤ q ∧ q < 2147483648) : mq_T l yX12_contentAt wsX12_contentAt { frames := 2, cells := 0, slots := 0, locals := 43 } G [.ref (Mb 0), .int (zI i), .int (zI q)] M (mdR M Mb (1) (0)) 0 0 := by
  refine mq_Met.of (cc := cX12_contentAt) (maxL := 3) (ret := (some .int)) (by decide) rfl (Nat.le_of_ble_eq_true rfl) rfl rfl ?_
  intro p_ e_ s_ m_ args_ below_ meth_ c_ z_ C hr hlk hname
  refine xr_aload_n C dX12_contentAt_0 rfl ?_
  refine xr_iconst (n := 0) C dX12_contentAt_1 (by decide +kernel) ?_
  refine xr_put C (Cn := RX12) (T := TX12) (N := 25) (by decide +kernel) hD.1 rfl 0 (by decide) tyX12 tyX12_ok nmX12 (C.1.2.2.2.2 (.fieldLink RX12 59 "OssuaryVaultModel" "thrown" "I") (by decide +kernel)) (fun _ h => h) rfl (tyX12_ok 0 (by decide)) rfl rfl (Nat.le_of_ble_eq_true rfl) dX12_contentAt_2 ?_
  refine mq_ren (fun M1 hM1 => ?_)
  have hD1 : mdI G M1 Mb 0 := hD.th hb hM1
  have hO1 : M1 (Mb 39) = M (Mb 39) := by rw [hM1, mq_up_n (mb_ne hb (by decide) (by decide) (by decide))]
  refine xr_aload_n C dX12_contentAt_5 rfl ?_
  refine xr_iload_n C dX12_contentAt_6 rfl ?_
  refine xr_callV1i C (m_isFile l G Mb hb 0 M1 hD1 i hir) (cwV 1 C.1.2.2.2.2 gX12_contentAt_X12_isFile rfl rfl rfl (by decide +kernel) ⟨Nat.le_of_ble_eq_true rfl, Nat.le_of_ble_eq_true rfl⟩) hD1.1 rfl (Nat.le_of_ble_eq_true rfl) ⟨by dsimp only; omega, by dsimp only; omega⟩ dX12_contentAt_7 (fun r2 M9 hp9 => ?_)
  obtain ⟨rfl, rfl⟩ := hp9
  refine xr_if_eq C dX12_contentAt_10 rfl (by decide) (fun _ => ?_) (fun hq => absurd hq (by decide))
  refine xr_aload_n C dX12_contentAt_40 rfl ?_
  refine xr_iconst (n := 1) C dX12_contentAt_41 (by decide +kernel) ?_
  refine xr_callV1i C (m_no l G Mb hb 0 M1 hD1 1) (cwV 1 C.1.2.2.2.2 gX12_contentAt_X12_no rfl rfl rfl (by decide +kernel) ⟨Nat.le_of_ble_eq_true rfl, Nat.le_of_ble_eq_true rfl⟩) hD1.1 rfl (Nat.le_of_ble_eq_true rfl) ⟨by dsimp only; omega, by dsimp only; omega⟩ dX12_contentAt_42 (fun r9 M9 hp9 => ?_)
  obtain ⟨rfl, hD9, hO9⟩ := hp9
  exact xr_iret C hr hlk ⟨_, rfl, by exact ⟨fun h => absurd h (by decide), mdQ.of hD9 (hO9.trans hO1)⟩⟩ (by omega) (by omega) dX12_contentAt_45
set_option maxHeartbeats 4000000 in
set_option maxRecDepth 100000 in
theorem m_checkOf (l : Launch) (G : mq_G) (Mb : Nat → Nat) (hb : mb_inj Mb) (t0 : Int) (M : mq_M) (hD : mdI G M Mb t0) (i : Int) (hir : -2147483648 ≤ i ∧ i < 2147483648) : mq_T l yX12_checkOf wsX12_checkOf { frames := 2, cells := 0, slots := 0, locals := 47 } G [.ref (Mb 0), .int (zI i)] M (mdR M Mb (1) (0)) 0 0 := by
  refine mq_Met.of (cc := cX12_checkOf) (maxL := 2) (ret := (some .int)) (by decide) rfl (Nat.le_of_ble_eq_true rfl) rfl rfl ?_
  intro p_ e_ s_ m_ args_ below_ meth_ c_ z_ C hr hlk hname
  refine xr_aload_n C dX12_checkOf_0 rfl ?_
  refine xr_iconst (n := 0) C dX12_checkOf_1 (by decide +kernel) ?_
  refine xr_put C (Cn := RX12) (T := TX12) (N := 25) (by decide +kernel) hD.1 rfl 0 (by decide) tyX12 tyX12_ok nmX12 (C.1.2.2.2.2 (.fieldLink RX12 59 "OssuaryVaultModel" "thrown" "I") (by decide +kernel)) (fun _ h => h) rfl (tyX12_ok 0 (by decide)) rfl rfl (Nat.le_of_ble_eq_true rfl) dX12_checkOf_2 ?_
  refine mq_ren (fun M1 hM1 => ?_)
  have hD1 : mdI G M1 Mb 0 := hD.th hb hM1
  have hO1 : M1 (Mb 39) = M (Mb 39) := by rw [hM1, mq_up_n (mb_ne hb (by decide) (by decide) (by decide))]
  refine xr_aload_n C dX12_checkOf_5 rfl ?_
  refine xr_iload_n C dX12_checkOf_6 rfl ?_
  refine xr_callV1i C (m_isFile l G Mb hb 0 M1 hD1 i hir) (cwV 1 C.1.2.2.2.2 gX12_checkOf_X12_isFile rfl rfl rfl (by decide +kernel) ⟨Nat.le_of_ble_eq_true rfl, Nat.le_of_ble_eq_true rfl⟩) hD1.1 rfl (Nat.le_of_ble_eq_true rfl) ⟨by dsimp only; omega, by dsimp only; omega⟩ dX12_checkOf_7 (fun r2 M9 hp9 => ?_)
  obtain ⟨rfl, rfl⟩ := hp9
  refine xr_if_eq C dX12_checkOf_10 rfl (by decide) (fun _ => ?_) (fun hq => absurd hq (by decide))
  refine xr_aload_n C dX12_checkOf_32 rfl ?_
  refine xr_iconst (n := 1) C dX12_checkOf_33 (by decide +kernel) ?_
  refine xr_callV1i C (m_no l G Mb hb 0 M1 hD1 1) (cwV 1 C.1.2.2.2.2 gX12_checkOf_X12_no rfl rfl rfl (by decide +kernel) ⟨Nat.le_of_ble_eq_true rfl, Nat.le_of_ble_eq_true rfl⟩) hD1.1 rfl (Nat.le_of_ble_eq_true rfl) ⟨by dsimp only; omega, by dsimp only; omega⟩ dX12_checkOf_34 (fun r9 M9 hp9 => ?_)
  obtain ⟨rfl, hD9, hO9⟩ := hp9
  exact xr_iret C hr hlk ⟨_, rfl, by exact ⟨fun h => absurd h (by decide), mdQ.of hD9 (hO9.trans hO1)⟩⟩ (by omega) (by omega) dX12_checkOf_37
set_option maxHeartbeats 4000000 in
set_option maxRecDepth 100000 in
theorem m_packedLength (l : Launch) (G : mq_G) (Mb : Nat → Nat) (hb : mb_inj Mb) (t0 : Int) (M : mq_M) (hD : mdI G M Mb t0) (i : Int) (hir : -2147483648 ≤ i ∧ i < 2147483648) : mq_T l yX12_packedLength wsX12_packedLength { frames := 2, cells := 0, slots := 0, locals := 48 } G [.ref (Mb 0), .int (zI i)] M (mdR M Mb (1) (0)) 0 0 := by
  refine mq_Met.of (cc := cX12_packedLength) (maxL := 2) (ret := (some .int)) (by decide) rfl (Nat.le_of_ble_eq_true rfl) rfl rfl ?_
  intro p_ e_ s_ m_ args_ below_ meth_ c_ z_ C hr hlk hname
  refine xr_aload_n C dX12_packedLength_0 rfl ?_
  refine xr_iconst (n := 0) C dX12_packedLength_1 (by decide +kernel) ?_
  refine xr_put C (Cn := RX12) (T := TX12) (N := 25) (by decide +kernel) hD.1 rfl 0 (by decide) tyX12 tyX12_ok nmX12 (C.1.2.2.2.2 (.fieldLink RX12 59 "OssuaryVaultModel" "thrown" "I") (by decide +kernel)) (fun _ h => h) rfl (tyX12_ok 0 (by decide)) rfl rfl (Nat.le_of_ble_eq_true rfl) dX12_packedLength_2 ?_
  refine mq_ren (fun M1 hM1 => ?_)
  have hD1 : mdI G M1 Mb 0 := hD.th hb hM1
  have hO1 : M1 (Mb 39) = M (Mb 39) := by rw [hM1, mq_up_n (mb_ne hb (by decide) (by decide) (by decide))]
  refine xr_aload_n C dX12_packedLength_5 rfl ?_
  refine xr_iload_n C dX12_packedLength_6 rfl ?_
  refine xr_callV1i C (m_isFile l G Mb hb 0 M1 hD1 i hir) (cwV 1 C.1.2.2.2.2 gX12_packedLength_X12_isFile rfl rfl rfl (by decide +kernel) ⟨Nat.le_of_ble_eq_true rfl, Nat.le_of_ble_eq_true rfl⟩) hD1.1 rfl (Nat.le_of_ble_eq_true rfl) ⟨by dsimp only; omega, by dsimp only; omega⟩ dX12_packedLength_7 (fun r2 M9 hp9 => ?_)
  obtain ⟨rfl, rfl⟩ := hp9
  refine xr_if_eq C dX12_packedLength_10 rfl (by decide) (fun _ => ?_) (fun hq => absurd hq (by decide))
  refine xr_aload_n C dX12_packedLength_32 rfl ?_
  refine xr_iconst (n := 1) C dX12_packedLength_33 (by decide +kernel) ?_
  refine xr_callV1i C (m_no l G Mb hb 0 M1 hD1 1) (cwV 1 C.1.2.2.2.2 gX12_packedLength_X12_no rfl rfl rfl (by decide +kernel) ⟨Nat.le_of_ble_eq_true rfl, Nat.le_of_ble_eq_true rfl⟩) hD1.1 rfl (Nat.le_of_ble_eq_true rfl) ⟨by dsimp only; omega, by dsimp only; omega⟩ dX12_packedLength_34 (fun r9 M9 hp9 => ?_)
  obtain ⟨rfl, hD9, hO9⟩ := hp9
  exact xr_iret C hr hlk ⟨_, rfl, by exact ⟨fun h => absurd h (by decide), mdQ.of hD9 (hO9.trans hO1)⟩⟩ (by omega) (by omega) dX12_packedLength_37
set_option maxHeartbeats 4000000 in
set_option maxRecDepth 100000 in
theorem m_packedAt (l : Launch) (G : mq_G) (Mb : Nat → Nat) (hb : mb_inj Mb) (t0 : Int) (M : mq_M) (hD : mdI G M Mb t0) (i : Int) (hir : -2147483648 ≤ i ∧ i < 2147483648) (q : Int) (hqr : -2147483648 ≤ q ∧ q < 2147483648) : mq_T l yX12_packedAt wsX12_packedAt { frames := 2, cells := 0, slots := 0, locals := 48 } G [.ref (Mb 0), .int (zI i), .int (zI q)] M (mdR M Mb (1) (0)) 0 0 := by
  refine mq_Met.of (cc := cX12_packedAt) (maxL := 3) (ret := (some .int)) (by decide) rfl (Nat.le_of_ble_eq_true rfl) rfl rfl ?_
  intro p_ e_ s_ m_ args_ below_ meth_ c_ z_ C hr hlk hname
  refine xr_aload_n C dX12_packedAt_0 rfl ?_
  refine xr_iconst (n := 0) C dX12_packedAt_1 (by decide +kernel) ?_
  refine xr_put C (Cn := RX12) (T := TX12) (N := 25) (by decide +kernel) hD.1 rfl 0 (by decide) tyX12 tyX12_ok nmX12 (C.1.2.2.2.2 (.fieldLink RX12 59 "OssuaryVaultModel" "thrown" "I") (by decide +kernel)) (fun _ h => h) rfl (tyX12_ok 0 (by decide)) rfl rfl (Nat.le_of_ble_eq_true rfl) dX12_packedAt_2 ?_
  refine mq_ren (fun M1 hM1 => ?_)
  have hD1 : mdI G M1 Mb 0 := hD.th hb hM1
  have hO1 : M1 (Mb 39) = M (Mb 39) := by rw [hM1, mq_up_n (mb_ne hb (by decide) (by decide) (by decide))]
  refine xr_aload_n C dX12_packedAt_5 rfl ?_
  refine xr_iload_n C dX12_packedAt_6 rfl ?_
  refine xr_callV1i C (m_isFile l G Mb hb 0 M1 hD1 i hir) (cwV 1 C.1.2.2.2.2 gX12_packedAt_X12_isFile rfl rfl rfl (by decide +kernel) ⟨Nat.le_of_ble_eq_true rfl, Nat.le_of_ble_eq_true rfl⟩) hD1.1 rfl (Nat.le_of_ble_eq_true rfl) ⟨by dsimp only; omega, by dsimp only; omega⟩ dX12_packedAt_7 (fun r2 M9 hp9 => ?_)
  obtain ⟨rfl, rfl⟩ := hp9
  refine xr_if_eq C dX12_packedAt_10 rfl (by decide) (fun _ => ?_) (fun hq => absurd hq (by decide))
  refine xr_aload_n C dX12_packedAt_48 rfl ?_
  refine xr_iconst (n := 1) C dX12_packedAt_49 (by decide +kernel) ?_
  refine xr_callV1i C (m_no l G Mb hb 0 M1 hD1 1) (cwV 1 C.1.2.2.2.2 gX12_packedAt_X12_no rfl rfl rfl (by decide +kernel) ⟨Nat.le_of_ble_eq_true rfl, Nat.le_of_ble_eq_true rfl⟩) hD1.1 rfl (Nat.le_of_ble_eq_true rfl) ⟨by dsimp only; omega, by dsimp only; omega⟩ dX12_packedAt_50 (fun r9 M9 hp9 => ?_)
  obtain ⟨rfl, hD9, hO9⟩ := hp9
  exact xr_iret C hr hlk ⟨_, rfl, by exact ⟨fun h => absurd h (by decide), mdQ.of hD9 (hO9.trans hO1)⟩⟩ (by omega) (by omega) dX12_packedAt_53
set_option maxHeartbeats 4000000 in
set_option maxRecDepth 100000 in
theorem m_byteAt (l : Launch) (G : mq_G) (Mb : Nat → Nat) (hb : mb_inj Mb) (t0 : Int) (M : mq_M) (hD : mdI G M Mb t0) (i : Int) (hir : -2147483648 ≤ i ∧ i < 2147483648) (q : Int) (hqr : -2147483648 ≤ q ∧ q < 2147483648) : mq_T l yX12_byteAt wsX12_byteAt { frames := 4, cells := 0, slots := 0, locals := 85 } G [.ref (Mb 0), .int (zI i), .int (zI q)] M (mdR M Mb (1) (0)) 0 0 := by
  refine mq_Met.of (cc := cX12_byteAt) (maxL := 3) (ret := (some .int)) (by decide) rfl (Nat.le_of_ble_eq_true rfl) rfl rfl ?_
  intro p_ e_ s_ m_ args_ below_ meth_ c_ z_ C hr hlk hname
  refine xr_aload_n C dX12_byteAt_0 rfl ?_
  refine xr_iconst (n := 0) C dX12_byteAt_1 (by decide +kernel) ?_
  refine xr_put C (Cn := RX12) (T := TX12) (N := 25) (by decide +kernel) hD.1 rfl 0 (by decide) tyX12 tyX12_ok nmX12 (C.1.2.2.2.2 (.fieldLink RX12 59 "OssuaryVaultModel" "thrown" "I") (by decide +kernel)) (fun _ h => h) rfl (tyX12_ok 0 (by decide)) rfl rfl (Nat.le_of_ble_eq_true rfl) dX12_byteAt_2 ?_
  refine mq_ren (fun M1 hM1 => ?_)
  have hD1 : mdI G M1 Mb 0 := hD.th hb hM1
  have hO1 : M1 (Mb 39) = M (Mb 39) := by rw [hM1, mq_up_n (mb_ne hb (by decide) (by decide) (by decide))]
  refine xr_aload_n C dX12_byteAt_5 rfl ?_
  refine xr_iload_n C dX12_byteAt_6 rfl ?_
  refine xr_iload_n C dX12_byteAt_7 rfl ?_
  refine xr_callV2i C (m_isByte l G Mb hb 0 M1 hD1 i hir q hqr) (cwV 2 C.1.2.2.2.2 gX12_byteAt_X12_isByte rfl rfl rfl (by decide +kernel) ⟨Nat.le_of_ble_eq_true rfl, Nat.le_of_ble_eq_true rfl⟩) hD1.1 rfl (Nat.le_of_ble_eq_true rfl) ⟨by dsimp only; omega, by dsimp only; omega⟩ dX12_byteAt_8 (fun r2 M9 hp9 => ?_)
  obtain ⟨rfl, rfl⟩ := hp9
  refine xr_if_eq C dX12_byteAt_11 rfl (by decide) (fun _ => ?_) (fun hq => absurd hq (by decide))
  refine xr_aload_n C dX12_byteAt_25 rfl ?_
  refine xr_iconst (n := 1) C dX12_byteAt_26 (by decide +kernel) ?_
  refine xr_callV1i C (m_no l G Mb hb 0 M1 hD1 1) (cwV 1 C.1.2.2.2.2 gX12_byteAt_X12_no rfl rfl rfl (by decide +kernel) ⟨Nat.le_of_ble_eq_true rfl, Nat.le_of_ble_eq_true rfl⟩) hD1.1 rfl (Nat.le_of_ble_eq_true rfl) ⟨by dsimp only; omega, by dsimp only; omega⟩ dX12_byteAt_27 (fun r9 M9 hp9 => ?_)
  obtain ⟨rfl, hD9, hO9⟩ := hp9
  exact xr_iret C hr hlk ⟨_, rfl, by exact ⟨fun h => absurd h (by decide), mdQ.of hD9 (hO9.trans hO1)⟩⟩ (by omega) (by omega) dX12_byteAt_30
set_option maxHeartbeats 4000000 in
set_option maxRecDepth 100000 in
theorem m_spoil (l : Launch) (G : mq_G) (Mb : Nat → Nat) (hb : mb_inj Mb) (t0 : Int) (M : mq_M) (hD : mdI G M Mb t0) (i : Int) (hir : -2147483648 ≤ i ∧ i < 2147483648) (q : Int) (hqr : -2147483648 ≤ q ∧ q < 2147483648) (b : Int) (hbr : -2147483648 ≤ b ∧ b < 2147483648) : mq_T l yX12_spoil wsX12_spoil { frames := 4, cells := 0, slots := 0, locals := 85 } G [.ref (Mb 0), .int (zI i), .int (zI q), .int (zI b)] M (mdR M Mb (1) (0)) 0 0 := by
  refine mq_Met.of (cc := cX12_spoil) (maxL := 4) (ret := (some .int)) (by decide) rfl (Nat.le_of_ble_eq_true rfl) rfl rfl ?_
  intro p_ e_ s_ m_ args_ below_ meth_ c_ z_ C hr hlk hname
  refine xr_aload_n C dX12_spoil_0 rfl ?_
  refine xr_iconst (n := 0) C dX12_spoil_1 (by decide +kernel) ?_
  refine xr_put C (Cn := RX12) (T := TX12) (N := 25) (by decide +kernel) hD.1 rfl 0 (by decide) tyX12 tyX12_ok nmX12 (C.1.2.2.2.2 (.fieldLink RX12 59 "OssuaryVaultModel" "thrown" "I") (by decide +kernel)) (fun _ h => h) rfl (tyX12_ok 0 (by decide)) rfl rfl (Nat.le_of_ble_eq_true rfl) dX12_spoil_2 ?_
  refine mq_ren (fun M1 hM1 => ?_)
  have hD1 : mdI G M1 Mb 0 := hD.th hb hM1
  have hO1 : M1 (Mb 39) = M (Mb 39) := by rw [hM1, mq_up_n (mb_ne hb (by decide) (by decide) (by decide))]
  refine xr_aload_n C dX12_spoil_5 rfl ?_
  refine xr_iload_n C dX12_spoil_6 rfl ?_
  refine xr_iload_n C dX12_spoil_7 rfl ?_
  refine xr_callV2i C (m_isByte l G Mb hb 0 M1 hD1 i hir q hqr) (cwV 2 C.1.2.2.2.2 gX12_spoil_X12_isByte rfl rfl rfl (by decide +kernel) ⟨Nat.le_of_ble_eq_true rfl, Nat.le_of_ble_eq_true rfl⟩) hD1.1 rfl (Nat.le_of_ble_eq_true rfl) ⟨by dsimp only; omega, by dsimp only; omega⟩ dX12_spoil_8 (fun r2 M9 hp9 => ?_)
  obtain ⟨rfl, rfl⟩ := hp9
  refine xr_if_ne C dX12_spoil_11 rfl (by decide) (fun hq => absurd hq (by decide)) (fun _ => ?_)
  refine xr_aload_n C dX12_spoil_14 rfl ?_
  refine xr_iconst (n := 1) C dX12_spoil_15 (by decide +kernel) ?_
  refine xr_callV1i C (m_no l G Mb hb 0 M1 hD1 1) (cwV 1 C.1.2.2.2.2 gX12_spoil_X12_no rfl rfl rfl (by decide +kernel) ⟨Nat.le_of_ble_eq_true rfl, Nat.le_of_ble_eq_true rfl⟩) hD1.1 rfl (Nat.le_of_ble_eq_true rfl) ⟨by dsimp only; omega, by dsimp only; omega⟩ dX12_spoil_16 (fun r9 M9 hp9 => ?_)
  obtain ⟨rfl, hD9, hO9⟩ := hp9
  exact xr_iret C hr hlk ⟨_, rfl, by exact ⟨fun h => absurd h (by decide), mdQ.of hD9 (hO9.trans hO1)⟩⟩ (by omega) (by omega) dX12_spoil_19
set_option maxHeartbeats 4000000 in
set_option maxRecDepth 100000 in
theorem m_sign (l : Launch) (G : mq_G) (Mb : Nat → Nat) (hb : mb_inj Mb) (t0 : Int) (M : mq_M) (hD : mdI G M Mb t0) (i : Int) (hir : -2147483648 ≤ i ∧ i < 2147483648) : mq_T l yX12_sign wsX12_sign { frames := 3, cells := 0, slots := 0, locals := 70 } G [.ref (Mb 0), .int (zI i)] M (mdR M Mb (1) (0)) 0 0 := by
  refine mq_Met.of (cc := cX12_sign) (maxL := 3) (ret := (some .int)) (by decide) rfl (Nat.le_of_ble_eq_true rfl) rfl rfl ?_
  intro p_ e_ s_ m_ args_ below_ meth_ c_ z_ C hr hlk hname
  refine xr_aload_n C dX12_sign_0 rfl ?_
  refine xr_iconst (n := 0) C dX12_sign_1 (by decide +kernel) ?_
  refine xr_put C (Cn := RX12) (T := TX12) (N := 25) (by decide +kernel) hD.1 rfl 0 (by decide) tyX12 tyX12_ok nmX12 (C.1.2.2.2.2 (.fieldLink RX12 59 "OssuaryVaultModel" "thrown" "I") (by decide +kernel)) (fun _ h => h) rfl (tyX12_ok 0 (by decide)) rfl rfl (Nat.le_of_ble_eq_true rfl) dX12_sign_2 ?_
  refine mq_ren (fun M1 hM1 => ?_)
  have hD1 : mdI G M1 Mb 0 := hD.th hb hM1
  have hO1 : M1 (Mb 39) = M (Mb 39) := by rw [hM1, mq_up_n (mb_ne hb (by decide) (by decide) (by decide))]
  refine xr_aload_n C dX12_sign_5 rfl ?_
  refine xr_iload_n C dX12_sign_6 rfl ?_
  refine xr_callV1i C (m_isVolume l G Mb hb 0 M1 hD1 i hir) (cwV 1 C.1.2.2.2.2 gX12_sign_X12_isVolume rfl rfl rfl (by decide +kernel) ⟨Nat.le_of_ble_eq_true rfl, Nat.le_of_ble_eq_true rfl⟩) hD1.1 rfl (Nat.le_of_ble_eq_true rfl) ⟨by dsimp only; omega, by dsimp only; omega⟩ dX12_sign_7 (fun r2 M9 hp9 => ?_)
  obtain ⟨rfl, rfl⟩ := hp9
  refine xr_if_ne C dX12_sign_10 rfl (by decide) (fun hq => absurd hq (by decide)) (fun _ => ?_)
  refine xr_aload_n C dX12_sign_13 rfl ?_
  refine xr_iconst (n := 1) C dX12_sign_14 (by decide +kernel) ?_
  refine xr_callV1i C (m_no l G Mb hb 0 M1 hD1 1) (cwV 1 C.1.2.2.2.2 gX12_sign_X12_no rfl rfl rfl (by decide +kernel) ⟨Nat.le_of_ble_eq_true rfl, Nat.le_of_ble_eq_true rfl⟩) hD1.1 rfl (Nat.le_of_ble_eq_true rfl) ⟨by dsimp only; omega, by dsimp only; omega⟩ dX12_sign_15 (fun r9 M9 hp9 => ?_)
  obtain ⟨rfl, hD9, hO9⟩ := hp9
  exact xr_iret C hr hlk ⟨_, rfl, by exact ⟨fun h => absurd h (by decide), mdQ.of hD9 (hO9.trans hO1)⟩⟩ (by omega) (by omega) dX12_sign_18
set_option maxHeartbeats 4000000 in
set_option maxRecDepth 100000 in
theorem m_cut (l : Launch) (G : mq_G) (Mb : Nat → Nat) (hb : mb_inj Mb) (t0 : Int) (M : mq_M) (hD : mdI G M Mb t0) (i : Int) (hir : -2147483648 ≤ i ∧ i < 2147483648) (q : Int) (hqr : -2147483648 ≤ q ∧ q < 2147483648) : mq_T l yX12_cut wsX12_cut { frames := 3, cells := 0, slots := 0, locals := 63 } G [.ref (Mb 0), .int (zI i), .int (zI q)] M (mdR M Mb (1) (0)) 0 0 := by
  refine mq_Met.of (cc := cX12_cut) (maxL := 4) (ret := (some .int)) (by decide) rfl (Nat.le_of_ble_eq_true rfl) rfl rfl ?_
  intro p_ e_ s_ m_ args_ below_ meth_ c_ z_ C hr hlk hname
  refine xr_aload_n C dX12_cut_0 rfl ?_
  refine xr_iconst (n := 0) C dX12_cut_1 (by decide +kernel) ?_
  refine xr_put C (Cn := RX12) (T := TX12) (N := 25) (by decide +kernel) hD.1 rfl 0 (by decide) tyX12 tyX12_ok nmX12 (C.1.2.2.2.2 (.fieldLink RX12 59 "OssuaryVaultModel" "thrown" "I") (by decide +kernel)) (fun _ h => h) rfl (tyX12_ok 0 (by decide)) rfl rfl (Nat.le_of_ble_eq_true rfl) dX12_cut_2 ?_
  refine mq_ren (fun M1 hM1 => ?_)
  have hD1 : mdI G M1 Mb 0 := hD.th hb hM1
  have hO1 : M1 (Mb 39) = M (Mb 39) := by rw [hM1, mq_up_n (mb_ne hb (by decide) (by decide) (by decide))]
  refine xr_aload_n C dX12_cut_5 rfl ?_
  refine xr_iload_n C dX12_cut_6 rfl ?_
  refine xr_callV1i C (m_isVolume l G Mb hb 0 M1 hD1 i hir) (cwV 1 C.1.2.2.2.2 gX12_cut_X12_isVolume rfl rfl rfl (by decide +kernel) ⟨Nat.le_of_ble_eq_true rfl, Nat.le_of_ble_eq_true rfl⟩) hD1.1 rfl (Nat.le_of_ble_eq_true rfl) ⟨by dsimp only; omega, by dsimp only; omega⟩ dX12_cut_7 (fun r2 M9 hp9 => ?_)
  obtain ⟨rfl, rfl⟩ := hp9
  refine xr_if_ne C dX12_cut_10 rfl (by decide) (fun hq => absurd hq (by decide)) (fun _ => ?_)
  refine xr_aload_n C dX12_cut_13 rfl ?_
  refine xr_iconst (n := 1) C dX12_cut_14 (by decide +kernel) ?_
  refine xr_callV1i C (m_no l G Mb hb 0 M1 hD1 1) (cwV 1 C.1.2.2.2.2 gX12_cut_X12_no rfl rfl rfl (by decide +kernel) ⟨Nat.le_of_ble_eq_true rfl, Nat.le_of_ble_eq_true rfl⟩) hD1.1 rfl (Nat.le_of_ble_eq_true rfl) ⟨by dsimp only; omega, by dsimp only; omega⟩ dX12_cut_15 (fun r9 M9 hp9 => ?_)
  obtain ⟨rfl, hD9, hO9⟩ := hp9
  exact xr_iret C hr hlk ⟨_, rfl, by exact ⟨fun h => absurd h (by decide), mdQ.of hD9 (hO9.trans hO1)⟩⟩ (by omega) (by omega) dX12_cut_18
set_option maxHeartbeats 4000000 in
set_option maxRecDepth 100000 in
theorem m_copy (l : Launch) (G : mq_G) (Mb : Nat → Nat) (hb : mb_inj Mb) (t0 : Int) (M : mq_M) (hD : mdI G M Mb t0) (i : Int) (hir : -2147483648 ≤ i ∧ i < 2147483648) (q : Int) (hqr : -2147483648 ≤ q ∧ q < 2147483648) : mq_T l yX12_copy wsX12_copy { frames := 3, cells := 0, slots := 0, locals := 63 } G [.ref (Mb 0), .int (zI i), .int (zI q)] M (mdR M Mb (1) (0)) 0 0 := by
  refine mq_Met.of (cc := cX12_copy) (maxL := 5) (ret := (some .int)) (by decide) rfl (Nat.le_of_ble_eq_true rfl) rfl rfl ?_
  intro p_ e_ s_ m_ args_ below_ meth_ c_ z_ C hr hlk hname
  refine xr_aload_n C dX12_copy_0 rfl ?_
  refine xr_iconst (n := 0) C dX12_copy_1 (by decide +kernel) ?_
  refine xr_put C (Cn := RX12) (T := TX12) (N := 25) (by decide +kernel) hD.1 rfl 0 (by decide) tyX12 tyX12_ok nmX12 (C.1.2.2.2.2 (.fieldLink RX12 59 "OssuaryVaultModel" "thrown" "I") (by decide +kernel)) (fun _ h => h) rfl (tyX12_ok 0 (by decide)) rfl rfl (Nat.le_of_ble_eq_true rfl) dX12_copy_2 ?_
  refine mq_ren (fun M1 hM1 => ?_)
  have hD1 : mdI G M1 Mb 0 := hD.th hb hM1
  have hO1 : M1 (Mb 39) = M (Mb 39) := by rw [hM1, mq_up_n (mb_ne hb (by decide) (by decide) (by decide))]
  refine xr_aload_n C dX12_copy_5 rfl ?_
  refine xr_iload_n C dX12_copy_6 rfl ?_
  refine xr_callV1i C (m_isVolume l G Mb hb 0 M1 hD1 i hir) (cwV 1 C.1.2.2.2.2 gX12_copy_X12_isVolume rfl rfl rfl (by decide +kernel) ⟨Nat.le_of_ble_eq_true rfl, Nat.le_of_ble_eq_true rfl⟩) hD1.1 rfl (Nat.le_of_ble_eq_true rfl) ⟨by dsimp only; omega, by dsimp only; omega⟩ dX12_copy_7 (fun r2 M9 hp9 => ?_)
  obtain ⟨rfl, rfl⟩ := hp9
  refine xr_if_eq C dX12_copy_10 rfl (by decide) (fun _ => ?_) (fun hq => absurd hq (by decide))
  refine xr_aload_n C dX12_copy_20 rfl ?_
  refine xr_iconst (n := 1) C dX12_copy_21 (by decide +kernel) ?_
  refine xr_callV1i C (m_no l G Mb hb 0 M1 hD1 1) (cwV 1 C.1.2.2.2.2 gX12_copy_X12_no rfl rfl rfl (by decide +kernel) ⟨Nat.le_of_ble_eq_true rfl, Nat.le_of_ble_eq_true rfl⟩) hD1.1 rfl (Nat.le_of_ble_eq_true rfl) ⟨by dsimp only; omega, by dsimp only; omega⟩ dX12_copy_22 (fun r9 M9 hp9 => ?_)
  obtain ⟨rfl, hD9, hO9⟩ := hp9
  exact xr_iret C hr hlk ⟨_, rfl, by exact ⟨fun h => absurd h (by decide), mdQ.of hD9 (hO9.trans hO1)⟩⟩ (by omega) (by omega) dX12_copy_25
set_option maxHeartbeats 4000000 in
set_option maxRecDepth 100000 in
theorem m_repair (l : Launch) (G : mq_G) (Mb : Nat → Nat) (hb : mb_inj Mb) (t0 : Int) (M : mq_M) (hD : mdI G M Mb t0)  : mq_T l yX12_repair wsX12_repair { frames := 5, cells := 0, slots := 0, locals := 124 } G [.ref (Mb 0)] M (mdR M Mb (1) (0)) 0 0 := by
  refine mq_Met.of (cc := cX12_repair) (maxL := 1) (ret := (some .int)) (by decide) rfl (Nat.le_of_ble_eq_true rfl) rfl rfl ?_
  intro p_ e_ s_ m_ args_ below_ meth_ c_ z_ C hr hlk hname
  refine xr_aload_n C dX12_repair_0 rfl ?_
  refine xr_iconst (n := 0) C dX12_repair_1 (by decide +kernel) ?_
  refine xr_put C (Cn := RX12) (T := TX12) (N := 25) (by decide +kernel) hD.1 rfl 0 (by decide) tyX12 tyX12_ok nmX12 (C.1.2.2.2.2 (.fieldLink RX12 59 "OssuaryVaultModel" "thrown" "I") (by decide +kernel)) (fun _ h => h) rfl (tyX12_ok 0 (by decide)) rfl rfl (Nat.le_of_ble_eq_true rfl) dX12_repair_2 ?_
  refine mq_ren (fun M1 hM1 => ?_)
  have hD1 : mdI G M1 Mb 0 := hD.th hb hM1
  have hO1 : M1 (Mb 39) = M (Mb 39) := by rw [hM1, mq_up_n (mb_ne hb (by decide) (by decide) (by decide))]
  refine xr_aload_n C dX12_repair_5 rfl ?_
  refine xr_get C (Cn := RX12) (T := TX12) (N := 25) (by decide +kernel) hD1.1 rfl 9 (by decide) (C.1.2.2.2.2 (.fieldLink RX12 164 "OssuaryVaultModel" "isOpen" "Z") (by decide +kernel)) (fun _ h => h) rfl dX12_repair_6 ?_
  refine xr_if_eq C dX12_repair_9 rfl (by decide) (fun _ => ?_) (fun hq => absurd hq (by decide))
  refine xr_aload_n C dX12_repair_31 rfl ?_
  refine xr_iconst (n := 1) C dX12_repair_32 (by decide +kernel) ?_
  refine xr_callV1i C (m_no l G Mb hb 0 M1 hD1 1) (cwV 1 C.1.2.2.2.2 gX12_repair_X12_no rfl rfl rfl (by decide +kernel) ⟨Nat.le_of_ble_eq_true rfl, Nat.le_of_ble_eq_true rfl⟩) hD1.1 rfl (Nat.le_of_ble_eq_true rfl) ⟨by dsimp only; omega, by dsimp only; omega⟩ dX12_repair_33 (fun r9 M9 hp9 => ?_)
  obtain ⟨rfl, hD9, hO9⟩ := hp9
  exact xr_iret C hr hlk ⟨_, rfl, by exact ⟨fun h => absurd h (by decide), mdQ.of hD9 (hO9.trans hO1)⟩⟩ (by omega) (by omega) dX12_repair_36
set_option maxHeartbeats 4000000 in
set_option maxRecDepth 100000 in
theorem m_opened (l : Launch) (G : mq_G) (Mb : Nat → Nat) (hb : mb_inj Mb) (t0 : Int) (M : mq_M) (hD : mdI G M Mb t0)  : mq_T l yX12_opened wsX12_opened { frames := 1, cells := 0, slots := 0, locals := 21 } G [.ref (Mb 0)] M (mdR M Mb (1) (0)) 0 0 := by
  refine mq_Met.of (cc := cX12_opened) (maxL := 1) (ret := (some .int)) (by decide) rfl (Nat.le_of_ble_eq_true rfl) rfl rfl ?_
  intro p_ e_ s_ m_ args_ below_ meth_ c_ z_ C hr hlk hname
  refine xr_aload_n C dX12_opened_0 rfl ?_
  refine xr_iconst (n := 0) C dX12_opened_1 (by decide +kernel) ?_
  refine xr_put C (Cn := RX12) (T := TX12) (N := 25) (by decide +kernel) hD.1 rfl 0 (by decide) tyX12 tyX12_ok nmX12 (C.1.2.2.2.2 (.fieldLink RX12 59 "OssuaryVaultModel" "thrown" "I") (by decide +kernel)) (fun _ h => h) rfl (tyX12_ok 0 (by decide)) rfl rfl (Nat.le_of_ble_eq_true rfl) dX12_opened_2 ?_
  refine mq_ren (fun M1 hM1 => ?_)
  have hD1 : mdI G M1 Mb 0 := hD.th hb hM1
  have hO1 : M1 (Mb 39) = M (Mb 39) := by rw [hM1, mq_up_n (mb_ne hb (by decide) (by decide) (by decide))]
  refine xr_aload_n C dX12_opened_5 rfl ?_
  refine xr_get C (Cn := RX12) (T := TX12) (N := 25) (by decide +kernel) hD1.1 rfl 9 (by decide) (C.1.2.2.2.2 (.fieldLink RX12 164 "OssuaryVaultModel" "isOpen" "Z") (by decide +kernel)) (fun _ h => h) rfl dX12_opened_6 ?_
  refine xr_if_eq C dX12_opened_9 rfl (by decide) (fun _ => ?_) (fun hq => absurd hq (by decide))
  refine xr_aload_n C dX12_opened_20 rfl ?_
  refine xr_iconst (n := 1) C dX12_opened_21 (by decide +kernel) ?_
  refine xr_callV1i C (m_no l G Mb hb 0 M1 hD1 1) (cwV 1 C.1.2.2.2.2 gX12_opened_X12_no rfl rfl rfl (by decide +kernel) ⟨Nat.le_of_ble_eq_true rfl, Nat.le_of_ble_eq_true rfl⟩) hD1.1 rfl (Nat.le_of_ble_eq_true rfl) ⟨by dsimp only; omega, by dsimp only; omega⟩ dX12_opened_22 (fun r9 M9 hp9 => ?_)
  obtain ⟨rfl, hD9, hO9⟩ := hp9
  exact xr_iret C hr hlk ⟨_, rfl, by exact ⟨fun h => absurd h (by decide), mdQ.of hD9 (hO9.trans hO1)⟩⟩ (by omega) (by omega) dX12_opened_25
set_option maxHeartbeats 4000000 in
set_option maxRecDepth 100000 in
theorem m_streamAt (l : Launch) (G : mq_G) (Mb : Nat → Nat) (hb : mb_inj Mb) (t0 : Int) (M : mq_M) (hD : mdI G M Mb t0) (i : Int) (hir : -2147483648 ≤ i ∧ i < 2147483648) : mq_T l yX12_streamAt wsX12_streamAt { frames := 1, cells := 0, slots := 0, locals := 22 } G [.ref (Mb 0), .int (zI i)] M (mdR M Mb (1) (0)) 0 0 := by
  refine mq_Met.of (cc := cX12_streamAt) (maxL := 2) (ret := (some .int)) (by decide) rfl (Nat.le_of_ble_eq_true rfl) rfl rfl ?_
  intro p_ e_ s_ m_ args_ below_ meth_ c_ z_ C hr hlk hname
  refine xr_aload_n C dX12_streamAt_0 rfl ?_
  refine xr_iconst (n := 0) C dX12_streamAt_1 (by decide +kernel) ?_
  refine xr_put C (Cn := RX12) (T := TX12) (N := 25) (by decide +kernel) hD.1 rfl 0 (by decide) tyX12 tyX12_ok nmX12 (C.1.2.2.2.2 (.fieldLink RX12 59 "OssuaryVaultModel" "thrown" "I") (by decide +kernel)) (fun _ h => h) rfl (tyX12_ok 0 (by decide)) rfl rfl (Nat.le_of_ble_eq_true rfl) dX12_streamAt_2 ?_
  refine mq_ren (fun M1 hM1 => ?_)
  have hD1 : mdI G M1 Mb 0 := hD.th hb hM1
  have hO1 : M1 (Mb 39) = M (Mb 39) := by rw [hM1, mq_up_n (mb_ne hb (by decide) (by decide) (by decide))]
  refine xr_aload_n C dX12_streamAt_5 rfl ?_
  refine xr_get C (Cn := RX12) (T := TX12) (N := 25) (by decide +kernel) hD1.1 rfl 9 (by decide) (C.1.2.2.2.2 (.fieldLink RX12 164 "OssuaryVaultModel" "isOpen" "Z") (by decide +kernel)) (fun _ h => h) rfl dX12_streamAt_6 ?_
  refine xr_if_ne C dX12_streamAt_9 rfl (by decide) (fun hq => absurd hq (by decide)) (fun _ => ?_)
  refine xr_aload_n C dX12_streamAt_12 rfl ?_
  refine xr_iconst (n := 1) C dX12_streamAt_13 (by decide +kernel) ?_
  refine xr_callV1i C (m_no l G Mb hb 0 M1 hD1 1) (cwV 1 C.1.2.2.2.2 gX12_streamAt_X12_no rfl rfl rfl (by decide +kernel) ⟨Nat.le_of_ble_eq_true rfl, Nat.le_of_ble_eq_true rfl⟩) hD1.1 rfl (Nat.le_of_ble_eq_true rfl) ⟨by dsimp only; omega, by dsimp only; omega⟩ dX12_streamAt_14 (fun r9 M9 hp9 => ?_)
  obtain ⟨rfl, hD9, hO9⟩ := hp9
  exact xr_iret C hr hlk ⟨_, rfl, by exact ⟨fun h => absurd h (by decide), mdQ.of hD9 (hO9.trans hO1)⟩⟩ (by omega) (by omega) dX12_streamAt_17
set_option maxHeartbeats 4000000 in
set_option maxRecDepth 100000 in
theorem m_hasIndex (l : Launch) (G : mq_G) (Mb : Nat → Nat) (hb : mb_inj Mb) (t0 : Int) (M : mq_M) (hD : mdI G M Mb t0)  : mq_T l yX12_hasIndex wsX12_hasIndex { frames := 1, cells := 0, slots := 0, locals := 21 } G [.ref (Mb 0)] M (mdR M Mb (1) (0)) 0 0 := by
  refine mq_Met.of (cc := cX12_hasIndex) (maxL := 1) (ret := (some .boolean)) (by decide) rfl (Nat.le_of_ble_eq_true rfl) rfl rfl ?_
  intro p_ e_ s_ m_ args_ below_ meth_ c_ z_ C hr hlk hname
  refine xr_aload_n C dX12_hasIndex_0 rfl ?_
  refine xr_iconst (n := 0) C dX12_hasIndex_1 (by decide +kernel) ?_
  refine xr_put C (Cn := RX12) (T := TX12) (N := 25) (by decide +kernel) hD.1 rfl 0 (by decide) tyX12 tyX12_ok nmX12 (C.1.2.2.2.2 (.fieldLink RX12 59 "OssuaryVaultModel" "thrown" "I") (by decide +kernel)) (fun _ h => h) rfl (tyX12_ok 0 (by decide)) rfl rfl (Nat.le_of_ble_eq_true rfl) dX12_hasIndex_2 ?_
  refine mq_ren (fun M1 hM1 => ?_)
  have hD1 : mdI G M1 Mb 0 := hD.th hb hM1
  have hO1 : M1 (Mb 39) = M (Mb 39) := by rw [hM1, mq_up_n (mb_ne hb (by decide) (by decide) (by decide))]
  refine xr_aload_n C dX12_hasIndex_5 rfl ?_
  refine xr_get C (Cn := RX12) (T := TX12) (N := 25) (by decide +kernel) hD1.1 rfl 9 (by decide) (C.1.2.2.2.2 (.fieldLink RX12 164 "OssuaryVaultModel" "isOpen" "Z") (by decide +kernel)) (fun _ h => h) rfl dX12_hasIndex_6 ?_
  refine xr_if_eq C dX12_hasIndex_9 rfl (by decide) (fun _ => ?_) (fun hq => absurd hq (by decide))
  refine xr_aload_n C dX12_hasIndex_19 rfl ?_
  refine xr_iconst (n := 1) C dX12_hasIndex_20 (by decide +kernel) ?_
  refine xr_callV1i C (m_isNot l G Mb hb 0 M1 hD1 1) (cwV 1 C.1.2.2.2.2 gX12_hasIndex_X12_isNot rfl rfl rfl (by decide +kernel) ⟨Nat.le_of_ble_eq_true rfl, Nat.le_of_ble_eq_true rfl⟩) hD1.1 rfl (Nat.le_of_ble_eq_true rfl) ⟨by dsimp only; omega, by dsimp only; omega⟩ dX12_hasIndex_21 (fun r9 M9 hp9 => ?_)
  obtain ⟨rfl, hD9, hO9⟩ := hp9
  exact xr_zret C hr (by decide +kernel) hlk ⟨_, rfl, by exact ⟨fun h => absurd h (by decide), mdQ.of hD9 (hO9.trans hO1)⟩⟩ (by omega) (by omega) dX12_hasIndex_24
set_option maxHeartbeats 4000000 in
set_option maxRecDepth 100000 in
theorem m_found (l : Launch) (G : mq_G) (Mb : Nat → Nat) (hb : mb_inj Mb) (t0 : Int) (M : mq_M) (hD : mdI G M Mb t0)  : mq_T l yX12_found wsX12_found { frames := 1, cells := 0, slots := 0, locals := 21 } G [.ref (Mb 0)] M (mdR M Mb (1) (0)) 0 0 := by
  refine mq_Met.of (cc := cX12_found) (maxL := 1) (ret := (some .int)) (by decide) rfl (Nat.le_of_ble_eq_true rfl) rfl rfl ?_
  intro p_ e_ s_ m_ args_ below_ meth_ c_ z_ C hr hlk hname
  refine xr_aload_n C dX12_found_0 rfl ?_
  refine xr_iconst (n := 0) C dX12_found_1 (by decide +kernel) ?_
  refine xr_put C (Cn := RX12) (T := TX12) (N := 25) (by decide +kernel) hD.1 rfl 0 (by decide) tyX12 tyX12_ok nmX12 (C.1.2.2.2.2 (.fieldLink RX12 59 "OssuaryVaultModel" "thrown" "I") (by decide +kernel)) (fun _ h => h) rfl (tyX12_ok 0 (by decide)) rfl rfl (Nat.le_of_ble_eq_true rfl) dX12_found_2 ?_
  refine mq_ren (fun M1 hM1 => ?_)
  have hD1 : mdI G M1 Mb 0 := hD.th hb hM1
  have hO1 : M1 (Mb 39) = M (Mb 39) := by rw [hM1, mq_up_n (mb_ne hb (by decide) (by decide) (by decide))]
  refine xr_aload_n C dX12_found_5 rfl ?_
  refine xr_get C (Cn := RX12) (T := TX12) (N := 25) (by decide +kernel) hD1.1 rfl 9 (by decide) (C.1.2.2.2.2 (.fieldLink RX12 164 "OssuaryVaultModel" "isOpen" "Z") (by decide +kernel)) (fun _ h => h) rfl dX12_found_6 ?_
  refine xr_if_eq C dX12_found_9 rfl (by decide) (fun _ => ?_) (fun hq => absurd hq (by decide))
  refine xr_aload_n C dX12_found_19 rfl ?_
  refine xr_iconst (n := 1) C dX12_found_20 (by decide +kernel) ?_
  refine xr_callV1i C (m_no l G Mb hb 0 M1 hD1 1) (cwV 1 C.1.2.2.2.2 gX12_found_X12_no rfl rfl rfl (by decide +kernel) ⟨Nat.le_of_ble_eq_true rfl, Nat.le_of_ble_eq_true rfl⟩) hD1.1 rfl (Nat.le_of_ble_eq_true rfl) ⟨by dsimp only; omega, by dsimp only; omega⟩ dX12_found_21 (fun r9 M9 hp9 => ?_)
  obtain ⟨rfl, hD9, hO9⟩ := hp9
  exact xr_iret C hr hlk ⟨_, rfl, by exact ⟨fun h => absurd h (by decide), mdQ.of hD9 (hO9.trans hO1)⟩⟩ (by omega) (by omega) dX12_found_24
set_option maxHeartbeats 4000000 in
set_option maxRecDepth 100000 in
theorem m_restore (l : Launch) (G : mq_G) (Mb : Nat → Nat) (hb : mb_inj Mb) (t0 : Int) (M : mq_M) (hD : mdI G M Mb t0)  : mq_T l yX12_restore wsX12_restore { frames := 3, cells := 0, slots := 0, locals := 71 } G [.ref (Mb 0)] M (mdR M Mb (1) (0)) 0 0 := by
  refine mq_Met.of (cc := cX12_restore) (maxL := 3) (ret := (some .int)) (by decide) rfl (Nat.le_of_ble_eq_true rfl) rfl rfl ?_
  intro p_ e_ s_ m_ args_ below_ meth_ c_ z_ C hr hlk hname
  refine xr_aload_n C dX12_restore_0 rfl ?_
  refine xr_iconst (n := 0) C dX12_restore_1 (by decide +kernel) ?_
  refine xr_put C (Cn := RX12) (T := TX12) (N := 25) (by decide +kernel) hD.1 rfl 0 (by decide) tyX12 tyX12_ok nmX12 (C.1.2.2.2.2 (.fieldLink RX12 59 "OssuaryVaultModel" "thrown" "I") (by decide +kernel)) (fun _ h => h) rfl (tyX12_ok 0 (by decide)) rfl rfl (Nat.le_of_ble_eq_true rfl) dX12_restore_2 ?_
  refine mq_ren (fun M1 hM1 => ?_)
  have hD1 : mdI G M1 Mb 0 := hD.th hb hM1
  have hO1 : M1 (Mb 39) = M (Mb 39) := by rw [hM1, mq_up_n (mb_ne hb (by decide) (by decide) (by decide))]
  refine xr_aload_n C dX12_restore_5 rfl ?_
  refine xr_get C (Cn := RX12) (T := TX12) (N := 25) (by decide +kernel) hD1.1 rfl 9 (by decide) (C.1.2.2.2.2 (.fieldLink RX12 164 "OssuaryVaultModel" "isOpen" "Z") (by decide +kernel)) (fun _ h => h) rfl dX12_restore_6 ?_
  refine xr_if_ne C dX12_restore_9 rfl (by decide) (fun hq => absurd hq (by decide)) (fun _ => ?_)
  refine xr_aload_n C dX12_restore_12 rfl ?_
  refine xr_iconst (n := 1) C dX12_restore_13 (by decide +kernel) ?_
  refine xr_callV1i C (m_no l G Mb hb 0 M1 hD1 1) (cwV 1 C.1.2.2.2.2 gX12_restore_X12_no rfl rfl rfl (by decide +kernel) ⟨Nat.le_of_ble_eq_true rfl, Nat.le_of_ble_eq_true rfl⟩) hD1.1 rfl (Nat.le_of_ble_eq_true rfl) ⟨by dsimp only; omega, by dsimp only; omega⟩ dX12_restore_14 (fun r9 M9 hp9 => ?_)
  obtain ⟨rfl, hD9, hO9⟩ := hp9
  exact xr_iret C hr hlk ⟨_, rfl, by exact ⟨fun h => absurd h (by decide), mdQ.of hD9 (hO9.trans hO1)⟩⟩ (by omega) (by omega) dX12_restore_17
set_option maxHeartbeats 4000000 in
set_option maxRecDepth 100000 in
theorem m_ofFound (l : Launch) (G : mq_G) (Mb : Nat → Nat) (hb : mb_inj Mb) (t0 : Int) (M : mq_M) (hD : mdI G M Mb t0) (i : Int) (hir : -2147483648 ≤ i ∧ i < 2147483648) (x : Nat) : mq_T l yX12_ofFound wsX12_ofFound { frames := 1, cells := 0, slots := 0, locals := 22 } G [.ref (Mb 0), .int (zI i), .ref x] M (mq_pi (fun r M2 => r = 0 ∧ mdI G M2 Mb 1 ∧ M2 (Mb 39) = M (Mb 39))) 0 0 := by
  refine mq_Met.of (cc := cX12_ofFound) (maxL := 3) (ret := (some .int)) (by decide) rfl (Nat.le_of_ble_eq_true rfl) rfl rfl ?_
  intro p_ e_ s_ m_ args_ below_ meth_ c_ z_ C hr hlk hname
  refine xr_aload_n C dX12_ofFound_0 rfl ?_
  refine xr_iconst (n := 0) C dX12_ofFound_1 (by decide +kernel) ?_
  refine xr_put C (Cn := RX12) (T := TX12) (N := 25) (by decide +kernel) hD.1 rfl 0 (by decide) tyX12 tyX12_ok nmX12 (C.1.2.2.2.2 (.fieldLink RX12 59 "OssuaryVaultModel" "thrown" "I") (by decide +kernel)) (fun _ h => h) rfl (tyX12_ok 0 (by decide)) rfl rfl (Nat.le_of_ble_eq_true rfl) dX12_ofFound_2 ?_
  refine mq_ren (fun M1 hM1 => ?_)
  have hD1 : mdI G M1 Mb 0 := hD.th hb hM1
  have hO1 : M1 (Mb 39) = M (Mb 39) := by rw [hM1, mq_up_n (mb_ne hb (by decide) (by decide) (by decide))]
  refine xr_aload_n C dX12_ofFound_5 rfl ?_
  refine xr_get C (Cn := RX12) (T := TX12) (N := 25) (by decide +kernel) hD1.1 rfl 9 (by decide) (C.1.2.2.2.2 (.fieldLink RX12 164 "OssuaryVaultModel" "isOpen" "Z") (by decide +kernel)) (fun _ h => h) rfl dX12_ofFound_6 ?_
  refine xr_if_ne C dX12_ofFound_9 rfl (by decide) (fun hq => absurd hq (by decide)) (fun _ => ?_)
  refine xr_aload_n C dX12_ofFound_12 rfl ?_
  refine xr_iconst (n := 1) C dX12_ofFound_13 (by decide +kernel) ?_
  refine xr_callV1i C (m_no l G Mb hb 0 M1 hD1 1) (cwV 1 C.1.2.2.2.2 gX12_ofFound_X12_no rfl rfl rfl (by decide +kernel) ⟨Nat.le_of_ble_eq_true rfl, Nat.le_of_ble_eq_true rfl⟩) hD1.1 rfl (Nat.le_of_ble_eq_true rfl) ⟨by dsimp only; omega, by dsimp only; omega⟩ dX12_ofFound_14 (fun r9 M9 hp9 => ?_)
  obtain ⟨rfl, hD9, hO9⟩ := hp9
  exact xr_iret C hr hlk ⟨_, rfl, rfl, hD9, hO9.trans hO1⟩ (by omega) (by omega) dX12_ofFound_17
set_option maxHeartbeats 4000000 in
set_option maxRecDepth 100000 in
theorem m_keyFound (l : Launch) (G : mq_G) (Mb : Nat → Nat) (hb : mb_inj Mb) (t0 : Int) (M : mq_M) (hD : mdI G M Mb t0) (i : Int) (hir : -2147483648 ≤ i ∧ i < 2147483648) : mq_T l yX12_keyFound wsX12_keyFound { frames := 2, cells := 0, slots := 0, locals := 44 } G [.ref (Mb 0), .int (zI i)] M (mdR M Mb (1) (0)) 0 0 := by
  refine mq_Met.of (cc := cX12_keyFound) (maxL := 2) (ret := (some .int)) (by decide) rfl (Nat.le_of_ble_eq_true rfl) rfl rfl ?_
  intro p_ e_ s_ m_ args_ below_ meth_ c_ z_ C hr hlk hname
  refine xr_aload_n C dX12_keyFound_0 rfl ?_
  refine xr_iload_n C dX12_keyFound_1 rfl ?_
  refine xr_aload_n C dX12_keyFound_2 rfl ?_
  refine xr_get C (Cn := RX12) (T := TX12) (N := 25) (by decide +kernel) hD.1 rfl 15 (by decide) (C.1.2.2.2.2 (.fieldLink RX12 34 "OssuaryVaultModel" "keysFound" "[I") (by decide +kernel)) (fun _ h => h) rfl dX12_keyFound_3 ?_
  refine xr_callV2i C (m_ofFound l G Mb hb t0 M hD i hir (Mb 8)) (cwV 2 C.1.2.2.2.2 gX12_keyFound_X12_ofFound rfl rfl rfl (by decide +kernel) ⟨Nat.le_of_ble_eq_true rfl, Nat.le_of_ble_eq_true rfl⟩) hD.1 rfl (Nat.le_of_ble_eq_true rfl) ⟨by dsimp only; omega, by dsimp only; omega⟩ dX12_keyFound_6 (fun r9 M9 hp9 => ?_)
  obtain ⟨rfl, hD9, hO9⟩ := hp9
  exact xr_iret C hr hlk ⟨_, rfl, fun h => absurd h (by decide), mdQ.of hD9 hO9⟩ (by omega) (by omega) dX12_keyFound_9
set_option maxHeartbeats 4000000 in
set_option maxRecDepth 100000 in
theorem m_placeFound (l : Launch) (G : mq_G) (Mb : Nat → Nat) (hb : mb_inj Mb) (t0 : Int) (M : mq_M) (hD : mdI G M Mb t0) (i : Int) (hir : -2147483648 ≤ i ∧ i < 2147483648) : mq_T l yX12_placeFound wsX12_placeFound { frames := 2, cells := 0, slots := 0, locals := 44 } G [.ref (Mb 0), .int (zI i)] M (mdR M Mb (1) (0)) 0 0 := by
  refine mq_Met.of (cc := cX12_placeFound) (maxL := 2) (ret := (some .int)) (by decide) rfl (Nat.le_of_ble_eq_true rfl) rfl rfl ?_
  intro p_ e_ s_ m_ args_ below_ meth_ c_ z_ C hr hlk hname
  refine xr_aload_n C dX12_placeFound_0 rfl ?_
  refine xr_iload_n C dX12_placeFound_1 rfl ?_
  refine xr_aload_n C dX12_placeFound_2 rfl ?_
  refine xr_get C (Cn := RX12) (T := TX12) (N := 25) (by decide +kernel) hD.1 rfl 16 (by decide) (C.1.2.2.2.2 (.fieldLink RX12 37 "OssuaryVaultModel" "placesFound" "[I") (by decide +kernel)) (fun _ h => h) rfl dX12_placeFound_3 ?_
  refine xr_callV2i C (m_ofFound l G Mb hb t0 M hD i hir (Mb 9)) (cwV 2 C.1.2.2.2.2 gX12_placeFound_X12_ofFound rfl rfl rfl (by decide +kernel) ⟨Nat.le_of_ble_eq_true rfl, Nat.le_of_ble_eq_true rfl⟩) hD.1 rfl (Nat.le_of_ble_eq_true rfl) ⟨by dsimp only; omega, by dsimp only; omega⟩ dX12_placeFound_6 (fun r9 M9 hp9 => ?_)
  obtain ⟨rfl, hD9, hO9⟩ := hp9
  exact xr_iret C hr hlk ⟨_, rfl, fun h => absurd h (by decide), mdQ.of hD9 hO9⟩ (by omega) (by omega) dX12_placeFound_9
set_option maxHeartbeats 4000000 in
set_option maxRecDepth 100000 in
theorem m_lengthFound (l : Launch) (G : mq_G) (Mb : Nat → Nat) (hb : mb_inj Mb) (t0 : Int) (M : mq_M) (hD : mdI G M Mb t0) (i : Int) (hir : -2147483648 ≤ i ∧ i < 2147483648) : mq_T l yX12_lengthFound wsX12_lengthFound { frames := 2, cells := 0, slots := 0, locals := 44 } G [.ref (Mb 0), .int (zI i)] M (mdR M Mb (1) (0)) 0 0 := by
  refine mq_Met.of (cc := cX12_lengthFound) (maxL := 2) (ret := (some .int)) (by decide) rfl (Nat.le_of_ble_eq_true rfl) rfl rfl ?_
  intro p_ e_ s_ m_ args_ below_ meth_ c_ z_ C hr hlk hname
  refine xr_aload_n C dX12_lengthFound_0 rfl ?_
  refine xr_iload_n C dX12_lengthFound_1 rfl ?_
  refine xr_aload_n C dX12_lengthFound_2 rfl ?_
  refine xr_get C (Cn := RX12) (T := TX12) (N := 25) (by decide +kernel) hD.1 rfl 18 (by decide) (C.1.2.2.2.2 (.fieldLink RX12 43 "OssuaryVaultModel" "lengthsFound" "[I") (by decide +kernel)) (fun _ h => h) rfl dX12_lengthFound_3 ?_
  refine xr_callV2i C (m_ofFound l G Mb hb t0 M hD i hir (Mb 11)) (cwV 2 C.1.2.2.2.2 gX12_lengthFound_X12_ofFound rfl rfl rfl (by decide +kernel) ⟨Nat.le_of_ble_eq_true rfl, Nat.le_of_ble_eq_true rfl⟩) hD.1 rfl (Nat.le_of_ble_eq_true rfl) ⟨by dsimp only; omega, by dsimp only; omega⟩ dX12_lengthFound_6 (fun r9 M9 hp9 => ?_)
  obtain ⟨rfl, hD9, hO9⟩ := hp9
  exact xr_iret C hr hlk ⟨_, rfl, fun h => absurd h (by decide), mdQ.of hD9 hO9⟩ (by omega) (by omega) dX12_lengthFound_9
set_option maxHeartbeats 4000000 in
set_option maxRecDepth 100000 in
theorem m_isGood (l : Launch) (G : mq_G) (Mb : Nat → Nat) (hb : mb_inj Mb) (t0 : Int) (M : mq_M) (hD : mdI G M Mb t0) (i : Int) (hir : -2147483648 ≤ i ∧ i < 2147483648) : mq_T l yX12_isGood wsX12_isGood { frames := 2, cells := 0, slots := 0, locals := 44 } G [.ref (Mb 0), .int (zI i)] M (mdR M Mb (1) (0)) 0 0 := by
  refine mq_Met.of (cc := cX12_isGood) (maxL := 3) (ret := (some .boolean)) (by decide) rfl (Nat.le_of_ble_eq_true rfl) rfl rfl ?_
  intro p_ e_ s_ m_ args_ below_ meth_ c_ z_ C hr hlk hname
  refine xr_aload_n C dX12_isGood_0 rfl ?_
  refine xr_iload_n C dX12_isGood_1 rfl ?_
  refine xr_aload_n C dX12_isGood_2 rfl ?_
  refine xr_get C (Cn := RX12) (T := TX12) (N := 25) (by decide +kernel) hD.1 rfl 18 (by decide) (C.1.2.2.2.2 (.fieldLink RX12 43 "OssuaryVaultModel" "lengthsFound" "[I") (by decide +kernel)) (fun _ h => h) rfl dX12_isGood_3 ?_
  refine xr_callV2i C (m_ofFound l G Mb hb t0 M hD i hir (Mb 11)) (cwV 2 C.1.2.2.2.2 gX12_isGood_X12_ofFound rfl rfl rfl (by decide +kernel) ⟨Nat.le_of_ble_eq_true rfl, Nat.le_of_ble_eq_true rfl⟩) hD.1 rfl (Nat.le_of_ble_eq_true rfl) ⟨by dsimp only; omega, by dsimp only; omega⟩ dX12_isGood_6 (fun r9 M9 hp9 => ?_)
  obtain ⟨rfl, hD9, hO9⟩ := hp9
  refine xr_istore_n C dX12_isGood_9 (by decide) rfl ?_
  refine xr_aload_n C dX12_isGood_10 rfl ?_
  refine xr_get C (Cn := RX12) (T := TX12) (N := 25) (by decide +kernel) hD9.1 rfl 0 (by decide) (C.1.2.2.2.2 (.fieldLink RX12 59 "OssuaryVaultModel" "thrown" "I") (by decide +kernel)) (fun _ h => h) rfl dX12_isGood_11 ?_
  refine xr_if_ne C dX12_isGood_14 rfl (by decide) (fun _ => ?_) (fun hq => absurd hq (by decide))
  refine xr_iconst (n := 0) C dX12_isGood_26 (by decide +kernel) ?_
  exact xr_zret C hr (by decide +kernel) hlk ⟨_, rfl, fun h => absurd h (by decide), mdQ.of hD9 hO9⟩ (by omega) (by omega) dX12_isGood_27
set_option maxHeartbeats 4000000 in
set_option maxRecDepth 100000 in
theorem m_byteFound (l : Launch) (G : mq_G) (Mb : Nat → Nat) (hb : mb_inj Mb) (t0 : Int) (M : mq_M) (hD : mdI G M Mb t0) (i : Int) (hir : -2147483648 ≤ i ∧ i < 2147483648) (q : Int) (hqr : -2147483648 ≤ q ∧ q < 2147483648) : mq_T l yX12_byteFound wsX12_byteFound { frames := 3, cells := 0, slots := 0, locals := 71 } G [.ref (Mb 0), .int (zI i), .int (zI q)] M (mdR M Mb (1) (0)) 0 0 := by
  refine mq_Met.of (cc := cX12_byteFound) (maxL := 4) (ret := (some .int)) (by decide) rfl (Nat.le_of_ble_eq_true rfl) rfl rfl ?_
  intro p_ e_ s_ m_ args_ below_ meth_ c_ z_ C hr hlk hname
  refine xr_aload_n C dX12_byteFound_0 rfl ?_
  refine xr_iload_n C dX12_byteFound_1 rfl ?_
  refine xr_aload_n C dX12_byteFound_2 rfl ?_
  refine xr_get C (Cn := RX12) (T := TX12) (N := 25) (by decide +kernel) hD.1 rfl 18 (by decide) (C.1.2.2.2.2 (.fieldLink RX12 43 "OssuaryVaultModel" "lengthsFound" "[I") (by decide +kernel)) (fun _ h => h) rfl dX12_byteFound_3 ?_
  refine xr_callV2i C (m_ofFound l G Mb hb t0 M hD i hir (Mb 11)) (cwV 2 C.1.2.2.2.2 gX12_byteFound_X12_ofFound rfl rfl rfl (by decide +kernel) ⟨Nat.le_of_ble_eq_true rfl, Nat.le_of_ble_eq_true rfl⟩) hD.1 rfl (Nat.le_of_ble_eq_true rfl) ⟨by dsimp only; omega, by dsimp only; omega⟩ dX12_byteFound_6 (fun r9 M9 hp9 => ?_)
  obtain ⟨rfl, hD9, hO9⟩ := hp9
  refine xr_istore_n C dX12_byteFound_9 (by decide) rfl ?_
  refine xr_aload_n C dX12_byteFound_10 rfl ?_
  refine xr_get C (Cn := RX12) (T := TX12) (N := 25) (by decide +kernel) hD9.1 rfl 0 (by decide) (C.1.2.2.2.2 (.fieldLink RX12 59 "OssuaryVaultModel" "thrown" "I") (by decide +kernel)) (fun _ h => h) rfl dX12_byteFound_11 ?_
  refine xr_if_eq C dX12_byteFound_14 rfl (by decide) (fun hq => absurd hq (by decide)) (fun _ => ?_)
  refine xr_iconst (n := 0) C dX12_byteFound_17 (by decide +kernel) ?_
  exact xr_iret C hr hlk ⟨_, rfl, fun h => absurd h (by decide), mdQ.of hD9 hO9⟩ (by omega) (by omega) dX12_byteFound_18
set_option maxHeartbeats 4000000 in
set_option maxRecDepth 100000 in
theorem m_product (l : Launch) (G : mq_G) (Mb : Nat → Nat) (hb : mb_inj Mb) (t0 : Int) (M : mq_M) (hD : mdI G M Mb t0) (a : Int) (har : -2147483648 ≤ a ∧ a < 2147483648) (b : Int) (hbr : -2147483648 ≤ b ∧ b < 2147483648) : mq_T l yX12_product wsX12_product { frames := 1, cells := 0, slots := 0, locals := 24 } G [.ref (Mb 0), .int (zI a), .int (zI b)] M (mdR M Mb (if (0 ≤ a ∧ a ≤ 255) ∧ (0 ≤ b ∧ b ≤ 255) then 0 else 1) ((gfM a.toNat b.toNat : Nat))) 0 0 := by
  refine mq_Met.of (cc := cX12_product) (maxL := 3) (ret := (some .int)) (by decide) rfl (Nat.le_of_ble_eq_true rfl) rfl rfl ?_
  intro p_ e_ s_ m_ args_ below_ meth_ c_ z_ C hr hlk hname
  refine xr_aload_n C dX12_product_0 rfl ?_
  refine xr_iconst (n := 0) C dX12_product_1 (by decide +kernel) ?_
  refine xr_put C (Cn := RX12) (T := TX12) (N := 25) (by decide +kernel) hD.1 rfl 0 (by decide) tyX12 tyX12_ok nmX12 (C.1.2.2.2.2 (.fieldLink RX12 59 "OssuaryVaultModel" "thrown" "I") (by decide +kernel)) (fun _ h => h) rfl (tyX12_ok 0 (by decide)) rfl rfl (Nat.le_of_ble_eq_true rfl) dX12_product_2 ?_
  refine mq_ren (fun M1 hM1 => ?_)
  have hD1 : mdI G M1 Mb 0 := hD.th hb hM1
  have hO1 : M1 (Mb 39) = M (Mb 39) := by rw [hM1, mq_up_n (mb_ne hb (by decide) (by decide) (by decide))]
  refine xr_iload_n C dX12_product_5 rfl ?_
  refine xr_iconst (n := 0) C dX12_product_6 (by decide +kernel) ?_
  refine xr_sipush (n := 255) C dX12_product_7 (by decide +kernel) ?_
  refine xr_callS3i C (m_isIn l G M1 a har 0 (by decide) 255 (by decide)) (cwS 3 C.1.2.2.2.2 gX12_product_X12_isIn rfl rfl rfl (by decide +kernel) ⟨Nat.le_of_ble_eq_true rfl, Nat.le_of_ble_eq_true rfl⟩) (Nat.le_of_ble_eq_true rfl) ⟨by dsimp only; omega, by dsimp only; omega⟩ dX12_product_10 (fun r2 M9 hp9 => ?_)
  obtain ⟨rfl, rfl⟩ := hp9
  by_cases hc0 : 0 ≤ a ∧ a ≤ 255
  · rw [show (if 0 ≤ a ∧ a ≤ 255 then (1 : Int) else 0) = 1 from if_pos hc0]
    refine xr_if_eq C dX12_product_13 rfl (by decide) (fun hq => absurd hq (by decide)) (fun _ => ?_)
    refine xr_iload_n C dX12_product_16 rfl ?_
    refine xr_iconst (n := 0) C dX12_product_17 (by decide +kernel) ?_
    refine xr_sipush (n := 255) C dX12_product_18 (by decide +kernel) ?_
    refine xr_callS3i C (m_isIn l G M1 b hbr 0 (by decide) 255 (by decide)) (cwS 3 C.1.2.2.2.2 gX12_product_X12_isIn rfl rfl rfl (by decide +kernel) ⟨Nat.le_of_ble_eq_true rfl, Nat.le_of_ble_eq_true rfl⟩) (Nat.le_of_ble_eq_true rfl) ⟨by dsimp only; omega, by dsimp only; omega⟩ dX12_product_21 (fun r3 M9 hp9 => ?_)
    obtain ⟨rfl, rfl⟩ := hp9
    by_cases hc1 : 0 ≤ b ∧ b ≤ 255
    · rw [show (if 0 ≤ b ∧ b ≤ 255 then (1 : Int) else 0) = 1 from if_pos hc1]
      refine xr_if_eq C dX12_product_24 rfl (by decide) (fun hq => absurd hq (by decide)) (fun _ => ?_)
      obtain ⟨a, rfl⟩ := Int.eq_ofNat_of_zero_le (show 0 ≤ a by omega)
      obtain ⟨b, rfl⟩ := Int.eq_ofNat_of_zero_le (show 0 ≤ b by omega)
      refine xr_iload_n C dX12_product_27 rfl ?_
      refine xr_iload_n C dX12_product_28 rfl ?_
      refine xr_callS2i C (m_times l G M1 a b (by omega) (by omega)) (cwS 2 C.1.2.2.2.2 gX12_product_X12_times rfl rfl rfl (by decide +kernel) ⟨Nat.le_of_ble_eq_true rfl, Nat.le_of_ble_eq_true rfl⟩) (Nat.le_of_ble_eq_true rfl) ⟨by dsimp only; omega, by dsimp only; omega⟩ dX12_product_29 (fun r4 M9 hp9 => ?_)
      obtain ⟨rfl, rfl⟩ := hp9
      refine xr_goto C dX12_product_32 rfl ?_
      exact xr_iret C hr hlk ⟨_, rfl, by rw [if_pos (by omega)]; exact ⟨fun _ => by simp, mdQ.of hD1 hO1⟩⟩ (by omega) (by omega) dX12_product_40
    · rw [show (if 0 ≤ b ∧ b ≤ 255 then (1 : Int) else 0) = 0 from if_neg hc1]
      refine xr_if_eq C dX12_product_24 rfl (by decide) (fun _ => ?_) (fun hq => absurd hq (by decide))
      refine xr_aload_n C dX12_product_35 rfl ?_
      refine xr_iconst (n := 1) C dX12_product_36 (by decide +kernel) ?_
      refine xr_callV1i C (m_no l G Mb hb 0 M1 hD1 1) (cwV 1 C.1.2.2.2.2 gX12_product_X12_no rfl rfl rfl (by decide +kernel) ⟨Nat.le_of_ble_eq_true rfl, Nat.le_of_ble_eq_true rfl⟩) hD1.1 rfl (Nat.le_of_ble_eq_true rfl) ⟨by dsimp only; omega, by dsimp only; omega⟩ dX12_product_37 (fun r9 M9 hp9 => ?_)
      obtain ⟨rfl, hD9, hO9⟩ := hp9
      exact xr_iret C hr hlk ⟨_, rfl, by rw [if_neg (by omega)]; exact ⟨fun h => absurd h (by decide), mdQ.of hD9 (hO9.trans hO1)⟩⟩ (by omega) (by omega) dX12_product_40
  · rw [show (if 0 ≤ a ∧ a ≤ 255 then (1 : Int) else 0) = 0 from if_neg hc0]
    refine xr_if_eq C dX12_product_13 rfl (by decide) (fun _ => ?_) (fun hq => absurd hq (by decide))
    refine xr_aload_n C dX12_product_35 rfl ?_
    refine xr_iconst (n := 1) C dX12_product_36 (by decide +kernel) ?_
    refine xr_callV1i C (m_no l G Mb hb 0 M1 hD1 1) (cwV 1 C.1.2.2.2.2 gX12_product_X12_no rfl rfl rfl (by decide +kernel) ⟨Nat.le_of_ble_eq_true rfl, Nat.le_of_ble_eq_true rfl⟩) hD1.1 rfl (Nat.le_of_ble_eq_true rfl) ⟨by dsimp only; omega, by dsimp only; omega⟩ dX12_product_37 (fun r9 M9 hp9 => ?_)
    obtain ⟨rfl, hD9, hO9⟩ := hp9
    exact xr_iret C hr hlk ⟨_, rfl, by rw [if_neg (by omega)]; exact ⟨fun h => absurd h (by decide), mdQ.of hD9 (hO9.trans hO1)⟩⟩ (by omega) (by omega) dX12_product_40
set_option maxHeartbeats 4000000 in
set_option maxRecDepth 100000 in
theorem m_inverse (l : Launch) (G : mq_G) (Mb : Nat → Nat) (hb : mb_inj Mb) (t0 : Int) (M : mq_M) (hD : mdI G M Mb t0) (a : Int) (har : -2147483648 ≤ a ∧ a < 2147483648) : mq_T l yX12_inverse wsX12_inverse { frames := 2, cells := 0, slots := 0, locals := 45 } G [.ref (Mb 0), .int (zI a)] M (mdR M Mb (if 1 ≤ a ∧ a ≤ 255 then 0 else 1) ((gfI a.toNat : Nat))) 0 0 := by
  refine mq_Met.of (cc := cX12_inverse) (maxL := 2) (ret := (some .int)) (by decide) rfl (Nat.le_of_ble_eq_true rfl) rfl rfl ?_
  intro p_ e_ s_ m_ args_ below_ meth_ c_ z_ C hr hlk hname
  refine xr_aload_n C dX12_inverse_0 rfl ?_
  refine xr_iconst (n := 0) C dX12_inverse_1 (by decide +kernel) ?_
  refine xr_put C (Cn := RX12) (T := TX12) (N := 25) (by decide +kernel) hD.1 rfl 0 (by decide) tyX12 tyX12_ok nmX12 (C.1.2.2.2.2 (.fieldLink RX12 59 "OssuaryVaultModel" "thrown" "I") (by decide +kernel)) (fun _ h => h) rfl (tyX12_ok 0 (by decide)) rfl rfl (Nat.le_of_ble_eq_true rfl) dX12_inverse_2 ?_
  refine mq_ren (fun M1 hM1 => ?_)
  have hD1 : mdI G M1 Mb 0 := hD.th hb hM1
  have hO1 : M1 (Mb 39) = M (Mb 39) := by rw [hM1, mq_up_n (mb_ne hb (by decide) (by decide) (by decide))]
  refine xr_iload_n C dX12_inverse_5 rfl ?_
  refine xr_iconst (n := 1) C dX12_inverse_6 (by decide +kernel) ?_
  refine xr_sipush (n := 255) C dX12_inverse_7 (by decide +kernel) ?_
  refine xr_callS3i C (m_isIn l G M1 a har 1 (by decide) 255 (by decide)) (cwS 3 C.1.2.2.2.2 gX12_inverse_X12_isIn rfl rfl rfl (by decide +kernel) ⟨Nat.le_of_ble_eq_true rfl, Nat.le_of_ble_eq_true rfl⟩) (Nat.le_of_ble_eq_true rfl) ⟨by dsimp only; omega, by dsimp only; omega⟩ dX12_inverse_10 (fun r2 M9 hp9 => ?_)
  obtain ⟨rfl, rfl⟩ := hp9
  by_cases hc0 : 1 ≤ a ∧ a ≤ 255
  · rw [show (if 1 ≤ a ∧ a ≤ 255 then (1 : Int) else 0) = 1 from if_pos hc0]
    refine xr_if_eq C dX12_inverse_13 rfl (by decide) (fun hq => absurd hq (by decide)) (fun _ => ?_)
    obtain ⟨a, rfl⟩ := Int.eq_ofNat_of_zero_le (show 0 ≤ a by omega)
    refine xr_iload_n C dX12_inverse_16 rfl ?_
    refine xr_callS1i C (m_inverseOf l G M1 a (by omega)) (cwS 1 C.1.2.2.2.2 gX12_inverse_X12_inverseOf rfl rfl rfl (by decide +kernel) ⟨Nat.le_of_ble_eq_true rfl, Nat.le_of_ble_eq_true rfl⟩) (Nat.le_of_ble_eq_true rfl) ⟨by dsimp only; omega, by dsimp only; omega⟩ dX12_inverse_17 (fun r3 M9 hp9 => ?_)
    obtain ⟨rfl, rfl⟩ := hp9
    refine xr_goto C dX12_inverse_20 rfl ?_
    exact xr_iret C hr hlk ⟨_, rfl, by rw [if_pos (by omega)]; exact ⟨fun _ => by simp, mdQ.of hD1 hO1⟩⟩ (by omega) (by omega) dX12_inverse_28
  · rw [show (if 1 ≤ a ∧ a ≤ 255 then (1 : Int) else 0) = 0 from if_neg hc0]
    refine xr_if_eq C dX12_inverse_13 rfl (by decide) (fun _ => ?_) (fun hq => absurd hq (by decide))
    refine xr_aload_n C dX12_inverse_23 rfl ?_
    refine xr_iconst (n := 1) C dX12_inverse_24 (by decide +kernel) ?_
    refine xr_callV1i C (m_no l G Mb hb 0 M1 hD1 1) (cwV 1 C.1.2.2.2.2 gX12_inverse_X12_no rfl rfl rfl (by decide +kernel) ⟨Nat.le_of_ble_eq_true rfl, Nat.le_of_ble_eq_true rfl⟩) hD1.1 rfl (Nat.le_of_ble_eq_true rfl) ⟨by dsimp only; omega, by dsimp only; omega⟩ dX12_inverse_25 (fun r9 M9 hp9 => ?_)
    obtain ⟨rfl, hD9, hO9⟩ := hp9
    exact xr_iret C hr hlk ⟨_, rfl, by rw [if_neg (by omega)]; exact ⟨fun h => absurd h (by decide), mdQ.of hD9 (hO9.trans hO1)⟩⟩ (by omega) (by omega) dX12_inverse_28
set_option maxHeartbeats 4000000 in
set_option maxRecDepth 100000 in
theorem m_power (l : Launch) (G : mq_G) (Mb : Nat → Nat) (hb : mb_inj Mb) (t0 : Int) (M : mq_M) (hD : mdI G M Mb t0) (a : Int) (har : -2147483648 ≤ a ∧ a < 2147483648) (n : Int) (hnr : -2147483648 ≤ n ∧ n < 2147483648) : mq_T l yX12_power wsX12_power { frames := 1, cells := 0, slots := 0, locals := 24 } G [.ref (Mb 0), .int (zI a), .int (zI n)] M (mdR M Mb (if (0 ≤ a ∧ a ≤ 255) ∧ (0 ≤ n ∧ n ≤ 1000) then 0 else 1) ((gfR a.toNat n.toNat : Nat))) 0 0 := by
  refine mq_Met.of (cc := cX12_power) (maxL := 5) (ret := (some .int)) (by decide) rfl (Nat.le_of_ble_eq_true rfl) rfl rfl ?_
  intro p_ e_ s_ m_ args_ below_ meth_ c_ z_ C hr hlk hname
  refine xr_aload_n C dX12_power_0 rfl ?_
  refine xr_iconst (n := 0) C dX12_power_1 (by decide +kernel) ?_
  refine xr_put C (Cn := RX12) (T := TX12) (N := 25) (by decide +kernel) hD.1 rfl 0 (by decide) tyX12 tyX12_ok nmX12 (C.1.2.2.2.2 (.fieldLink RX12 59 "OssuaryVaultModel" "thrown" "I") (by decide +kernel)) (fun _ h => h) rfl (tyX12_ok 0 (by decide)) rfl rfl (Nat.le_of_ble_eq_true rfl) dX12_power_2 ?_
  refine mq_ren (fun M1 hM1 => ?_)
  have hD1 : mdI G M1 Mb 0 := hD.th hb hM1
  have hO1 : M1 (Mb 39) = M (Mb 39) := by rw [hM1, mq_up_n (mb_ne hb (by decide) (by decide) (by decide))]
  refine xr_iload_n C dX12_power_5 rfl ?_
  refine xr_iconst (n := 0) C dX12_power_6 (by decide +kernel) ?_
  refine xr_sipush (n := 255) C dX12_power_7 (by decide +kernel) ?_
  refine xr_callS3i C (m_isIn l G M1 a har 0 (by decide) 255 (by decide)) (cwS 3 C.1.2.2.2.2 gX12_power_X12_isIn rfl rfl rfl (by decide +kernel) ⟨Nat.le_of_ble_eq_true rfl, Nat.le_of_ble_eq_true rfl⟩) (Nat.le_of_ble_eq_true rfl) ⟨by dsimp only; omega, by dsimp only; omega⟩ dX12_power_10 (fun r2 M9 hp9 => ?_)
  obtain ⟨rfl, rfl⟩ := hp9
  by_cases hc0 : 0 ≤ a ∧ a ≤ 255
  · rw [show (if 0 ≤ a ∧ a ≤ 255 then (1 : Int) else 0) = 1 from if_pos hc0]
    refine xr_if_eq C dX12_power_13 rfl (by decide) (fun hq => absurd hq (by decide)) (fun _ => ?_)
    refine xr_iload_n C dX12_power_16 rfl ?_
    refine xr_iconst (n := 0) C dX12_power_17 (by decide +kernel) ?_
    refine xr_sipush (n := 1000) C dX12_power_18 (by decide +kernel) ?_
    refine xr_callS3i C (m_isIn l G M1 n hnr 0 (by decide) 1000 (by decide)) (cwS 3 C.1.2.2.2.2 gX12_power_X12_isIn rfl rfl rfl (by decide +kernel) ⟨Nat.le_of_ble_eq_true rfl, Nat.le_of_ble_eq_true rfl⟩) (Nat.le_of_ble_eq_true rfl) ⟨by dsimp only; omega, by dsimp only; omega⟩ dX12_power_21 (fun r3 M9 hp9 => ?_)
    obtain ⟨rfl, rfl⟩ := hp9
    by_cases hc1 : 0 ≤ n ∧ n ≤ 1000
    · rw [show (if 0 ≤ n ∧ n ≤ 1000 then (1 : Int) else 0) = 1 from if_pos hc1]
      refine xr_if_ne C dX12_power_24 rfl (by decide) (fun _ => ?_) (fun hq => absurd hq (by decide))
      obtain ⟨a, rfl⟩ := Int.eq_ofNat_of_zero_le (show 0 ≤ a by omega)
      obtain ⟨n, rfl⟩ := Int.eq_ofNat_of_zero_le (show 0 ≤ n by omega)
      refine xr_iconst (n := 1) C dX12_power_33 (by decide +kernel) ?_
      refine xr_istore_n C dX12_power_34 (by decide) rfl ?_
      refine xr_iconst (n := 0) C dX12_power_35 (by decide +kernel) ?_
      refine xr_istore C dX12_power_36 (by decide) rfl ?_
      refine mq_loop (σ := Nat) (fun y => y ≤ n) (fun y => n - y) (fun y => M1) (fun y => [some (.ref (Mb 0)), some (.int (zI (a : Int))), some (.int (zI (n : Int))), some (.int (zI (pwF a y : Int))), some (.int (zI (y : Int)))]) (fun y => []) ?_ 0 (Nat.zero_le _)
      rintro i hi ih
      try dsimp only at ih ⊢
      have hpw := pwF_lt a i
      refine xr_iload C dX12_power_38 rfl ?_
      refine xr_iload_n C dX12_power_40 rfl ?_
      refine xr_icmp_ge C dX12_power_41 rfl (by first | omega | (dsimp only; omega)) (by first | omega | (dsimp only; omega)) (fun hq4 => ?_) (fun hq4 => ?_)
      · refine xr_iload_n C dX12_power_56 rfl ?_
        exact xr_iret C hr hlk ⟨_, rfl, by rw [if_pos (by omega)]; exact ⟨fun _ => by rw [show i = n by omega, pwF_gf (by omega)]; simp, mdQ.of hD1 hO1⟩⟩ (by omega) (by omega) dX12_power_57
      · refine xr_iload_n C dX12_power_44 rfl ?_
        refine xr_iload_n C dX12_power_45 rfl ?_
        refine xr_callS2i C (m_times l G M1 (pwF a i) a hpw (by omega)) (cwS 2 C.1.2.2.2.2 gX12_power_X12_times rfl rfl rfl (by decide +kernel) ⟨Nat.le_of_ble_eq_true rfl, Nat.le_of_ble_eq_true rfl⟩) (Nat.le_of_ble_eq_true rfl) ⟨by dsimp only; omega, by dsimp only; omega⟩ dX12_power_46 (fun r5 M9 hp9 => ?_)
        obtain ⟨rfl, rfl⟩ := hp9
        refine xr_istore_n C dX12_power_49 (by decide) rfl ?_
        refine xr_iinc C dX12_power_50 rfl (by decide) rfl ?_
        refine xr_goto C dX12_power_53 rfl ?_
        exact ih (i + 1) (by omega) (by omega)
    · rw [show (if 0 ≤ n ∧ n ≤ 1000 then (1 : Int) else 0) = 0 from if_neg hc1]
      refine xr_if_ne C dX12_power_24 rfl (by decide) (fun hq => absurd hq (by decide)) (fun _ => ?_)
      refine xr_aload_n C dX12_power_27 rfl ?_
      refine xr_iconst (n := 1) C dX12_power_28 (by decide +kernel) ?_
      refine xr_callV1i C (m_no l G Mb hb 0 M1 hD1 1) (cwV 1 C.1.2.2.2.2 gX12_power_X12_no rfl rfl rfl (by decide +kernel) ⟨Nat.le_of_ble_eq_true rfl, Nat.le_of_ble_eq_true rfl⟩) hD1.1 rfl (Nat.le_of_ble_eq_true rfl) ⟨by dsimp only; omega, by dsimp only; omega⟩ dX12_power_29 (fun r9 M9 hp9 => ?_)
      obtain ⟨rfl, hD9, hO9⟩ := hp9
      exact xr_iret C hr hlk ⟨_, rfl, by rw [if_neg (by omega)]; exact ⟨fun h => absurd h (by decide), mdQ.of hD9 (hO9.trans hO1)⟩⟩ (by omega) (by omega) dX12_power_32
  · rw [show (if 0 ≤ a ∧ a ≤ 255 then (1 : Int) else 0) = 0 from if_neg hc0]
    refine xr_if_eq C dX12_power_13 rfl (by decide) (fun _ => ?_) (fun hq => absurd hq (by decide))
    refine xr_aload_n C dX12_power_27 rfl ?_
    refine xr_iconst (n := 1) C dX12_power_28 (by decide +kernel) ?_
    refine xr_callV1i C (m_no l G Mb hb 0 M1 hD1 1) (cwV 1 C.1.2.2.2.2 gX12_power_X12_no rfl rfl rfl (by decide +kernel) ⟨Nat.le_of_ble_eq_true rfl, Nat.le_of_ble_eq_true rfl⟩) hD1.1 rfl (Nat.le_of_ble_eq_true rfl) ⟨by dsimp only; omega, by dsimp only; omega⟩ dX12_power_29 (fun r9 M9 hp9 => ?_)
    obtain ⟨rfl, hD9, hO9⟩ := hp9
    exact xr_iret C hr hlk ⟨_, rfl, by rw [if_neg (by omega)]; exact ⟨fun h => absurd h (by decide), mdQ.of hD9 (hO9.trans hO1)⟩⟩ (by omega) (by omega) dX12_power_32
set_option maxHeartbeats 4000000 in
set_option maxRecDepth 100000 in
theorem m_coefficient (l : Launch) (G : mq_G) (Mb : Nat → Nat) (hb : mb_inj Mb) (t0 : Int) (M : mq_M) (hD : mdI G M Mb t0) (j : Int) (hjr : -2147483648 ≤ j ∧ j < 2147483648) (d : Int) (hdr : -2147483648 ≤ d ∧ d < 2147483648) : mq_T l yX12_coefficient wsX12_coefficient { frames := 3, cells := 0, slots := 0, locals := 66 } G [.ref (Mb 0), .int (zI j), .int (zI d)] M (mdR M Mb (if (0 ≤ j ∧ j ≤ 5) ∧ (0 ≤ d ∧ d ≤ 9) then 0 else 1) ((gfI ((128 + j.toNat) ^^^ d.toNat) : Nat))) 0 0 := by
  refine mq_Met.of (cc := cX12_coefficient) (maxL := 3) (ret := (some .int)) (by decide) rfl (Nat.le_of_ble_eq_true rfl) rfl rfl ?_
  intro p_ e_ s_ m_ args_ below_ meth_ c_ z_ C hr hlk hname
  refine xr_aload_n C dX12_coefficient_0 rfl ?_
  refine xr_iconst (n := 0) C dX12_coefficient_1 (by decide +kernel) ?_
  refine xr_put C (Cn := RX12) (T := TX12) (N := 25) (by decide +kernel) hD.1 rfl 0 (by decide) tyX12 tyX12_ok nmX12 (C.1.2.2.2.2 (.fieldLink RX12 59 "OssuaryVaultModel" "thrown" "I") (by decide +kernel)) (fun _ h => h) rfl (tyX12_ok 0 (by decide)) rfl rfl (Nat.le_of_ble_eq_true rfl) dX12_coefficient_2 ?_
  refine mq_ren (fun M1 hM1 => ?_)
  have hD1 : mdI G M1 Mb 0 := hD.th hb hM1
  have hO1 : M1 (Mb 39) = M (Mb 39) := by rw [hM1, mq_up_n (mb_ne hb (by decide) (by decide) (by decide))]
  refine xr_iload_n C dX12_coefficient_5 rfl ?_
  refine xr_iconst (n := 0) C dX12_coefficient_6 (by decide +kernel) ?_
  refine xr_iconst (n := 5) C dX12_coefficient_7 (by decide +kernel) ?_
  refine xr_callS3i C (m_isIn l G M1 j hjr 0 (by decide) 5 (by decide)) (cwS 3 C.1.2.2.2.2 gX12_coefficient_X12_isIn rfl rfl rfl (by decide +kernel) ⟨Nat.le_of_ble_eq_true rfl, Nat.le_of_ble_eq_true rfl⟩) (Nat.le_of_ble_eq_true rfl) ⟨by dsimp only; omega, by dsimp only; omega⟩ dX12_coefficient_8 (fun r2 M9 hp9 => ?_)
  obtain ⟨rfl, rfl⟩ := hp9
  by_cases hc0 : 0 ≤ j ∧ j ≤ 5
  · rw [show (if 0 ≤ j ∧ j ≤ 5 then (1 : Int) else 0) = 1 from if_pos hc0]
    refine xr_if_eq C dX12_coefficient_11 rfl (by decide) (fun hq => absurd hq (by decide)) (fun _ => ?_)
    refine xr_iload_n C dX12_coefficient_14 rfl ?_
    refine xr_iconst (n := 0) C dX12_coefficient_15 (by decide +kernel) ?_
    refine xr_bipush (n := 9) C dX12_coefficient_16 (by decide +kernel) ?_
    refine xr_callS3i C (m_isIn l G M1 d hdr 0 (by decide) 9 (by decide)) (cwS 3 C.1.2.2.2.2 gX12_coefficient_X12_isIn rfl rfl rfl (by decide +kernel) ⟨Nat.le_of_ble_eq_true rfl, Nat.le_of_ble_eq_true rfl⟩) (Nat.le_of_ble_eq_true rfl) ⟨by dsimp only; omega, by dsimp only; omega⟩ dX12_coefficient_18 (fun r3 M9 hp9 => ?_)
    obtain ⟨rfl, rfl⟩ := hp9
    by_cases hc1 : 0 ≤ d ∧ d ≤ 9
    · rw [show (if 0 ≤ d ∧ d ≤ 9 then (1 : Int) else 0) = 1 from if_pos hc1]
      refine xr_if_eq C dX12_coefficient_21 rfl (by decide) (fun hq => absurd hq (by decide)) (fun _ => ?_)
      obtain ⟨j, rfl⟩ := Int.eq_ofNat_of_zero_le (show 0 ≤ j by omega)
      obtain ⟨d, rfl⟩ := Int.eq_ofNat_of_zero_le (show 0 ≤ d by omega)
      refine xr_iload_n C dX12_coefficient_24 rfl ?_
      refine xr_iload_n C dX12_coefficient_25 rfl ?_
      refine xr_callS2i C (m_factor l G M1 j d (by omega) (by omega)) (cwS 2 C.1.2.2.2.2 gX12_coefficient_X12_factor rfl rfl rfl (by decide +kernel) ⟨Nat.le_of_ble_eq_true rfl, Nat.le_of_ble_eq_true rfl⟩) (Nat.le_of_ble_eq_true rfl) ⟨by dsimp only; omega, by dsimp only; omega⟩ dX12_coefficient_26 (fun r4 M9 hp9 => ?_)
      obtain ⟨rfl, rfl⟩ := hp9
      refine xr_goto C dX12_coefficient_29 rfl ?_
      exact xr_iret C hr hlk ⟨_, rfl, by rw [if_pos (by omega)]; exact ⟨fun _ => by simp, mdQ.of hD1 hO1⟩⟩ (by omega) (by omega) dX12_coefficient_37
    · rw [show (if 0 ≤ d ∧ d ≤ 9 then (1 : Int) else 0) = 0 from if_neg hc1]
      refine xr_if_eq C dX12_coefficient_21 rfl (by decide) (fun _ => ?_) (fun hq => absurd hq (by decide))
      refine xr_aload_n C dX12_coefficient_32 rfl ?_
      refine xr_iconst (n := 1) C dX12_coefficient_33 (by decide +kernel) ?_
      refine xr_callV1i C (m_no l G Mb hb 0 M1 hD1 1) (cwV 1 C.1.2.2.2.2 gX12_coefficient_X12_no rfl rfl rfl (by decide +kernel) ⟨Nat.le_of_ble_eq_true rfl, Nat.le_of_ble_eq_true rfl⟩) hD1.1 rfl (Nat.le_of_ble_eq_true rfl) ⟨by dsimp only; omega, by dsimp only; omega⟩ dX12_coefficient_34 (fun r9 M9 hp9 => ?_)
      obtain ⟨rfl, hD9, hO9⟩ := hp9
      exact xr_iret C hr hlk ⟨_, rfl, by rw [if_neg (by omega)]; exact ⟨fun h => absurd h (by decide), mdQ.of hD9 (hO9.trans hO1)⟩⟩ (by omega) (by omega) dX12_coefficient_37
  · rw [show (if 0 ≤ j ∧ j ≤ 5 then (1 : Int) else 0) = 0 from if_neg hc0]
    refine xr_if_eq C dX12_coefficient_11 rfl (by decide) (fun _ => ?_) (fun hq => absurd hq (by decide))
    refine xr_aload_n C dX12_coefficient_32 rfl ?_
    refine xr_iconst (n := 1) C dX12_coefficient_33 (by decide +kernel) ?_
    refine xr_callV1i C (m_no l G Mb hb 0 M1 hD1 1) (cwV 1 C.1.2.2.2.2 gX12_coefficient_X12_no rfl rfl rfl (by decide +kernel) ⟨Nat.le_of_ble_eq_true rfl, Nat.le_of_ble_eq_true rfl⟩) hD1.1 rfl (Nat.le_of_ble_eq_true rfl) ⟨by dsimp only; omega, by dsimp only; omega⟩ dX12_coefficient_34 (fun r9 M9 hp9 => ?_)
    obtain ⟨rfl, hD9, hO9⟩ := hp9
    exact xr_iret C hr hlk ⟨_, rfl, by rw [if_neg (by omega)]; exact ⟨fun h => absurd h (by decide), mdQ.of hD9 (hO9.trans hO1)⟩⟩ (by omega) (by omega) dX12_coefficient_37
set_option maxHeartbeats 4000000 in
set_option maxRecDepth 100000 in
theorem m_remove (l : Launch) (G : mq_G) (Mb : Nat → Nat) (hb : mb_inj Mb) (t0 : Int) (M : mq_M) (hD : mdI G M Mb t0) (k : Int) (hkr : -2147483648 ≤ k ∧ k < 2147483648) : mq_T l yX12_remove wsX12_remove { frames := 1, cells := 0, slots := 0, locals := 22 } G [.ref (Mb 0), .int (zI k)] M (mdR M Mb (0) (-1)) 0 0 := by
  refine mq_Met.of (cc := cX12_remove) (maxL := 5) (ret := (some .int)) (by decide) rfl (Nat.le_of_ble_eq_true rfl) rfl rfl ?_
  intro p_ e_ s_ m_ args_ below_ meth_ c_ z_ C hr hlk hname
  refine xr_aload_n C dX12_remove_0 rfl ?_
  refine xr_iconst (n := 0) C dX12_remove_1 (by decide +kernel) ?_
  refine xr_put C (Cn := RX12) (T := TX12) (N := 25) (by decide +kernel) hD.1 rfl 0 (by decide) tyX12 tyX12_ok nmX12 (C.1.2.2.2.2 (.fieldLink RX12 59 "OssuaryVaultModel" "thrown" "I") (by decide +kernel)) (fun _ h => h) rfl (tyX12_ok 0 (by decide)) rfl rfl (Nat.le_of_ble_eq_true rfl) dX12_remove_2 ?_
  refine mq_ren (fun M1 hM1 => ?_)
  have hD1 : mdI G M1 Mb 0 := hD.th hb hM1
  have hO1 : M1 (Mb 39) = M (Mb 39) := by rw [hM1, mq_up_n (mb_ne hb (by decide) (by decide) (by decide))]
  refine xr_aload_n C dX12_remove_5 rfl ?_
  refine xr_iload_n C dX12_remove_6 rfl ?_
  refine xr_callV1i C (m_placeOf l G Mb hb 0 M1 hD1 k) (cwV 1 C.1.2.2.2.2 gX12_remove_X12_placeOf rfl rfl rfl (by decide +kernel) ⟨Nat.le_of_ble_eq_true rfl, Nat.le_of_ble_eq_true rfl⟩) hD1.1 rfl (Nat.le_of_ble_eq_true rfl) ⟨by dsimp only; omega, by dsimp only; omega⟩ dX12_remove_7 (fun r2 M9 hp9 => ?_)
  obtain ⟨rfl, rfl⟩ := hp9
  refine xr_istore_n C dX12_remove_10 (by decide) rfl ?_
  refine xr_iload_n C dX12_remove_11 rfl ?_
  refine xr_iconst (n := (-1)) C dX12_remove_12 (by decide +kernel) ?_
  refine xr_icmp_ne C dX12_remove_13 rfl (by decide) (by decide) (fun hq => absurd hq (by decide)) (fun _ => ?_)
  refine xr_iconst (n := (-1)) C dX12_remove_16 (by decide +kernel) ?_
  exact xr_iret C hr hlk ⟨_, rfl, by exact ⟨fun _ => rfl, mdQ.of hD1 hO1⟩⟩ (by omega) (by omega) dX12_remove_17
set_option maxHeartbeats 4000000 in
set_option maxRecDepth 100000 in
theorem m_files (l : Launch) (G : mq_G) (Mb : Nat → Nat) (hb : mb_inj Mb) (t0 : Int) (M : mq_M) (hD : mdI G M Mb t0)  : mq_T l yX12_files wsX12_files { frames := 1, cells := 0, slots := 0, locals := 21 } G [.ref (Mb 0)] M (mdR M Mb (0) (0)) 0 0 := by
  refine mq_Met.of (cc := cX12_files) (maxL := 1) (ret := (some .int)) (by decide) rfl (Nat.le_of_ble_eq_true rfl) rfl rfl ?_
  intro p_ e_ s_ m_ args_ below_ meth_ c_ z_ C hr hlk hname
  refine xr_aload_n C dX12_files_0 rfl ?_
  refine xr_aload_n C dX12_files_1 rfl ?_
  refine xr_get C (Cn := RX12) (T := TX12) (N := 25) (by decide +kernel) hD.1 rfl 3 (by decide) (C.1.2.2.2.2 (.fieldLink RX12 95 "OssuaryVaultModel" "files" "I") (by decide +kernel)) (fun _ h => h) rfl dX12_files_2 ?_
  refine xr_callV1i C (m_ok l G Mb hb t0 M hD 0) (cwV 1 C.1.2.2.2.2 gX12_files_X12_ok rfl rfl rfl (by decide +kernel) ⟨Nat.le_of_ble_eq_true rfl, Nat.le_of_ble_eq_true rfl⟩) hD.1 rfl (Nat.le_of_ble_eq_true rfl) ⟨by dsimp only; omega, by dsimp only; omega⟩ dX12_files_5 (fun r9 M9 hp9 => ?_)
  obtain ⟨rfl, hD9, hO9⟩ := hp9
  exact xr_iret C hr hlk ⟨_, rfl, fun _ => rfl, mdQ.of hD9 hO9⟩ (by omega) (by omega) dX12_files_8
set_option maxHeartbeats 4000000 in
set_option maxRecDepth 100000 in
theorem m_streamLength (l : Launch) (G : mq_G) (Mb : Nat → Nat) (hb : mb_inj Mb) (t0 : Int) (M : mq_M) (hD : mdI G M Mb t0)  : mq_T l yX12_streamLength wsX12_streamLength { frames := 3, cells := 0, slots := 0, locals := 70 } G [.ref (Mb 0)] M (mdR M Mb (0) (6)) 0 0 := by
  refine mq_Met.of (cc := cX12_streamLength) (maxL := 1) (ret := (some .int)) (by decide) rfl (Nat.le_of_ble_eq_true rfl) rfl rfl ?_
  intro p_ e_ s_ m_ args_ below_ meth_ c_ z_ C hr hlk hname
  refine xr_aload_n C dX12_streamLength_0 rfl ?_
  refine xr_aload_n C dX12_streamLength_1 rfl ?_
  refine xr_callV0i C (m_streamSize l G Mb hb t0 M hD) (cwV 0 C.1.2.2.2.2 gX12_streamLength_X12_streamSize rfl rfl rfl (by decide +kernel) ⟨Nat.le_of_ble_eq_true rfl, Nat.le_of_ble_eq_true rfl⟩) hD.1 rfl (Nat.le_of_ble_eq_true rfl) ⟨by dsimp only; omega, by dsimp only; omega⟩ dX12_streamLength_2 (fun r1 M9 hp9 => ?_)
  obtain ⟨rfl, rfl⟩ := hp9
  refine xr_callV1i C (m_ok l G Mb hb t0 M hD 6) (cwV 1 C.1.2.2.2.2 gX12_streamLength_X12_ok rfl rfl rfl (by decide +kernel) ⟨Nat.le_of_ble_eq_true rfl, Nat.le_of_ble_eq_true rfl⟩) hD.1 rfl (Nat.le_of_ble_eq_true rfl) ⟨by dsimp only; omega, by dsimp only; omega⟩ dX12_streamLength_5 (fun r9 M9 hp9 => ?_)
  obtain ⟨rfl, hD9, hO9⟩ := hp9
  exact xr_iret C hr hlk ⟨_, rfl, fun _ => rfl, mdQ.of hD9 hO9⟩ (by omega) (by omega) dX12_streamLength_8
set_option maxHeartbeats 4000000 in
set_option maxRecDepth 100000 in
theorem m_sizeOf (l : Launch) (G : mq_G) (Mb : Nat → Nat) (hb : mb_inj Mb) (t0 : Int) (M : mq_M) (hD : mdI G M Mb t0) (i : Int) (hir : -2147483648 ≤ i ∧ i < 2147483648) : mq_T l yX12_sizeOf wsX12_sizeOf { frames := 2, cells := 0, slots := 0, locals := 42 } G [.ref (Mb 0), .int (zI i)] M (mdR M Mb (if 0 ≤ i ∧ i ≤ 15 then 0 else 1) (-1)) 0 0 := by
  refine mq_Met.of (cc := cX12_sizeOf) (maxL := 2) (ret := (some .int)) (by decide) rfl (Nat.le_of_ble_eq_true rfl) rfl rfl ?_
  intro p_ e_ s_ m_ args_ below_ meth_ c_ z_ C hr hlk hname
  refine xr_aload_n C dX12_sizeOf_0 rfl ?_
  refine xr_iconst (n := 0) C dX12_sizeOf_1 (by decide +kernel) ?_
  refine xr_put C (Cn := RX12) (T := TX12) (N := 25) (by decide +kernel) hD.1 rfl 0 (by decide) tyX12 tyX12_ok nmX12 (C.1.2.2.2.2 (.fieldLink RX12 59 "OssuaryVaultModel" "thrown" "I") (by decide +kernel)) (fun _ h => h) rfl (tyX12_ok 0 (by decide)) rfl rfl (Nat.le_of_ble_eq_true rfl) dX12_sizeOf_2 ?_
  refine mq_ren (fun M1 hM1 => ?_)
  have hD1 : mdI G M1 Mb 0 := hD.th hb hM1
  have hO1 : M1 (Mb 39) = M (Mb 39) := by rw [hM1, mq_up_n (mb_ne hb (by decide) (by decide) (by decide))]
  refine xr_iload_n C dX12_sizeOf_5 rfl ?_
  refine xr_callS1i C (m_isPlace l G M1 i hir) (cwS 1 C.1.2.2.2.2 gX12_sizeOf_X12_isPlace rfl rfl rfl (by decide +kernel) ⟨Nat.le_of_ble_eq_true rfl, Nat.le_of_ble_eq_true rfl⟩) (Nat.le_of_ble_eq_true rfl) ⟨by dsimp only; omega, by dsimp only; omega⟩ dX12_sizeOf_6 (fun r2 M9 hp9 => ?_)
  obtain ⟨rfl, rfl⟩ := hp9
  by_cases hc0 : 0 ≤ i ∧ i ≤ 15
  · rw [show (if 0 ≤ i ∧ i ≤ 15 then (1 : Int) else 0) = 1 from if_pos hc0]
    refine xr_if_eq C dX12_sizeOf_9 rfl (by decide) (fun hq => absurd hq (by decide)) (fun _ => ?_)
    obtain ⟨s1, s2⟩ := hD1.2.2.2.2.2.2.1
    refine xr_aload_n C dX12_sizeOf_12 rfl ?_
    refine xr_get C (Cn := RX12) (T := TX12) (N := 25) (by decide +kernel) hD1.1 rfl 8 (by decide) (C.1.2.2.2.2 (.fieldLink RX12 28 "OssuaryVaultModel" "sizes" "[I") (by decide +kernel)) (fun _ h => h) rfl dX12_sizeOf_13 ?_
    refine xr_iload_n C dX12_sizeOf_16 rfl ?_
    refine xr_iald C s2.1 mq_tI hc0.1 (by show i < (16 : Int); omega) (by first | omega | (dsimp only; omega)) dX12_sizeOf_17 ?_
    rw [s2.2 i.toNat (by omega)]
    refine xr_goto C dX12_sizeOf_18 rfl ?_
    exact xr_iret C hr hlk ⟨_, rfl, by rw [if_pos hc0]; exact ⟨fun _ => rfl, mdQ.of hD1 hO1⟩⟩ (by omega) (by omega) dX12_sizeOf_26
  · rw [show (if 0 ≤ i ∧ i ≤ 15 then (1 : Int) else 0) = 0 from if_neg hc0]
    refine xr_if_eq C dX12_sizeOf_9 rfl (by decide) (fun _ => ?_) (fun hq => absurd hq (by decide))
    refine xr_aload_n C dX12_sizeOf_21 rfl ?_
    refine xr_iconst (n := 1) C dX12_sizeOf_22 (by decide +kernel) ?_
    refine xr_callV1i C (m_no l G Mb hb 0 M1 hD1 1) (cwV 1 C.1.2.2.2.2 gX12_sizeOf_X12_no rfl rfl rfl (by decide +kernel) ⟨Nat.le_of_ble_eq_true rfl, Nat.le_of_ble_eq_true rfl⟩) hD1.1 rfl (Nat.le_of_ble_eq_true rfl) ⟨by dsimp only; omega, by dsimp only; omega⟩ dX12_sizeOf_23 (fun r9 M9 hp9 => ?_)
    obtain ⟨rfl, hD9, hO9⟩ := hp9
    exact xr_iret C hr hlk ⟨_, rfl, by rw [if_neg (by omega)]; exact ⟨fun h => absurd h (by decide), mdQ.of hD9 (hO9.trans hO1)⟩⟩ (by omega) (by omega) dX12_sizeOf_26
set_option maxHeartbeats 4000000 in
set_option maxRecDepth 100000 in
theorem m_lose (l : Launch) (G : mq_G) (Mb : Nat → Nat) (hb : mb_inj Mb) (t0 : Int) (M : mq_M) (hD : mdI G M Mb t0) (i : Int) (hir : -2147483648 ≤ i ∧ i < 2147483648) : mq_T l yX12_lose wsX12_lose { frames := 2, cells := 0, slots := 0, locals := 42 } G [.ref (Mb 0), .int (zI i)] M (mdR M Mb (if 0 ≤ i ∧ i ≤ 15 then 0 else 1) (0)) 0 0 := by
  refine mq_Met.of (cc := cX12_lose) (maxL := 3) (ret := (some .boolean)) (by decide) rfl (Nat.le_of_ble_eq_true rfl) rfl rfl ?_
  intro p_ e_ s_ m_ args_ below_ meth_ c_ z_ C hr hlk hname
  refine xr_aload_n C dX12_lose_0 rfl ?_
  refine xr_iconst (n := 0) C dX12_lose_1 (by decide +kernel) ?_
  refine xr_put C (Cn := RX12) (T := TX12) (N := 25) (by decide +kernel) hD.1 rfl 0 (by decide) tyX12 tyX12_ok nmX12 (C.1.2.2.2.2 (.fieldLink RX12 59 "OssuaryVaultModel" "thrown" "I") (by decide +kernel)) (fun _ h => h) rfl (tyX12_ok 0 (by decide)) rfl rfl (Nat.le_of_ble_eq_true rfl) dX12_lose_2 ?_
  refine mq_ren (fun M1 hM1 => ?_)
  have hD1 : mdI G M1 Mb 0 := hD.th hb hM1
  have hO1 : M1 (Mb 39) = M (Mb 39) := by rw [hM1, mq_up_n (mb_ne hb (by decide) (by decide) (by decide))]
  refine xr_iload_n C dX12_lose_5 rfl ?_
  refine xr_callS1i C (m_isPlace l G M1 i hir) (cwS 1 C.1.2.2.2.2 gX12_lose_X12_isPlace rfl rfl rfl (by decide +kernel) ⟨Nat.le_of_ble_eq_true rfl, Nat.le_of_ble_eq_true rfl⟩) (Nat.le_of_ble_eq_true rfl) ⟨by dsimp only; omega, by dsimp only; omega⟩ dX12_lose_6 (fun r2 M9 hp9 => ?_)
  obtain ⟨rfl, rfl⟩ := hp9
  by_cases hc0 : 0 ≤ i ∧ i ≤ 15
  · rw [show (if 0 ≤ i ∧ i ≤ 15 then (1 : Int) else 0) = 1 from if_pos hc0]
    refine xr_if_ne C dX12_lose_9 rfl (by decide) (fun _ => ?_) (fun hq => absurd hq (by decide))
    obtain ⟨s1, s2⟩ := hD1.2.2.2.2.2.2.1
    refine xr_aload_n C dX12_lose_18 rfl ?_
    refine xr_get C (Cn := RX12) (T := TX12) (N := 25) (by decide +kernel) hD1.1 rfl 8 (by decide) (C.1.2.2.2.2 (.fieldLink RX12 28 "OssuaryVaultModel" "sizes" "[I") (by decide +kernel)) (fun _ h => h) rfl dX12_lose_19 ?_
    refine xr_iload_n C dX12_lose_22 rfl ?_
    refine xr_iald C s2.1 mq_tI hc0.1 (by show i < (16 : Int); omega) (by first | omega | (dsimp only; omega)) dX12_lose_23 ?_
    rw [s2.2 i.toNat (by omega)]
    refine xr_iconst (n := (-1)) C dX12_lose_24 (by decide +kernel) ?_
    refine xr_icmp_eq C dX12_lose_25 rfl (by decide) (by decide) (fun _ => ?_) (fun hq => absurd hq (by decide))
    refine xr_iconst (n := 0) C dX12_lose_32 (by decide +kernel) ?_
    refine xr_istore_n C dX12_lose_33 (by decide) rfl ?_
    refine xr_aload_n C dX12_lose_34 rfl ?_
    refine xr_get C (Cn := RX12) (T := TX12) (N := 25) (by decide +kernel) hD1.1 rfl 8 (by decide) (C.1.2.2.2.2 (.fieldLink RX12 28 "OssuaryVaultModel" "sizes" "[I") (by decide +kernel)) (fun _ h => h) rfl dX12_lose_35 ?_
    refine xr_iload_n C dX12_lose_38 rfl ?_
    refine xr_iconst (n := (-1)) C dX12_lose_39 (by decide +kernel) ?_
    refine xr_iast C s2.1 mq_tI hc0.1 (by show i < (16 : Int); omega) (by first | omega | (dsimp only; omega)) dX12_lose_40 ?_
    refine mq_ren (fun M3 hM3 => ?_)
    refine xr_iload_n C dX12_lose_41 rfl ?_
    exact xr_zret C hr (by decide +kernel) hlk ⟨_, rfl, by rw [if_pos hc0]; exact ⟨fun _ => rfl, ⟨_, by rw [hM3, mq_up_n (mb_ne hb (by decide) (by decide) (by decide))]; exact hD1.1⟩, by rw [hM3, mq_up_n (mb_ne hb (by decide) (by decide) (by decide))]; exact hO1⟩⟩ (by omega) (by omega) dX12_lose_42
  · rw [show (if 0 ≤ i ∧ i ≤ 15 then (1 : Int) else 0) = 0 from if_neg hc0]
    refine xr_if_ne C dX12_lose_9 rfl (by decide) (fun hq => absurd hq (by decide)) (fun _ => ?_)
    refine xr_aload_n C dX12_lose_12 rfl ?_
    refine xr_iconst (n := 1) C dX12_lose_13 (by decide +kernel) ?_
    refine xr_callV1i C (m_isNot l G Mb hb 0 M1 hD1 1) (cwV 1 C.1.2.2.2.2 gX12_lose_X12_isNot rfl rfl rfl (by decide +kernel) ⟨Nat.le_of_ble_eq_true rfl, Nat.le_of_ble_eq_true rfl⟩) hD1.1 rfl (Nat.le_of_ble_eq_true rfl) ⟨by dsimp only; omega, by dsimp only; omega⟩ dX12_lose_14 (fun r9 M9 hp9 => ?_)
    obtain ⟨rfl, hD9, hO9⟩ := hp9
    exact xr_zret C hr (by decide +kernel) hlk ⟨_, rfl, by rw [if_neg (by omega)]; exact ⟨fun h => absurd h (by decide), mdQ.of hD9 (hO9.trans hO1)⟩⟩ (by omega) (by omega) dX12_lose_17
set_option maxHeartbeats 4000000 in
set_option maxRecDepth 100000 in
theorem m_isSoundNow (l : Launch) (G : mq_G) (hA : pA G) (Mb : Nat → Nat) (hb : mb_inj Mb) (M : mq_M) (vs : List Value) (hY : M (Mb 0) = some (.inr (11, vs))) (h5 : vs[7]? = some (.ref (Mb 5))) (h6 : vs[8]? = some (.ref (Mb 6))) (f : Nat → Option Nat) (hf : M (Mb 5) = some (.inl (gA G, 16, .inr (.inr (.inr (.inr f)))))) (hf2 : ∀ i, i < 16 → f i = none) (s1 : Nat → Int32) (hs : M (Mb 6) = some (.inl (G.2.1, 16, .inl s1))) (hs2 : ∀ i, i < 16 → s1 i = zI (-1)) (i : Nat) (hi : i < 16) : mq_T l yX12_isSoundNow wsX12_isSoundNow { frames := 3, cells := 0, slots := 0, locals := 70 } G [.ref (Mb 0), .int (zI (i : Int))] M (mq_ri M 0) 0 0 := by
  refine mq_Met.of (cc := cX12_isSoundNow) (maxL := 5) (ret := (some .boolean)) (by decide) rfl (Nat.le_of_ble_eq_true rfl) rfl rfl ?_
  intro p_ e_ s_ m_ args_ below_ meth_ c_ z_ C hr hlk hname
  refine xr_aload_n C dX12_isSoundNow_0 rfl ?_
  refine xr_get C (Cn := RX12) (T := TX12) (N := 25) (by decide +kernel) hY rfl 7 (by decide) (C.1.2.2.2.2 (.fieldLink RX12 25 "OssuaryVaultModel" "volumes" "[[I") (by decide +kernel)) (fun _ h => h) h5 dX12_isSoundNow_1 ?_
  refine xr_iload_n C dX12_isSoundNow_4 rfl ?_
  refine xr_aaldA C hf hA.A (by omega) (by show (i : Int) < (16 : Int); omega) (by decide) dX12_isSoundNow_5 ?_
  rw [Int.toNat_natCast, hf2 i hi, show va_rf none = Value.null from rfl]
  refine xr_nstore_n C dX12_isSoundNow_6 (by decide) rfl ?_
  refine xr_aload_n C dX12_isSoundNow_7 rfl ?_
  refine xr_get C (Cn := RX12) (T := TX12) (N := 25) (by decide +kernel) hY rfl 8 (by decide) (C.1.2.2.2.2 (.fieldLink RX12 28 "OssuaryVaultModel" "sizes" "[I") (by decide +kernel)) (fun _ h => h) h6 dX12_isSoundNow_8 ?_
  refine xr_iload_n C dX12_isSoundNow_11 rfl ?_
  refine xr_iald C hs mq_tI (by omega) (by show (i : Int) < (16 : Int); omega) (by first | omega | (dsimp only; omega)) dX12_isSoundNow_12 ?_
  rw [Int.toNat_natCast, hs2 i hi]
  refine xr_istore_n C dX12_isSoundNow_13 (by decide) rfl ?_
  refine xr_iload_n C dX12_isSoundNow_14 rfl ?_
  refine xr_bipush (n := 10) C dX12_isSoundNow_15 (by decide +kernel) ?_
  refine xr_icmp_lt C dX12_isSoundNow_17 rfl (by decide) (by decide) (fun _ => ?_) (fun hq => absurd hq (by decide))
  refine xr_iconst (n := 0) C dX12_isSoundNow_61 (by decide +kernel) ?_
  exact xr_zret C hr (by decide +kernel) hlk ⟨_, rfl, rfl, rfl⟩ (by omega) (by omega) dX12_isSoundNow_62
set_option maxHeartbeats 4000000 in
set_option maxRecDepth 100000 in
theorem m_isSound (l : Launch) (G : mq_G) (hA : pA G) (Mb : Nat → Nat) (hb : mb_inj Mb) (t0 : Int) (M : mq_M) (hD : mdI G M Mb t0) (i : Int) (hir : -2147483648 ≤ i ∧ i < 2147483648) : mq_T l yX12_isSound wsX12_isSound { frames := 4, cells := 0, slots := 0, locals := 94 } G [.ref (Mb 0), .int (zI i)] M (mdR M Mb (if 0 ≤ i ∧ i ≤ 15 then 0 else 1) (0)) 0 0 := by
  refine mq_Met.of (cc := cX12_isSound) (maxL := 2) (ret := (some .boolean)) (by decide) rfl (Nat.le_of_ble_eq_true rfl) rfl rfl ?_
  intro p_ e_ s_ m_ args_ below_ meth_ c_ z_ C hr hlk hname
  refine xr_aload_n C dX12_isSound_0 rfl ?_
  refine xr_iconst (n := 0) C dX12_isSound_1 (by decide +kernel) ?_
  refine xr_put C (Cn := RX12) (T := TX12) (N := 25) (by decide +kernel) hD.1 rfl 0 (by decide) tyX12 tyX12_ok nmX12 (C.1.2.2.2.2 (.fieldLink RX12 59 "OssuaryVaultModel" "thrown" "I") (by decide +kernel)) (fun _ h => h) rfl (tyX12_ok 0 (by decide)) rfl rfl (Nat.le_of_ble_eq_true rfl) dX12_isSound_2 ?_
  refine mq_ren (fun M1 hM1 => ?_)
  have hD1 : mdI G M1 Mb 0 := hD.th hb hM1
  have hO1 : M1 (Mb 39) = M (Mb 39) := by rw [hM1, mq_up_n (mb_ne hb (by decide) (by decide) (by decide))]
  refine xr_iload_n C dX12_isSound_5 rfl ?_
  refine xr_callS1i C (m_isPlace l G M1 i hir) (cwS 1 C.1.2.2.2.2 gX12_isSound_X12_isPlace rfl rfl rfl (by decide +kernel) ⟨Nat.le_of_ble_eq_true rfl, Nat.le_of_ble_eq_true rfl⟩) (Nat.le_of_ble_eq_true rfl) ⟨by dsimp only; omega, by dsimp only; omega⟩ dX12_isSound_6 (fun r2 M9 hp9 => ?_)
  obtain ⟨rfl, rfl⟩ := hp9
  by_cases hc0 : 0 ≤ i ∧ i ≤ 15
  · rw [show (if 0 ≤ i ∧ i ≤ 15 then (1 : Int) else 0) = 1 from if_pos hc0]
    refine xr_if_eq C dX12_isSound_9 rfl (by decide) (fun hq => absurd hq (by decide)) (fun _ => ?_)
    obtain ⟨i, rfl⟩ := Int.eq_ofNat_of_zero_le (show 0 ≤ i by omega)
    obtain ⟨s1, s2⟩ := hD1.2.2.2.2.2.2.1
    obtain ⟨f5, s5⟩ := hD1.2.2.2.2.2.1
    refine xr_aload_n C dX12_isSound_12 rfl ?_
    refine xr_iload_n C dX12_isSound_13 rfl ?_
    refine xr_callV1i C (m_isSoundNow l G hA Mb hb M1 _ hD1.1 rfl rfl f5 s5.1 s5.2 s1 s2.1 s2.2 i (by omega)) (cwV 1 C.1.2.2.2.2 gX12_isSound_X12_isSoundNow rfl rfl rfl (by decide +kernel) ⟨Nat.le_of_ble_eq_true rfl, Nat.le_of_ble_eq_true rfl⟩) hD1.1 rfl (Nat.le_of_ble_eq_true rfl) ⟨by dsimp only; omega, by dsimp only; omega⟩ dX12_isSound_14 (fun r3 M9 hp9 => ?_)
    obtain ⟨rfl, rfl⟩ := hp9
    refine xr_goto C dX12_isSound_17 rfl ?_
    exact xr_zret C hr (by decide +kernel) hlk ⟨_, rfl, by rw [if_pos hc0]; exact ⟨fun _ => rfl, mdQ.of hD1 hO1⟩⟩ (by omega) (by omega) dX12_isSound_25
  · rw [show (if 0 ≤ i ∧ i ≤ 15 then (1 : Int) else 0) = 0 from if_neg hc0]
    refine xr_if_eq C dX12_isSound_9 rfl (by decide) (fun _ => ?_) (fun hq => absurd hq (by decide))
    refine xr_aload_n C dX12_isSound_20 rfl ?_
    refine xr_iconst (n := 1) C dX12_isSound_21 (by decide +kernel) ?_
    refine xr_callV1i C (m_isNot l G Mb hb 0 M1 hD1 1) (cwV 1 C.1.2.2.2.2 gX12_isSound_X12_isNot rfl rfl rfl (by decide +kernel) ⟨Nat.le_of_ble_eq_true rfl, Nat.le_of_ble_eq_true rfl⟩) hD1.1 rfl (Nat.le_of_ble_eq_true rfl) ⟨by dsimp only; omega, by dsimp only; omega⟩ dX12_isSound_22 (fun r9 M9 hp9 => ?_)
    obtain ⟨rfl, hD9, hO9⟩ := hp9
    exact xr_zret C hr (by decide +kernel) hlk ⟨_, rfl, by rw [if_neg (by omega)]; exact ⟨fun h => absurd h (by decide), mdQ.of hD9 (hO9.trans hO1)⟩⟩ (by omega) (by omega) dX12_isSound_25
