set_option maxHeartbeats 4000000 in
set_option maxRecDepth 100000 in
theorem c_tailPlace (l : Launch) (G : mq_G) (La : Nat → Nat) (hI : mq_inj La) (op : Bool) (da pa : Int) (ix : Bool) (n : Nat) (S : List Nat) (fc : Nat → List Nat) (fk fp ft : Nat → Int) (fg : Nat → Bool) (M : mq_M) (hS : rdI G M La op da pa ix n S fc fk fp ft fg) : mq_T l yX7_tailPlace wsX7_tailPlace { frames := 1, cells := 0, slots := 0, locals := 20 } G [.ref (La 20)] M (mq_ri M (rdTail S)) 0 0 := by
  refine mq_Met.of (cc := cX7_tailPlace) (maxL := 1) (ret := (some .int)) (by decide) rfl (Nat.le_of_ble_eq_true rfl) rfl rfl ?_
  intro p_ e_ s_ m_ args_ below_ meth_ c_ z_ C hr hlk hname
  have hS0 := hS
  obtain ⟨g1, g2, ⟨ff, g3, g4⟩, g5⟩ := hS
  have hSl : S.length ≤ 40700 := g2.2.2.1
  have hSb := g2.2.2.2.2.1
  refine xr_aload_n C dX7_tailPlace_0 rfl ?_
  refine xr_get C (Cn := RX7) (T := TX7) (N := 8) (by decide +kernel) g1 rfl 1 (by decide) (C.1.2.2.2.2 (.fieldLink RX7 15 "OssuaryVault$Reading" "stream" "LOssuaryVault$Bytes;") (by decide +kernel)) (fun _ h => h) rfl dX7_tailPlace_1 ?_
  refine xr_callV0i C (c_size l G _ _ _ _ M g2) (cwV 0 C.1.2.2.2.2 gX7_tailPlace_X0_size rfl rfl rfl (by decide +kernel) ⟨Nat.le_of_ble_eq_true rfl, Nat.le_of_ble_eq_true rfl⟩) g2.1 rfl (Nat.le_of_ble_eq_true rfl) ⟨by dsimp only; omega, by dsimp only; omega⟩ dX7_tailPlace_4 (fun r1 M9 hp9 => ?_)
  obtain ⟨rfl, rfl⟩ := hp9
  refine xr_bipush (n := 6) C dX7_tailPlace_7 (by decide +kernel) ?_
  refine xr_isub C dX7_tailPlace_9 ?_
  exact xr_iret C hr hlk ⟨_, rfl, rfl, rfl⟩ (by omega) (by omega) dX7_tailPlace_10
set_option maxHeartbeats 4000000 in
set_option maxRecDepth 100000 in
theorem c_endOfFile (l : Launch) (G : mq_G) (La : Nat → Nat) (hI : mq_inj La) (op : Bool) (da pa : Int) (ix : Bool) (n : Nat) (S : List Nat) (fc : Nat → List Nat) (fk fp ft : Nat → Int) (fg : Nat → Bool) (M : mq_M) (hS : rdI G M La op da pa ix n S fc fk fp ft fg) (pl : Int) (hpl : -100 ≤ pl ∧ pl < 1000000) : mq_T l yX7_endOfFile wsX7_endOfFile { frames := 2, cells := 0, slots := 0, locals := 42 } G [.ref (La 20), .int (zI pl)] M (mq_ri M (rdEnd S pl)) 0 0 := by
  refine mq_Met.of (cc := cX7_endOfFile) (maxL := 2) (ret := (some .int)) (by decide) rfl (Nat.le_of_ble_eq_true rfl) rfl rfl ?_
  intro p_ e_ s_ m_ args_ below_ meth_ c_ z_ C hr hlk hname
  have hS0 := hS
  obtain ⟨g1, g2, ⟨ff, g3, g4⟩, g5⟩ := hS
  have hSl : S.length ≤ 40700 := g2.2.2.1
  have hSb := g2.2.2.2.2.1
  refine xr_iload_n C dX7_endOfFile_0 rfl ?_
  refine xr_bipush (n := 8) C dX7_endOfFile_1 (by decide +kernel) ?_
  refine xr_iadd C dX7_endOfFile_3 ?_
  refine xr_aload_n C dX7_endOfFile_4 rfl ?_
  refine xr_get C (Cn := RX7) (T := TX7) (N := 8) (by decide +kernel) g1 rfl 1 (by decide) (C.1.2.2.2.2 (.fieldLink RX7 15 "OssuaryVault$Reading" "stream" "LOssuaryVault$Bytes;") (by decide +kernel)) (fun _ h => h) rfl dX7_endOfFile_5 ?_
  refine xr_iload_n C dX7_endOfFile_8 rfl ?_
  refine xr_iconst (n := 4) C dX7_endOfFile_9 (by decide +kernel) ?_
  refine xr_iadd C dX7_endOfFile_10 ?_
  refine xr_callV1i C (c_word l G _ _ _ _ M g2 (pl + 4) (by omega)) (cwV 1 C.1.2.2.2.2 gX7_endOfFile_X0_word rfl rfl rfl (by decide +kernel) ⟨Nat.le_of_ble_eq_true rfl, Nat.le_of_ble_eq_true rfl⟩) g2.1 rfl (Nat.le_of_ble_eq_true rfl) ⟨by dsimp only; omega, by dsimp only; omega⟩ dX7_endOfFile_11 (fun r1 M9 hp9 => ?_)
  obtain ⟨rfl, rfl⟩ := hp9
  refine xr_iadd C dX7_endOfFile_14 ?_
  exact xr_iret C hr hlk ⟨_, rfl, rfl, rfl⟩ (by omega) (by omega) dX7_endOfFile_15
set_option maxHeartbeats 4000000 in
set_option maxRecDepth 100000 in
theorem c_liesAt (l : Launch) (G : mq_G) (La : Nat → Nat) (hI : mq_inj La) (op : Bool) (da pa : Int) (ix : Bool) (n : Nat) (S : List Nat) (fc : Nat → List Nat) (fk fp ft : Nat → Int) (fg : Nat → Bool) (M : mq_M) (hS : rdI G M La op da pa ix n S fc fk fp ft fg) (pl : Int) (hpl : -100 ≤ pl ∧ pl < 1000000) : mq_T l yX7_liesAt wsX7_liesAt { frames := 3, cells := 0, slots := 0, locals := 63 } G [.ref (La 20), .int (zI pl)] M (mq_ri M (mq_b (rdLies S pl))) 0 0 := by
  refine mq_Met.of (cc := cX7_liesAt) (maxL := 2) (ret := (some .boolean)) (by decide) rfl (Nat.le_of_ble_eq_true rfl) rfl rfl ?_
  intro p_ e_ s_ m_ args_ below_ meth_ c_ z_ C hr hlk hname
  have hS0 := hS
  obtain ⟨g1, g2, ⟨ff, g3, g4⟩, g5⟩ := hS
  have hSl : S.length ≤ 40700 := g2.2.2.1
  have hSb := g2.2.2.2.2.1
  have b0 := mq_gd_lt hSb pl
  have b1 := mq_gd_lt hSb (pl + 1)
  have b2 := rdEnd_rng hSb pl
  refine xr_iload_n C dX7_liesAt_0 rfl ?_
  refine xr_if_lt C dX7_liesAt_1 rfl (by first | omega | (dsimp only; omega)) (fun hq1 => ?_) (fun hq1 => ?_)
  · refine xr_iconst (n := 0) C dX7_liesAt_64 (by decide +kernel) ?_
    exact xr_zret C hr (by decide +kernel) hlk ⟨_, rfl, by rw [show rdLies S pl = false from decide_eq_false (fun q => by obtain ⟨q0, q1, q2, q3, q4⟩ := q; omega)]; rfl, rfl⟩ (by omega) (by omega) dX7_liesAt_65
  · refine xr_iload_n C dX7_liesAt_4 rfl ?_
    refine xr_bipush (n := 8) C dX7_liesAt_5 (by decide +kernel) ?_
    refine xr_iadd C dX7_liesAt_7 ?_
    refine xr_aload_n C dX7_liesAt_8 rfl ?_
    refine xr_get C (Cn := RX7) (T := TX7) (N := 8) (by decide +kernel) g1 rfl 1 (by decide) (C.1.2.2.2.2 (.fieldLink RX7 15 "OssuaryVault$Reading" "stream" "LOssuaryVault$Bytes;") (by decide +kernel)) (fun _ h => h) rfl dX7_liesAt_9 ?_
    refine xr_callV0i C (c_size l G _ _ _ _ M g2) (cwV 0 C.1.2.2.2.2 gX7_liesAt_X0_size rfl rfl rfl (by decide +kernel) ⟨Nat.le_of_ble_eq_true rfl, Nat.le_of_ble_eq_true rfl⟩) g2.1 rfl (Nat.le_of_ble_eq_true rfl) ⟨by dsimp only; omega, by dsimp only; omega⟩ dX7_liesAt_12 (fun r2 M9 hp9 => ?_)
    obtain ⟨rfl, rfl⟩ := hp9
    refine xr_icmp_gt C dX7_liesAt_15 rfl (by first | omega | (dsimp only; omega)) (by first | omega | (dsimp only; omega)) (fun hq3 => ?_) (fun hq3 => ?_)
    · refine xr_iconst (n := 0) C dX7_liesAt_64 (by decide +kernel) ?_
      exact xr_zret C hr (by decide +kernel) hlk ⟨_, rfl, by rw [show rdLies S pl = false from decide_eq_false (fun q => by obtain ⟨q0, q1, q2, q3, q4⟩ := q; omega)]; rfl, rfl⟩ (by omega) (by omega) dX7_liesAt_65
    · refine xr_aload_n C dX7_liesAt_18 rfl ?_
      refine xr_get C (Cn := RX7) (T := TX7) (N := 8) (by decide +kernel) g1 rfl 1 (by decide) (C.1.2.2.2.2 (.fieldLink RX7 15 "OssuaryVault$Reading" "stream" "LOssuaryVault$Bytes;") (by decide +kernel)) (fun _ h => h) rfl dX7_liesAt_19 ?_
      refine xr_iload_n C dX7_liesAt_22 rfl ?_
      refine xr_callV1i C (c_at l G _ _ _ _ M g2 pl (by omega)) (cwV 1 C.1.2.2.2.2 gX7_liesAt_X0_at rfl rfl rfl (by decide +kernel) ⟨Nat.le_of_ble_eq_true rfl, Nat.le_of_ble_eq_true rfl⟩) g2.1 rfl (Nat.le_of_ble_eq_true rfl) ⟨by dsimp only; omega, by dsimp only; omega⟩ dX7_liesAt_23 (fun r4 M9 hp9 => ?_)
      obtain ⟨rfl, rfl⟩ := hp9
      refine xr_bipush (n := 69) C dX7_liesAt_26 (by decide +kernel) ?_
      refine xr_icmp_ne C dX7_liesAt_28 rfl (by first | omega | (dsimp only; omega)) (by first | omega | (dsimp only; omega)) (fun hq5 => ?_) (fun hq5 => ?_)
      · refine xr_iconst (n := 0) C dX7_liesAt_64 (by decide +kernel) ?_
        exact xr_zret C hr (by decide +kernel) hlk ⟨_, rfl, by rw [show rdLies S pl = false from decide_eq_false (fun q => by obtain ⟨q0, q1, q2, q3, q4⟩ := q; omega)]; rfl, rfl⟩ (by omega) (by omega) dX7_liesAt_65
      · refine xr_aload_n C dX7_liesAt_31 rfl ?_
        refine xr_get C (Cn := RX7) (T := TX7) (N := 8) (by decide +kernel) g1 rfl 1 (by decide) (C.1.2.2.2.2 (.fieldLink RX7 15 "OssuaryVault$Reading" "stream" "LOssuaryVault$Bytes;") (by decide +kernel)) (fun _ h => h) rfl dX7_liesAt_32 ?_
        refine xr_iload_n C dX7_liesAt_35 rfl ?_
        refine xr_iconst (n := 1) C dX7_liesAt_36 (by decide +kernel) ?_
        refine xr_iadd C dX7_liesAt_37 ?_
        refine xr_callV1i C (c_at l G _ _ _ _ M g2 (pl + 1) (by omega)) (cwV 1 C.1.2.2.2.2 gX7_liesAt_X0_at rfl rfl rfl (by decide +kernel) ⟨Nat.le_of_ble_eq_true rfl, Nat.le_of_ble_eq_true rfl⟩) g2.1 rfl (Nat.le_of_ble_eq_true rfl) ⟨by dsimp only; omega, by dsimp only; omega⟩ dX7_liesAt_38 (fun r6 M9 hp9 => ?_)
        obtain ⟨rfl, rfl⟩ := hp9
        refine xr_iconst (n := 1) C dX7_liesAt_41 (by decide +kernel) ?_
        refine xr_icmp_gt C dX7_liesAt_42 rfl (by first | omega | (dsimp only; omega)) (by first | omega | (dsimp only; omega)) (fun hq7 => ?_) (fun hq7 => ?_)
        · refine xr_iconst (n := 0) C dX7_liesAt_64 (by decide +kernel) ?_
          exact xr_zret C hr (by decide +kernel) hlk ⟨_, rfl, by rw [show rdLies S pl = false from decide_eq_false (fun q => by obtain ⟨q0, q1, q2, q3, q4⟩ := q; omega)]; rfl, rfl⟩ (by omega) (by omega) dX7_liesAt_65
        · refine xr_aload_n C dX7_liesAt_45 rfl ?_
          refine xr_iload_n C dX7_liesAt_46 rfl ?_
          refine xr_callV1i C (c_endOfFile l G La hI op da pa ix n S fc fk fp ft fg M hS0 pl hpl) (cwV 1 C.1.2.2.2.2 gX7_liesAt_X7_endOfFile rfl rfl rfl (by decide +kernel) ⟨Nat.le_of_ble_eq_true rfl, Nat.le_of_ble_eq_true rfl⟩) g1 rfl (Nat.le_of_ble_eq_true rfl) ⟨by dsimp only; omega, by dsimp only; omega⟩ dX7_liesAt_47 (fun r8 M9 hp9 => ?_)
          obtain ⟨rfl, rfl⟩ := hp9
          refine xr_aload_n C dX7_liesAt_50 rfl ?_
          refine xr_get C (Cn := RX7) (T := TX7) (N := 8) (by decide +kernel) g1 rfl 1 (by decide) (C.1.2.2.2.2 (.fieldLink RX7 15 "OssuaryVault$Reading" "stream" "LOssuaryVault$Bytes;") (by decide +kernel)) (fun _ h => h) rfl dX7_liesAt_51 ?_
          refine xr_callV0i C (c_size l G _ _ _ _ M g2) (cwV 0 C.1.2.2.2.2 gX7_liesAt_X0_size rfl rfl rfl (by decide +kernel) ⟨Nat.le_of_ble_eq_true rfl, Nat.le_of_ble_eq_true rfl⟩) g2.1 rfl (Nat.le_of_ble_eq_true rfl) ⟨by dsimp only; omega, by dsimp only; omega⟩ dX7_liesAt_54 (fun r9 M9 hp9 => ?_)
          obtain ⟨rfl, rfl⟩ := hp9
          refine xr_icmp_gt C dX7_liesAt_57 rfl (by first | omega | (dsimp only; omega)) (by first | omega | (dsimp only; omega)) (fun hq10 => ?_) (fun hq10 => ?_)
          · refine xr_iconst (n := 0) C dX7_liesAt_64 (by decide +kernel) ?_
            exact xr_zret C hr (by decide +kernel) hlk ⟨_, rfl, by rw [show rdLies S pl = false from decide_eq_false (fun q => by obtain ⟨q0, q1, q2, q3, q4⟩ := q; omega)]; rfl, rfl⟩ (by omega) (by omega) dX7_liesAt_65
          · refine xr_iconst (n := 1) C dX7_liesAt_60 (by decide +kernel) ?_
            refine xr_goto C dX7_liesAt_61 rfl ?_
            exact xr_zret C hr (by decide +kernel) hlk ⟨_, rfl, by rw [show rdLies S pl = true from decide_eq_true (by refine ⟨?_, ?_, ?_, ?_, ?_⟩ <;> omega)]; rfl, rfl⟩ (by omega) (by omega) dX7_liesAt_65
set_option maxHeartbeats 4000000 in
set_option maxRecDepth 100000 in
theorem c_indexStands (l : Launch) (G : mq_G) (La : Nat → Nat) (hI : mq_inj La) (op : Bool) (da pa : Int) (ix : Bool) (n : Nat) (S : List Nat) (fc : Nat → List Nat) (fk fp ft : Nat → Int) (fg : Nat → Bool) (M : mq_M) (hS : rdI G M La op da pa ix n S fc fk fp ft fg) (hC : ckI G M (La 1) (La 2)) : mq_T l yX7_indexStands wsX7_indexStands { frames := 3, cells := 0, slots := 0, locals := 70 } G [.ref (La 20)] M (mq_ri M (mq_b (rdIx S))) 0 0 := by
  refine mq_Met.of (cc := cX7_indexStands) (maxL := 3) (ret := (some .boolean)) (by decide) rfl (Nat.le_of_ble_eq_true rfl) rfl rfl ?_
  intro p_ e_ s_ m_ args_ below_ meth_ c_ z_ C hr hlk hname
  have hS0 := hS
  obtain ⟨g1, g2, ⟨ff, g3, g4⟩, g5⟩ := hS
  have hSl : S.length ≤ 40700 := g2.2.2.1
  have hSb := g2.2.2.2.2.1
  have htd : rdTail S = (S.length : Int) - 6 := rfl
  have b0 := mq_gd_lt hSb (rdTail S)
  have b1 := mq_gd_lt hSb (rdTail S + 1)
  have b2 := mq_wd_lt hSb (rdTail S + 2)
  have b4 := mq_wd_lt hSb (rdTail S + 4)
  have b5 : crF 65535 (mq_part S (mq_wd S (rdTail S + 2) : Int) (rdTail S - (mq_wd S (rdTail S + 2) : Int)).toNat) < 65536 := crF_lt (by decide) _
  refine xr_aload_n C dX7_indexStands_0 rfl ?_
  refine xr_callV0i C (c_tailPlace l G La hI op da pa ix n S fc fk fp ft fg M hS0) (cwV 0 C.1.2.2.2.2 gX7_indexStands_X7_tailPlace rfl rfl rfl (by decide +kernel) ⟨Nat.le_of_ble_eq_true rfl, Nat.le_of_ble_eq_true rfl⟩) g1 rfl (Nat.le_of_ble_eq_true rfl) ⟨by dsimp only; omega, by dsimp only; omega⟩ dX7_indexStands_1 (fun r1 M9 hp9 => ?_)
  obtain ⟨rfl, rfl⟩ := hp9
  refine xr_istore_n C dX7_indexStands_4 (by decide) rfl ?_
  refine xr_aload_n C dX7_indexStands_5 rfl ?_
  refine xr_get C (Cn := RX7) (T := TX7) (N := 8) (by decide +kernel) g1 rfl 1 (by decide) (C.1.2.2.2.2 (.fieldLink RX7 15 "OssuaryVault$Reading" "stream" "LOssuaryVault$Bytes;") (by decide +kernel)) (fun _ h => h) rfl dX7_indexStands_6 ?_
  refine xr_iload_n C dX7_indexStands_9 rfl ?_
  refine xr_iconst (n := 2) C dX7_indexStands_10 (by decide +kernel) ?_
  refine xr_iadd C dX7_indexStands_11 ?_
  refine xr_callV1i C (c_word l G _ _ _ _ M g2 (rdTail S + 2) (by omega)) (cwV 1 C.1.2.2.2.2 gX7_indexStands_X0_word rfl rfl rfl (by decide +kernel) ⟨Nat.le_of_ble_eq_true rfl, Nat.le_of_ble_eq_true rfl⟩) g2.1 rfl (Nat.le_of_ble_eq_true rfl) ⟨by dsimp only; omega, by dsimp only; omega⟩ dX7_indexStands_12 (fun r2 M9 hp9 => ?_)
  obtain ⟨rfl, rfl⟩ := hp9
  refine xr_istore_n C dX7_indexStands_15 (by decide) rfl ?_
  refine xr_iload_n C dX7_indexStands_16 rfl ?_
  refine xr_if_lt C dX7_indexStands_17 rfl (by first | omega | (dsimp only; omega)) (fun hq3 => ?_) (fun hq3 => ?_)
  · refine xr_iconst (n := 0) C dX7_indexStands_82 (by decide +kernel) ?_
    exact xr_zret C hr (by decide +kernel) hlk ⟨_, rfl, by rw [show rdIx S = false from decide_eq_false (fun q => by obtain ⟨q0, q1, q2, q3⟩ := q; omega)]; rfl, rfl⟩ (by omega) (by omega) dX7_indexStands_83
  · refine xr_aload_n C dX7_indexStands_20 rfl ?_
    refine xr_get C (Cn := RX7) (T := TX7) (N := 8) (by decide +kernel) g1 rfl 1 (by decide) (C.1.2.2.2.2 (.fieldLink RX7 15 "OssuaryVault$Reading" "stream" "LOssuaryVault$Bytes;") (by decide +kernel)) (fun _ h => h) rfl dX7_indexStands_21 ?_
    refine xr_iload_n C dX7_indexStands_24 rfl ?_
    refine xr_callV1i C (c_at l G _ _ _ _ M g2 (rdTail S) (by omega)) (cwV 1 C.1.2.2.2.2 gX7_indexStands_X0_at rfl rfl rfl (by decide +kernel) ⟨Nat.le_of_ble_eq_true rfl, Nat.le_of_ble_eq_true rfl⟩) g2.1 rfl (Nat.le_of_ble_eq_true rfl) ⟨by dsimp only; omega, by dsimp only; omega⟩ dX7_indexStands_25 (fun r4 M9 hp9 => ?_)
    obtain ⟨rfl, rfl⟩ := hp9
    refine xr_bipush (n := 88) C dX7_indexStands_28 (by decide +kernel) ?_
    refine xr_icmp_ne C dX7_indexStands_30 rfl (by first | omega | (dsimp only; omega)) (by first | omega | (dsimp only; omega)) (fun hq5 => ?_) (fun hq5 => ?_)
    · refine xr_iconst (n := 0) C dX7_indexStands_82 (by decide +kernel) ?_
      exact xr_zret C hr (by decide +kernel) hlk ⟨_, rfl, by rw [show rdIx S = false from decide_eq_false (fun q => by obtain ⟨q0, q1, q2, q3⟩ := q; omega)]; rfl, rfl⟩ (by omega) (by omega) dX7_indexStands_83
    · refine xr_iload_n C dX7_indexStands_33 rfl ?_
      refine xr_bipush (n := 6) C dX7_indexStands_34 (by decide +kernel) ?_
      refine xr_aload_n C dX7_indexStands_36 rfl ?_
      refine xr_get C (Cn := RX7) (T := TX7) (N := 8) (by decide +kernel) g1 rfl 1 (by decide) (C.1.2.2.2.2 (.fieldLink RX7 15 "OssuaryVault$Reading" "stream" "LOssuaryVault$Bytes;") (by decide +kernel)) (fun _ h => h) rfl dX7_indexStands_37 ?_
      refine xr_iload_n C dX7_indexStands_40 rfl ?_
      refine xr_iconst (n := 1) C dX7_indexStands_41 (by decide +kernel) ?_
      refine xr_iadd C dX7_indexStands_42 ?_
      refine xr_callV1i C (c_at l G _ _ _ _ M g2 (rdTail S + 1) (by omega)) (cwV 1 C.1.2.2.2.2 gX7_indexStands_X0_at rfl rfl rfl (by decide +kernel) ⟨Nat.le_of_ble_eq_true rfl, Nat.le_of_ble_eq_true rfl⟩) g2.1 rfl (Nat.le_of_ble_eq_true rfl) ⟨by dsimp only; omega, by dsimp only; omega⟩ dX7_indexStands_43 (fun r6 M9 hp9 => ?_)
      obtain ⟨rfl, rfl⟩ := hp9
      refine xr_imul C dX7_indexStands_46 ?_
      refine xr_iadd C dX7_indexStands_47 ?_
      refine xr_iload_n C dX7_indexStands_48 rfl ?_
      refine xr_icmp_ne C dX7_indexStands_49 rfl (by first | omega | (dsimp only; omega)) (by first | omega | (dsimp only; omega)) (fun hq7 => ?_) (fun hq7 => ?_)
      · refine xr_iconst (n := 0) C dX7_indexStands_82 (by decide +kernel) ?_
        exact xr_zret C hr (by decide +kernel) hlk ⟨_, rfl, by rw [show rdIx S = false from decide_eq_false (fun q => by obtain ⟨q0, q1, q2, q3⟩ := q; omega)]; rfl, rfl⟩ (by omega) (by omega) dX7_indexStands_83
      · refine xr_aload_n C dX7_indexStands_52 rfl ?_
        refine xr_get C (Cn := RX7) (T := TX7) (N := 8) (by decide +kernel) g1 rfl 0 (by decide) (C.1.2.2.2.2 (.fieldLink RX7 27 "OssuaryVault$Reading" "check" "LOssuaryVault$Check;") (by decide +kernel)) (fun _ h => h) rfl dX7_indexStands_53 ?_
        refine xr_aload_n C dX7_indexStands_56 rfl ?_
        refine xr_get C (Cn := RX7) (T := TX7) (N := 8) (by decide +kernel) g1 rfl 1 (by decide) (C.1.2.2.2.2 (.fieldLink RX7 15 "OssuaryVault$Reading" "stream" "LOssuaryVault$Bytes;") (by decide +kernel)) (fun _ h => h) rfl dX7_indexStands_57 ?_
        refine xr_iload_n C dX7_indexStands_60 rfl ?_
        refine xr_iload_n C dX7_indexStands_61 rfl ?_
        refine xr_callV3i C (c_over l G _ _ M hC _ _ _ _ g2 (mq_wd S (rdTail S + 2) : Int) (rdTail S) (by omega) (by omega)) (cwV 3 C.1.2.2.2.2 gX7_indexStands_X1_over rfl rfl rfl (by decide +kernel) ⟨Nat.le_of_ble_eq_true rfl, Nat.le_of_ble_eq_true rfl⟩) hC.1 rfl (Nat.le_of_ble_eq_true rfl) ⟨by dsimp only; omega, by dsimp only; omega⟩ dX7_indexStands_62 (fun r8 M9 hp9 => ?_)
        obtain ⟨rfl, rfl⟩ := hp9
        refine xr_aload_n C dX7_indexStands_65 rfl ?_
        refine xr_get C (Cn := RX7) (T := TX7) (N := 8) (by decide +kernel) g1 rfl 1 (by decide) (C.1.2.2.2.2 (.fieldLink RX7 15 "OssuaryVault$Reading" "stream" "LOssuaryVault$Bytes;") (by decide +kernel)) (fun _ h => h) rfl dX7_indexStands_66 ?_
        refine xr_iload_n C dX7_indexStands_69 rfl ?_
        refine xr_iconst (n := 4) C dX7_indexStands_70 (by decide +kernel) ?_
        refine xr_iadd C dX7_indexStands_71 ?_
        refine xr_callV1i C (c_word l G _ _ _ _ M g2 (rdTail S + 4) (by omega)) (cwV 1 C.1.2.2.2.2 gX7_indexStands_X0_word rfl rfl rfl (by decide +kernel) ⟨Nat.le_of_ble_eq_true rfl, Nat.le_of_ble_eq_true rfl⟩) g2.1 rfl (Nat.le_of_ble_eq_true rfl) ⟨by dsimp only; omega, by dsimp only; omega⟩ dX7_indexStands_72 (fun r9 M9 hp9 => ?_)
        obtain ⟨rfl, rfl⟩ := hp9
        refine xr_icmp_ne C dX7_indexStands_75 rfl (by first | omega | (dsimp only; omega)) (by first | omega | (dsimp only; omega)) (fun hq10 => ?_) (fun hq10 => ?_)
        · refine xr_iconst (n := 0) C dX7_indexStands_82 (by decide +kernel) ?_
          exact xr_zret C hr (by decide +kernel) hlk ⟨_, rfl, by rw [show rdIx S = false from decide_eq_false (fun q => by obtain ⟨q0, q1, q2, q3⟩ := q; omega)]; rfl, rfl⟩ (by omega) (by omega) dX7_indexStands_83
        · refine xr_iconst (n := 1) C dX7_indexStands_78 (by decide +kernel) ?_
          refine xr_goto C dX7_indexStands_79 rfl ?_
          exact xr_zret C hr (by decide +kernel) hlk ⟨_, rfl, by rw [show rdIx S = true from decide_eq_true (by refine ⟨?_, ?_, ?_, ?_⟩ <;> omega)]; rfl, rfl⟩ (by omega) (by omega) dX7_indexStands_83
set_option maxHeartbeats 4000000 in
set_option maxRecDepth 100000 in
theorem c_close (l : Launch) (G : mq_G) (La : Nat → Nat) (hI : mq_inj La) (op : Bool) (da pa : Int) (ix : Bool) (n : Nat) (S : List Nat) (fc : Nat → List Nat) (fk fp ft : Nat → Int) (fg : Nat → Bool) (M : mq_M) (hS : rdI G M La op da pa ix n S fc fk fp ft fg) : mq_T l yX7_close wsX7_close { frames := 0, cells := 0, slots := 0, locals := 0 } G [.ref (La 20)] M (mq_pv (fun M2 => rdI G M2 La false da pa ix n S fc fk fp ft fg ∧ mq_FR La [20] M M2)) 0 0 := by
  refine mq_Met.of (cc := cX7_close) (maxL := 1) (ret := none) (by decide) rfl (Nat.le_of_ble_eq_true rfl) rfl rfl ?_
  intro p_ e_ s_ m_ args_ below_ meth_ c_ z_ C hr hlk hname
  have hS0 := hS
  obtain ⟨g1, g2, ⟨ff, g3, g4⟩, g5⟩ := hS
  have hSl : S.length ≤ 40700 := g2.2.2.1
  have hSb := g2.2.2.2.2.1
  refine xr_aload_n C dX7_close_0 rfl ?_
  refine xr_iconst (n := 0) C dX7_close_1 (by decide +kernel) ?_
  refine xr_put C (Cn := RX7) (T := TX7) (N := 8) (by decide +kernel) g1 rfl 3 (by decide) tyX7 tyX7_ok nmX7 (C.1.2.2.2.2 (.fieldLink RX7 36 "OssuaryVault$Reading" "isOpen" "Z") (by decide +kernel)) (fun _ h => h) rfl (tyX7_ok 3 (by decide)) rfl rfl (Nat.le_of_ble_eq_true rfl) dX7_close_2 ?_
  refine mq_ren (fun M1 hM1 => ?_)
  have F1 : mq_FR La [20] M M1 := mq_F.up hM1 (by simp)
  have hT : ∀ r ∈ [20], r < 275 := by decide
  exact xr_vret C hr hlk ⟨rfl, ⟨by rw [hM1, mq_up_s]; rfl, g2.fr F1 (mq_ni hI (by decide) hT (by decide)) (mq_ni hI (by decide) hT (by decide)), ⟨ff, (F1 (La 23) (mq_ni hI (by decide) hT (by decide))).trans g3, g4⟩, fun k hk => (g5 k hk).fr hI F1 hk hT (fun r h1 h2 => by simp; omega)⟩, F1⟩ (by omega) (by omega) dX7_close_5
set_option maxHeartbeats 4000000 in
set_option maxRecDepth 100000 in
theorem c_rdAt (l : Launch) (G : mq_G) (La : Nat → Nat) (hI : mq_inj La) (op : Bool) (da pa : Int) (ix : Bool) (n : Nat) (S : List Nat) (fc : Nat → List Nat) (fk fp ft : Nat → Int) (fg : Nat → Bool) (M : mq_M) (hS : rdI G M La op da pa ix n S fc fk fp ft fg) (k : Nat) (hk : k < n) (hk2 : k < 40) (hn : n ≤ 40) : mq_T l yX7_at wsX7_at { frames := 0, cells := 0, slots := 0, locals := 0 } G [.ref (La 20), .int (zI (k : Int))] M (mq_pa (fun r M2 => r = La (155 + 3 * k) ∧ M = M2)) 0 0 := by
  refine mq_Met.of (cc := cX7_at) (maxL := 2) (ret := (some (.object "OssuaryVault$FoundFile"))) (by decide) rfl (Nat.le_of_ble_eq_true rfl) rfl rfl ?_
  intro p_ e_ s_ m_ args_ below_ meth_ c_ z_ C hr hlk hname
  have hS0 := hS
  obtain ⟨g1, g2, ⟨ff, g3, g4⟩, g5⟩ := hS
  have hSl : S.length ≤ 40700 := g2.2.2.1
  have hSb := g2.2.2.2.2.1
  refine xr_iload_n C dX7_at_0 rfl ?_
  refine xr_if_lt C dX7_at_1 rfl (by first | omega | (dsimp only; omega)) (fun hq => absurd hq (by omega)) (fun _ => ?_)
  refine xr_iload_n C dX7_at_4 rfl ?_
  refine xr_aload_n C dX7_at_5 rfl ?_
  refine xr_get C (Cn := RX7) (T := TX7) (N := 8) (by decide +kernel) g1 rfl 7 (by decide) (C.1.2.2.2.2 (.fieldLink RX7 32 "OssuaryVault$Reading" "count" "I") (by decide +kernel)) (fun _ h => h) rfl dX7_at_6 ?_
  refine xr_icmp_ge C dX7_at_9 rfl (by first | omega | (dsimp only; omega)) (by first | omega | (dsimp only; omega)) (fun hq => absurd hq (by omega)) (fun _ => ?_)
  refine xr_iload_n C dX7_at_12 rfl ?_
  refine xr_aload_n C dX7_at_13 rfl ?_
  refine xr_get C (Cn := RX7) (T := TX7) (N := 8) (by decide +kernel) g1 rfl 2 (by decide) (C.1.2.2.2.2 (.fieldLink RX7 23 "OssuaryVault$Reading" "entries" "[LOssuaryVault$FoundFile;") (by decide +kernel)) (fun _ h => h) rfl dX7_at_14 ?_
  refine xr_alen C g3 mq_tG dX7_at_17 ?_
  refine xr_icmp_ge C dX7_at_18 rfl (by first | omega | (dsimp only; omega)) (by first | omega | (dsimp only; omega)) (fun hq => absurd hq (by dsimp only; omega)) (fun _ => ?_)
  refine xr_aload_n C dX7_at_21 rfl ?_
  refine xr_get C (Cn := RX7) (T := TX7) (N := 8) (by decide +kernel) g1 rfl 2 (by decide) (C.1.2.2.2.2 (.fieldLink RX7 23 "OssuaryVault$Reading" "entries" "[LOssuaryVault$FoundFile;") (by decide +kernel)) (fun _ h => h) rfl dX7_at_22 ?_
  refine xr_iload_n C dX7_at_25 rfl ?_
  refine xr_aald C g3 mq_tG (by first | omega | (dsimp only; omega)) (by first | omega | (dsimp only; omega)) (by first | omega | (dsimp only; omega)) dX7_at_26 ?_
  rw [Int.toNat_natCast, g4 k hk2]
  refine mq_rfs ?_
  refine xr_goto C dX7_at_27 rfl ?_
  exact xr_aret (v := some (La (155 + 3 * k))) C hr (Or.inl ⟨_, rfl⟩) hlk ⟨_, rfl, rfl, rfl⟩ (by omega) (by omega) dX7_at_31
