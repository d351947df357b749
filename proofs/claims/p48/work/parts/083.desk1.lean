set_option maxHeartbeats 4000000 in
set_option maxRecDepth 100000 in
theorem c_swap (l : Launch) (G : mq_G) (La : Nat → Nat) (hI : mq_inj La) (pv : Nat → Nat) (h : Nat → Bool) (d : Nat → List Nat) (vd : Nat → Int) (ld mb : Int) (nu ho : Nat → Int) (M : mq_M) (hP : shP pv h d vd) (hS : shI G M La pv h d vd ld mb nu ho) (i j : Nat) (hi : i < 16) (hj : j < 16) : mq_T l yX9_swap wsX9_swap { frames := 1, cells := 0, slots := 0, locals := 21 } G [.ref (La 12), .int (zI (i : Int)), .int (zI (j : Int))] M (mq_pv (fun M2 => shI G M2 La (swF pv i j) (swF h i j) (swF d i j) (swF vd i j) ld mb nu ho ∧ mq_FR La [13] M M2)) 0 0 := by
  refine mq_Met.of (cc := cX9_swap) (maxL := 5) (ret := none) (by decide) rfl (Nat.le_of_ble_eq_true rfl) rfl rfl ?_
  intro p_ e_ s_ m_ args_ below_ meth_ c_ z_ C hr hlk hname
  have hS0 := hS
  obtain ⟨g1, ⟨fp, g2, g3⟩, ⟨fn, g4, g5⟩, ⟨fh, g6, g7⟩, g8⟩ := hS
  refine xr_aload_n C dX9_swap_0 rfl ?_
  refine xr_iload_n C dX9_swap_1 rfl ?_
  refine xr_callV1a C (c_shAt l G La hI pv h d vd ld mb nu ho M hP hS0 i hi) (cwV 1 C.1.2.2.2.2 gX9_swap_X9_at rfl rfl rfl (by decide +kernel) ⟨Nat.le_of_ble_eq_true rfl, Nat.le_of_ble_eq_true rfl⟩) g1 rfl (Nat.le_of_ble_eq_true rfl) ⟨by dsimp only; omega, by dsimp only; omega⟩ dX9_swap_2 (fun r9 M9 hp9 => ?_)
  obtain ⟨rfl, rfl⟩ := hp9
  refine xr_astore_n C dX9_swap_5 (by decide) rfl ?_
  refine xr_aload_n C dX9_swap_6 rfl ?_
  refine xr_iload_n C dX9_swap_7 rfl ?_
  refine xr_callV1a C (c_shAt l G La hI pv h d vd ld mb nu ho M hP hS0 j hj) (cwV 1 C.1.2.2.2.2 gX9_swap_X9_at rfl rfl rfl (by decide +kernel) ⟨Nat.le_of_ble_eq_true rfl, Nat.le_of_ble_eq_true rfl⟩) g1 rfl (Nat.le_of_ble_eq_true rfl) ⟨by dsimp only; omega, by dsimp only; omega⟩ dX9_swap_8 (fun r9 M9 hp9 => ?_)
  obtain ⟨rfl, rfl⟩ := hp9
  refine xr_astore C dX9_swap_11 (by decide) rfl ?_
  refine xr_aload_n C dX9_swap_13 rfl ?_
  refine xr_ifnull_s C dX9_swap_14 ?_
  refine xr_aload C dX9_swap_17 rfl ?_
  refine xr_ifnull_s C dX9_swap_19 ?_
  refine xr_aload_n C dX9_swap_22 rfl ?_
  refine xr_get C (Cn := RX9) (T := TX9) (N := 7) (by decide +kernel) g1 rfl 1 (by decide) (C.1.2.2.2.2 (.fieldLink RX9 11 "OssuaryVault$Shelf" "places" "[LOssuaryVault$Volume;") (by decide +kernel)) (fun _ h => h) rfl dX9_swap_23 ?_
  refine xr_iload_n C dX9_swap_26 rfl ?_
  refine xr_aload C dX9_swap_27 rfl ?_
  refine xr_aast C (r := (RX10, TX10, 4)) g2 mq_tV (g8 j (by omega)).1 rfl (by first | omega | (dsimp only; omega)) (by first | omega | (dsimp only; omega)) (by first | omega | (dsimp only; omega)) dX9_swap_29 ?_
  refine mq_ren (fun M1 hM1 => ?_)
  rw [Int.toNat_natCast] at hM1
  have F1 : mq_FR La [13] M M1 := mq_F.up hM1 (by simp)
  have hT : ∀ r ∈ [13], r < 275 := by decide
  have k1 := (F1 (La 12) (mq_ni hI (by decide) hT (by decide))).trans g1
  have k2 : M1 (La 13) = some (.inl (G.2.2.2.1, 16, .inr (.inr (.inr (.inr (va_up fp i (some (La (104 + 3 * pv j)))))))) ) := by rw [hM1, mq_up_s]
  have k8 := (g8 i (by omega)).fr hI F1 (hP.1 i (by omega)) hT (by simp; omega) (by simp; omega) (by simp; omega)
  refine xr_aload_n C dX9_swap_30 rfl ?_
  refine xr_get C (Cn := RX9) (T := TX9) (N := 7) (by decide +kernel) k1 rfl 1 (by decide) (C.1.2.2.2.2 (.fieldLink RX9 11 "OssuaryVault$Shelf" "places" "[LOssuaryVault$Volume;") (by decide +kernel)) (fun _ h => h) rfl dX9_swap_31 ?_
  refine xr_iload_n C dX9_swap_34 rfl ?_
  refine xr_aload_n C dX9_swap_35 rfl ?_
  refine xr_aast C (r := (RX10, TX10, 4)) k2 mq_tV k8.1 rfl (by first | omega | (dsimp only; omega)) (by first | omega | (dsimp only; omega)) (by first | omega | (dsimp only; omega)) dX9_swap_36 ?_
  refine mq_ren (fun M2 hM2 => ?_)
  rw [Int.toNat_natCast] at hM2
  have F2 : mq_FR La [13] M M2 := F1.tr (mq_F.up hM2 (by simp))
  have hSn : shI G M2 La (swF pv i j) (swF h i j) (swF d i j) (swF vd i j) ld mb nu ho := by
    refine ⟨?_, ⟨va_up (va_up fp i (some (La (104 + 3 * pv j)))) j (some (La (104 + 3 * pv i))), by rw [hM2, mq_up_s], fun k hk => ?_⟩, ⟨fn, (F2 (La 14) (mq_ni hI (by decide) hT (by decide))).trans g4, g5⟩, ⟨fh, (F2 (La 15) (mq_ni hI (by decide) hT (by decide))).trans g6, g7⟩, fun k hk => ?_⟩
    · have e16 : swF pv i j 16 = pv 16 := by unfold swF; rw [fnU_n (by omega), fnU_n (by omega)]
      rw [e16]
      exact (F2 (La 12) (mq_ni hI (by decide) hT (by decide))).trans g1
    · unfold va_up swF fnU
      split
      · rfl
      · split
        · rfl
        · exact g3 k hk
    · have hq : ∀ m, m < 17 → shV G M2 La (pv m) (h m) (d m) (vd m) := fun m hm => (g8 m hm).fr hI F2 (hP.1 m hm) hT (by simp; omega) (by simp; omega) (by simp; omega)
      unfold swF fnU
      split
      · exact hq i (by omega)
      · split
        · exact hq j (by omega)
        · exact hq k hk
  exact xr_vret C hr hlk ⟨rfl, hSn, F2⟩ (by omega) (by omega) dX9_swap_37
set_option maxHeartbeats 4000000 in
set_option maxRecDepth 100000 in
theorem c_dkCount (l : Launch) (G : mq_G) (La : Nat → Nat) (hI : mq_inj La) (pf : Nat → Nat) (n : Nat) (ky : Nat → Nat) (c pk : Nat → List Nat) (ck : Nat → Nat) (M : mq_M) (hP : dkP pf n ky c ck) (hS : dkI G M La pf n ky c pk ck) : mq_T l yX2_count wsX2_count { frames := 0, cells := 0, slots := 0, locals := 0 } G [.ref (La 6)] M (mq_ri M (n : Int)) 0 0 := by
  refine mq_Met.of (cc := cX2_count) (maxL := 1) (ret := (some .int)) (by decide) rfl (Nat.le_of_ble_eq_true rfl) rfl rfl ?_
  intro p_ e_ s_ m_ args_ below_ meth_ c_ z_ C hr hlk hname
  have hS0 := hS
  obtain ⟨g1, ⟨fp, g2, g3⟩, g4⟩ := hS
  have hn := hP.2.2.1
  refine xr_aload_n C dX2_count_0 rfl ?_
  refine xr_get C (Cn := RX2) (T := TX2) (N := 5) (by decide +kernel) g1 rfl 4 (by decide) (C.1.2.2.2.2 (.fieldLink RX2 34 "OssuaryVault$Desk" "count" "I") (by decide +kernel)) (fun _ h => h) rfl dX2_count_1 ?_
  exact xr_iret C hr hlk ⟨_, rfl, rfl, rfl⟩ (by omega) (by omega) dX2_count_4
set_option maxHeartbeats 4000000 in
set_option maxRecDepth 100000 in
theorem c_dkAtW (l : Launch) (G : mq_G) (La : Nat → Nat) (hI : mq_inj La) (pf : Nat → Nat) (n : Nat) (ky : Nat → Nat) (c pk : Nat → List Nat) (ck : Nat → Nat) (M : mq_M) (hn : n ≤ 16) (hS : dkI G M La pf n ky c pk ck) (i : Nat) (hi : i < n) : mq_T l yX2_at wsX2_at { frames := 0, cells := 0, slots := 0, locals := 0 } G [.ref (La 6), .int (zI (i : Int))] M (mq_pa (fun r M2 => r = La (24 + 5 * pf i) ∧ M = M2)) 0 0 := by
  refine mq_Met.of (cc := cX2_at) (maxL := 2) (ret := (some (.object "OssuaryVault$DeskFile"))) (by decide) rfl (Nat.le_of_ble_eq_true rfl) rfl rfl ?_
  intro p_ e_ s_ m_ args_ below_ meth_ c_ z_ C hr hlk hname
  have hS0 := hS
  obtain ⟨g1, ⟨fp, g2, g3⟩, g4⟩ := hS
  refine xr_iload_n C dX2_at_0 rfl ?_
  refine xr_if_lt C dX2_at_1 rfl (by first | omega | (dsimp only; omega)) (fun hq => absurd hq (by omega)) (fun _ => ?_)
  refine xr_iload_n C dX2_at_4 rfl ?_
  refine xr_aload_n C dX2_at_5 rfl ?_
  refine xr_get C (Cn := RX2) (T := TX2) (N := 5) (by decide +kernel) g1 rfl 4 (by decide) (C.1.2.2.2.2 (.fieldLink RX2 34 "OssuaryVault$Desk" "count" "I") (by decide +kernel)) (fun _ h => h) rfl dX2_at_6 ?_
  refine xr_icmp_ge C dX2_at_9 rfl (by first | omega | (dsimp only; omega)) (by first | omega | (dsimp only; omega)) (fun hq => absurd hq (by omega)) (fun _ => ?_)
  refine xr_iload_n C dX2_at_12 rfl ?_
  refine xr_aload_n C dX2_at_13 rfl ?_
  refine xr_get C (Cn := RX2) (T := TX2) (N := 5) (by decide +kernel) g1 rfl 3 (by decide) (C.1.2.2.2.2 (.fieldLink RX2 25 "OssuaryVault$Desk" "slots" "[LOssuaryVault$DeskFile;") (by decide +kernel)) (fun _ h => h) rfl dX2_at_14 ?_
  refine xr_alen C g2 mq_tF dX2_at_17 ?_
  refine xr_icmp_ge C dX2_at_18 rfl (by first | omega | (dsimp only; omega)) (by first | omega | (dsimp only; omega)) (fun hq => absurd hq (by dsimp only; omega)) (fun _ => ?_)
  refine xr_aload_n C dX2_at_21 rfl ?_
  refine xr_get C (Cn := RX2) (T := TX2) (N := 5) (by decide +kernel) g1 rfl 3 (by decide) (C.1.2.2.2.2 (.fieldLink RX2 25 "OssuaryVault$Desk" "slots" "[LOssuaryVault$DeskFile;") (by decide +kernel)) (fun _ h => h) rfl dX2_at_22 ?_
  refine xr_iload_n C dX2_at_25 rfl ?_
  refine xr_aald C g2 mq_tF (by first | omega | (dsimp only; omega)) (by first | omega | (dsimp only; omega)) (by first | omega | (dsimp only; omega)) dX2_at_26 ?_
  rw [Int.toNat_natCast, g3 i (by omega)]
  refine mq_rfs ?_
  refine xr_goto C dX2_at_27 rfl ?_
  exact xr_aret (v := some (La (24 + 5 * pf i))) C hr (Or.inl ⟨_, rfl⟩) hlk ⟨_, rfl, rfl, rfl⟩ (by omega) (by omega) dX2_at_31
theorem c_dkAt (l : Launch) (G : mq_G) (La : Nat → Nat) (hI : mq_inj La) (pf : Nat → Nat) (n : Nat) (ky : Nat → Nat) (c pk : Nat → List Nat) (ck : Nat → Nat) (M : mq_M) (hP : dkP pf n ky c ck) (hS : dkI G M La pf n ky c pk ck) (i : Nat) (hi : i < n) : mq_T l yX2_at wsX2_at { frames := 0, cells := 0, slots := 0, locals := 0 } G [.ref (La 6), .int (zI (i : Int))] M (mq_pa (fun r M2 => r = La (24 + 5 * pf i) ∧ M = M2)) 0 0 := c_dkAtW l G La hI pf n ky c pk ck M hP.2.2.1 hS i hi
set_option maxHeartbeats 4000000 in
set_option maxRecDepth 100000 in
theorem c_dkAtN (l : Launch) (G : mq_G) (La : Nat → Nat) (hI : mq_inj La) (pf : Nat → Nat) (n : Nat) (ky : Nat → Nat) (c pk : Nat → List Nat) (ck : Nat → Nat) (M : mq_M) (hP : dkP pf n ky c ck) (hS : dkI G M La pf n ky c pk ck) (k : Int) (hk : -1000 ≤ k ∧ k < 1000) (hk2 : k < 0 ∨ (n : Int) ≤ k) : mq_T l yX2_at wsX2_at { frames := 0, cells := 0, slots := 0, locals := 0 } G [.ref (La 6), .int (zI k)] M (mq_pn (fun M2 => M = M2)) 0 0 := by
  refine mq_Met.of (cc := cX2_at) (maxL := 2) (ret := (some (.object "OssuaryVault$DeskFile"))) (by decide) rfl (Nat.le_of_ble_eq_true rfl) rfl rfl ?_
  intro p_ e_ s_ m_ args_ below_ meth_ c_ z_ C hr hlk hname
  have hS0 := hS
  obtain ⟨g1, ⟨fp, g2, g3⟩, g4⟩ := hS
  have hn := hP.2.2.1
  refine xr_iload_n C dX2_at_0 rfl ?_
  refine xr_if_lt C dX2_at_1 rfl (by first | omega | (dsimp only; omega)) (fun hq1 => ?_) (fun hq1 => ?_)
  · refine xr_null C dX2_at_30 ?_
    exact xr_aret (v := none) C hr (Or.inl ⟨_, rfl⟩) hlk ⟨rfl, rfl⟩ (by omega) (by omega) dX2_at_31
  · refine xr_iload_n C dX2_at_4 rfl ?_
    refine xr_aload_n C dX2_at_5 rfl ?_
    refine xr_get C (Cn := RX2) (T := TX2) (N := 5) (by decide +kernel) g1 rfl 4 (by decide) (C.1.2.2.2.2 (.fieldLink RX2 34 "OssuaryVault$Desk" "count" "I") (by decide +kernel)) (fun _ h => h) rfl dX2_at_6 ?_
    refine xr_icmp_ge C dX2_at_9 rfl (by first | omega | (dsimp only; omega)) (by first | omega | (dsimp only; omega)) (fun _ => ?_) (fun hq => absurd hq (by omega))
    refine xr_null C dX2_at_30 ?_
    exact xr_aret (v := none) C hr (Or.inl ⟨_, rfl⟩) hlk ⟨rfl, rfl⟩ (by omega) (by omega) dX2_at_31
set_option maxHeartbeats 4000000 in
set_option maxRecDepth 100000 in
theorem c_placeFor (l : Launch) (G : mq_G) (La : Nat → Nat) (hI : mq_inj La) (pf : Nat → Nat) (n : Nat) (ky : Nat → Nat) (c pk : Nat → List Nat) (ck : Nat → Nat) (M : mq_M) (hP : dkP pf n ky c ck) (hS : dkI G M La pf n ky c pk ck) (k : Nat) (hk : k < 65536) : mq_T l yX2_placeFor wsX2_placeFor { frames := 1, cells := 0, slots := 0, locals := 21 } G [.ref (La 6), .int (zI (k : Int))] M (mq_ri M (dkPl n ky k : Int)) 0 0 := by
  refine mq_Met.of (cc := cX2_placeFor) (maxL := 4) (ret := (some .int)) (by decide) rfl (Nat.le_of_ble_eq_true rfl) rfl rfl ?_
  intro p_ e_ s_ m_ args_ below_ meth_ c_ z_ C hr hlk hname
  have hS0 := hS
  obtain ⟨g1, ⟨fp, g2, g3⟩, g4⟩ := hS
  have hn := hP.2.2.1
  refine xr_iconst (n := 0) C dX2_placeFor_0 (by decide +kernel) ?_
  refine xr_istore_n C dX2_placeFor_1 (by decide) rfl ?_
  refine mq_loop (σ := Nat) (fun y => y ≤ n ∧ ∀ j, j < y → ky j < k) (fun y => n - y) (fun y => M) (fun y => [some (.ref (La 6)), some (.int (zI (k : Int))), some (.int (zI (y : Int))), none]) (fun y => []) ?_ 0 ⟨Nat.zero_le _, fun j hj => by omega⟩
  rintro i ⟨hi, hl⟩ ih
  try dsimp only at ih ⊢
  refine xr_iload_n C dX2_placeFor_2 rfl ?_
  refine xr_aload_n C dX2_placeFor_3 rfl ?_
  refine xr_get C (Cn := RX2) (T := TX2) (N := 5) (by decide +kernel) g1 rfl 4 (by decide) (C.1.2.2.2.2 (.fieldLink RX2 34 "OssuaryVault$Desk" "count" "I") (by decide +kernel)) (fun _ h => h) rfl dX2_placeFor_4 ?_
  refine xr_icmp_ge C dX2_placeFor_7 rfl (by first | omega | (dsimp only; omega)) (by first | omega | (dsimp only; omega)) (fun hq1 => ?_) (fun hq1 => ?_)
  · refine xr_aload_n C dX2_placeFor_36 rfl ?_
    refine xr_get C (Cn := RX2) (T := TX2) (N := 5) (by decide +kernel) g1 rfl 4 (by decide) (C.1.2.2.2.2 (.fieldLink RX2 34 "OssuaryVault$Desk" "count" "I") (by decide +kernel)) (fun _ h => h) rfl dX2_placeFor_37 ?_
    exact xr_iret C hr hlk ⟨_, rfl, by rw [dkPl_of hi hl (by omega), show i = n by omega], rfl⟩ (by omega) (by omega) dX2_placeFor_40
  · have hin : i < n := by omega
    have hky := (hP.2.2.2.1 i hin).1
    refine xr_aload_n C dX2_placeFor_10 rfl ?_
    refine xr_iload_n C dX2_placeFor_11 rfl ?_
    refine xr_callV1a C (c_dkAt l G La hI pf n ky c pk ck M hP hS0 i hin) (cwV 1 C.1.2.2.2.2 gX2_placeFor_X2_at rfl rfl rfl (by decide +kernel) ⟨Nat.le_of_ble_eq_true rfl, Nat.le_of_ble_eq_true rfl⟩) g1 rfl (Nat.le_of_ble_eq_true rfl) ⟨by dsimp only; omega, by dsimp only; omega⟩ dX2_placeFor_12 (fun r9 M9 hp9 => ?_)
    obtain ⟨rfl, rfl⟩ := hp9
    refine xr_astore_n C dX2_placeFor_15 (by decide) rfl ?_
    refine xr_aload_n C dX2_placeFor_16 rfl ?_
    refine xr_ifnull_s C dX2_placeFor_17 ?_
    refine xr_aload_n C dX2_placeFor_20 rfl ?_
    refine xr_getN C (Cn := RX3) (T := TX3) (N := 4) (by decide +kernel) (g4 i (by omega)).1 rfl 2 (by decide) (va_Nw.use rfl (C.2.2.1 ("OssuaryVault$Desk", 49, "OssuaryVault$DeskFile", "key", "I", "OssuaryVault") (by decide +kernel))) (fun _ h => h) rfl dX2_placeFor_21 ?_
    refine xr_iload_n C dX2_placeFor_24 rfl ?_
    refine xr_icmp_lt C dX2_placeFor_25 rfl (by first | omega | (dsimp only; omega)) (by first | omega | (dsimp only; omega)) (fun hq2 => ?_) (fun hq2 => ?_)
    · refine xr_iinc C dX2_placeFor_30 rfl (by decide) rfl ?_
      refine xr_goto C dX2_placeFor_33 rfl ?_
      refine mq_drop 3 ?_
      exact ih (i + 1) ⟨by omega, fun j hj => by
        by_cases hji : j = i
        · rw [hji]; omega
        · exact hl j (by omega)⟩ (by omega)
    · refine xr_iload_n C dX2_placeFor_28 rfl ?_
      exact xr_iret C hr hlk ⟨_, rfl, by rw [dkPl_of hi hl (by omega)], rfl⟩ (by omega) (by omega) dX2_placeFor_29
set_option maxHeartbeats 4000000 in
set_option maxRecDepth 100000 in
theorem c_placeOf (l : Launch) (G : mq_G) (La : Nat → Nat) (hI : mq_inj La) (pf : Nat → Nat) (n : Nat) (ky : Nat → Nat) (c pk : Nat → List Nat) (ck : Nat → Nat) (M : mq_M) (hP : dkP pf n ky c ck) (hS : dkI G M La pf n ky c pk ck) (k : Nat) (hk : k < 65536) : mq_T l yX2_placeOf wsX2_placeOf { frames := 2, cells := 0, slots := 0, locals := 44 } G [.ref (La 6), .int (zI (k : Int))] M (mq_ri M (dkOf n ky k)) 0 0 := by
  refine mq_Met.of (cc := cX2_placeOf) (maxL := 4) (ret := (some .int)) (by decide) rfl (Nat.le_of_ble_eq_true rfl) rfl rfl ?_
  intro p_ e_ s_ m_ args_ below_ meth_ c_ z_ C hr hlk hname
  have hS0 := hS
  obtain ⟨g1, ⟨fp, g2, g3⟩, g4⟩ := hS
  have hn := hP.2.2.1
  have hpl := dkPl_le n ky k
  refine xr_aload_n C dX2_placeOf_0 rfl ?_
  refine xr_iload_n C dX2_placeOf_1 rfl ?_
  refine xr_callV1i C (c_placeFor l G La hI pf n ky c pk ck M hP hS0 k hk) (cwV 1 C.1.2.2.2.2 gX2_placeOf_X2_placeFor rfl rfl rfl (by decide +kernel) ⟨Nat.le_of_ble_eq_true rfl, Nat.le_of_ble_eq_true rfl⟩) g1 rfl (Nat.le_of_ble_eq_true rfl) ⟨by dsimp only; omega, by dsimp only; omega⟩ dX2_placeOf_2 (fun r1 M9 hp9 => ?_)
  obtain ⟨rfl, rfl⟩ := hp9
  generalize hpe : dkPl n ky k = pl at hpl ⊢
  refine xr_istore_n C dX2_placeOf_5 (by decide) rfl ?_
  refine xr_aload_n C dX2_placeOf_6 rfl ?_
  refine xr_iload_n C dX2_placeOf_7 rfl ?_
  by_cases hin : pl < n
  · refine xr_callV1a C (c_dkAt l G La hI pf n ky c pk ck M hP hS0 pl hin) (cwV 1 C.1.2.2.2.2 gX2_placeOf_X2_at rfl rfl rfl (by decide +kernel) ⟨Nat.le_of_ble_eq_true rfl, Nat.le_of_ble_eq_true rfl⟩) g1 rfl (Nat.le_of_ble_eq_true rfl) ⟨by dsimp only; omega, by dsimp only; omega⟩ dX2_placeOf_8 (fun r9 M9 hp9 => ?_)
    obtain ⟨rfl, rfl⟩ := hp9
    have hky := (hP.2.2.2.1 pl hin).1
    refine xr_astore_n C dX2_placeOf_11 (by decide) rfl ?_
    refine xr_aload_n C dX2_placeOf_12 rfl ?_
    refine xr_ifnull_s C dX2_placeOf_13 ?_
    refine xr_aload_n C dX2_placeOf_16 rfl ?_
    refine xr_getN C (Cn := RX3) (T := TX3) (N := 4) (by decide +kernel) (g4 pl (by omega)).1 rfl 2 (by decide) (va_Nw.use rfl (C.2.2.1 ("OssuaryVault$Desk", 49, "OssuaryVault$DeskFile", "key", "I", "OssuaryVault") (by decide +kernel))) (fun _ h => h) rfl dX2_placeOf_17 ?_
    refine xr_iload_n C dX2_placeOf_20 rfl ?_
    refine xr_icmp_ne C dX2_placeOf_21 rfl (by first | omega | (dsimp only; omega)) (by first | omega | (dsimp only; omega)) (fun hq2 => ?_) (fun hq2 => ?_)
    · refine xr_iconst (n := (-1)) C dX2_placeOf_28 (by decide +kernel) ?_
      exact xr_iret C hr hlk ⟨_, rfl, by unfold dkOf; rw [hpe, if_neg (by omega)], rfl⟩ (by omega) (by omega) dX2_placeOf_29
    · refine xr_iload_n C dX2_placeOf_24 rfl ?_
      refine xr_goto C dX2_placeOf_25 rfl ?_
      exact xr_iret C hr hlk ⟨_, rfl, by unfold dkOf; rw [hpe, if_pos (by omega)], rfl⟩ (by omega) (by omega) dX2_placeOf_29
  · refine xr_callV1n C (c_dkAtN l G La hI pf n ky c pk ck M hP hS0 (pl : Int) (by omega) (by omega)) (cwV 1 C.1.2.2.2.2 gX2_placeOf_X2_at rfl rfl rfl (by decide +kernel) ⟨Nat.le_of_ble_eq_true rfl, Nat.le_of_ble_eq_true rfl⟩) g1 rfl (Nat.le_of_ble_eq_true rfl) ⟨by dsimp only; omega, by dsimp only; omega⟩ dX2_placeOf_8 (fun M9 hp9 => ?_)
    subst hp9
    refine xr_nstore_n C dX2_placeOf_11 (by decide) rfl ?_
    refine xr_nload_n C dX2_placeOf_12 rfl ?_
    refine xr_ifnull_n C dX2_placeOf_13 rfl ?_
    refine xr_iconst (n := (-1)) C dX2_placeOf_28 (by decide +kernel) ?_
    exact xr_iret C hr hlk ⟨_, rfl, by unfold dkOf; rw [hpe, if_neg (by omega)], rfl⟩ (by omega) (by omega) dX2_placeOf_29
set_option maxHeartbeats 4000000 in
set_option maxRecDepth 100000 in
theorem c_hasRoomFor (l : Launch) (G : mq_G) (La : Nat → Nat) (hI : mq_inj La) (pf : Nat → Nat) (n : Nat) (ky : Nat → Nat) (c pk : Nat → List Nat) (ck : Nat → Nat) (M : mq_M) (hP : dkP pf n ky c ck) (hS : dkI G M La pf n ky c pk ck) (k : Nat) (hk : k < 65536) : mq_T l yX2_hasRoomFor wsX2_hasRoomFor { frames := 3, cells := 0, slots := 0, locals := 67 } G [.ref (La 6), .int (zI (k : Int))] M (mq_ri M (if n < 16 ∨ 0 ≤ dkOf n ky k then 1 else 0)) 0 0 := by
  refine mq_Met.of (cc := cX2_hasRoomFor) (maxL := 2) (ret := (some .boolean)) (by decide) rfl (Nat.le_of_ble_eq_true rfl) rfl rfl ?_
  intro p_ e_ s_ m_ args_ below_ meth_ c_ z_ C hr hlk hname
  have hS0 := hS
  obtain ⟨g1, ⟨fp, g2, g3⟩, g4⟩ := hS
  have hn := hP.2.2.1
  have hof := dkOf_rng n ky k
  refine xr_aload_n C dX2_hasRoomFor_0 rfl ?_
  refine xr_get C (Cn := RX2) (T := TX2) (N := 5) (by decide +kernel) g1 rfl 4 (by decide) (C.1.2.2.2.2 (.fieldLink RX2 34 "OssuaryVault$Desk" "count" "I") (by decide +kernel)) (fun _ h => h) rfl dX2_hasRoomFor_1 ?_
  refine xr_aload_n C dX2_hasRoomFor_4 rfl ?_
  refine xr_get C (Cn := RX2) (T := TX2) (N := 5) (by decide +kernel) g1 rfl 3 (by decide) (C.1.2.2.2.2 (.fieldLink RX2 25 "OssuaryVault$Desk" "slots" "[LOssuaryVault$DeskFile;") (by decide +kernel)) (fun _ h => h) rfl dX2_hasRoomFor_5 ?_
  refine xr_alen C g2 mq_tF dX2_hasRoomFor_8 ?_
  refine xr_icmp_lt C dX2_hasRoomFor_9 rfl (by first | omega | (dsimp only; omega)) (by first | omega | (dsimp only; omega)) (fun hq1 => ?_) (fun hq1 => ?_)
  · change (n : Int) < (16 : Int) at hq1
    refine xr_iconst (n := 1) C dX2_hasRoomFor_20 (by decide +kernel) ?_
    refine xr_goto C dX2_hasRoomFor_21 rfl ?_
    exact xr_zret C hr (by decide +kernel) hlk ⟨_, rfl, by rw [if_pos (by omega)], rfl⟩ (by omega) (by omega) dX2_hasRoomFor_25
  · change (16 : Int) ≤ (n : Int) at hq1
    refine xr_aload_n C dX2_hasRoomFor_12 rfl ?_
    refine xr_iload_n C dX2_hasRoomFor_13 rfl ?_
    refine xr_callV1i C (c_placeOf l G La hI pf n ky c pk ck M hP hS0 k hk) (cwV 1 C.1.2.2.2.2 gX2_hasRoomFor_X2_placeOf rfl rfl rfl (by decide +kernel) ⟨Nat.le_of_ble_eq_true rfl, Nat.le_of_ble_eq_true rfl⟩) g1 rfl (Nat.le_of_ble_eq_true rfl) ⟨by dsimp only; omega, by dsimp only; omega⟩ dX2_hasRoomFor_14 (fun r2 M9 hp9 => ?_)
    obtain ⟨rfl, rfl⟩ := hp9
    refine xr_if_lt C dX2_hasRoomFor_17 rfl (by first | omega | (dsimp only; omega)) (fun hq3 => ?_) (fun hq3 => ?_)
    · refine xr_iconst (n := 0) C dX2_hasRoomFor_24 (by decide +kernel) ?_
      exact xr_zret C hr (by decide +kernel) hlk ⟨_, rfl, by rw [if_neg (by omega)], rfl⟩ (by omega) (by omega) dX2_hasRoomFor_25
    · refine xr_iconst (n := 1) C dX2_hasRoomFor_20 (by decide +kernel) ?_
      refine xr_goto C dX2_hasRoomFor_21 rfl ?_
      exact xr_zret C hr (by decide +kernel) hlk ⟨_, rfl, by rw [if_pos (by omega)], rfl⟩ (by omega) (by omega) dX2_hasRoomFor_25
set_option maxHeartbeats 4000000 in
set_option maxRecDepth 100000 in
theorem c_dkStreamSize (l : Launch) (G : mq_G) (La : Nat → Nat) (hI : mq_inj La) (pf : Nat → Nat) (n : Nat) (ky : Nat → Nat) (c pk : Nat → List Nat) (ck : Nat → Nat) (M : mq_M) (hP : dkP pf n ky c ck) (hS : dkI G M La pf n ky c pk ck) : mq_T l yX2_streamSize wsX2_streamSize { frames := 3, cells := 0, slots := 0, locals := 60 } G [.ref (La 6)] M (mq_ri M (dkSz c pk n : Int)) 0 0 := by
  refine mq_Met.of (cc := cX2_streamSize) (maxL := 4) (ret := (some .int)) (by decide) rfl (Nat.le_of_ble_eq_true rfl) rfl rfl ?_
  intro p_ e_ s_ m_ args_ below_ meth_ c_ z_ C hr hlk hname
  have hS0 := hS
  obtain ⟨g1, ⟨fp, g2, g3⟩, g4⟩ := hS
  have hn := hP.2.2.1
  refine xr_bipush (n := 6) C dX2_streamSize_0 (by decide +kernel) ?_
  refine xr_istore_n C dX2_streamSize_2 (by decide) rfl ?_
  refine xr_iconst (n := 0) C dX2_streamSize_3 (by decide +kernel) ?_
  refine xr_istore_n C dX2_streamSize_4 (by decide) rfl ?_
  refine mq_loop (σ := Nat) (fun y => y ≤ n) (fun y => n - y) (fun y => M) (fun y => [some (.ref (La 6)), some (.int (zI (dkSz c pk y : Int))), some (.int (zI (y : Int))), none]) (fun y => []) ?_ 0 (Nat.zero_le _)
  rintro i hi ih
  try dsimp only at ih ⊢
  have hsz := dkSz_le (c := c) (pk := pk) (fun j hj => (g4 j hj).2.1.2.2.1) i (by omega)
  refine xr_iload_n C dX2_streamSize_5 rfl ?_
  refine xr_aload_n C dX2_streamSize_6 rfl ?_
  refine xr_get C (Cn := RX2) (T := TX2) (N := 5) (by decide +kernel) g1 rfl 4 (by decide) (C.1.2.2.2.2 (.fieldLink RX2 34 "OssuaryVault$Desk" "count" "I") (by decide +kernel)) (fun _ h => h) rfl dX2_streamSize_7 ?_
  refine xr_icmp_ge C dX2_streamSize_10 rfl (by first | omega | (dsimp only; omega)) (by first | omega | (dsimp only; omega)) (fun hq1 => ?_) (fun hq1 => ?_)
  · refine xr_iload_n C dX2_streamSize_43 rfl ?_
    exact xr_iret C hr hlk ⟨_, rfl, by rw [show i = n by omega], rfl⟩ (by omega) (by omega) dX2_streamSize_44
  · have hin : i < n := by omega
    refine xr_aload_n C dX2_streamSize_13 rfl ?_
    refine xr_iload_n C dX2_streamSize_14 rfl ?_
    refine xr_callV1a C (c_dkAt l G La hI pf n ky c pk ck M hP hS0 i hin) (cwV 1 C.1.2.2.2.2 gX2_streamSize_X2_at rfl rfl rfl (by decide +kernel) ⟨Nat.le_of_ble_eq_true rfl, Nat.le_of_ble_eq_true rfl⟩) g1 rfl (Nat.le_of_ble_eq_true rfl) ⟨by dsimp only; omega, by dsimp only; omega⟩ dX2_streamSize_15 (fun r9 M9 hp9 => ?_)
    obtain ⟨rfl, rfl⟩ := hp9
    refine xr_astore_n C dX2_streamSize_18 (by decide) rfl ?_
    refine xr_iload_n C dX2_streamSize_19 rfl ?_
    refine xr_aload_n C dX2_streamSize_20 rfl ?_
    refine xr_ifnonnull_s C dX2_streamSize_21 rfl ?_
    refine xr_aload_n C dX2_streamSize_28 rfl ?_
    refine xr_callV0i C (c_fstreamSize l G _ _ _ _ _ _ _ _ _ M (g4 i (by omega))) (cwV 0 C.1.2.2.2.2 gX2_streamSize_X3_streamSize rfl rfl rfl (by decide +kernel) ⟨Nat.le_of_ble_eq_true rfl, Nat.le_of_ble_eq_true rfl⟩) (g4 i (by omega)).1 rfl (Nat.le_of_ble_eq_true rfl) ⟨by dsimp only; omega, by dsimp only; omega⟩ dX2_streamSize_29 (fun r2 M9 hp9 => ?_)
    obtain ⟨rfl, rfl⟩ := hp9
    refine xr_bipush (n := 6) C dX2_streamSize_32 (by decide +kernel) ?_
    refine xr_iadd C dX2_streamSize_34 ?_
    refine xr_iadd C dX2_streamSize_35 ?_
    refine xr_istore_n C dX2_streamSize_36 (by decide) rfl ?_
    refine xr_iinc C dX2_streamSize_37 rfl (by decide) rfl ?_
    refine xr_goto C dX2_streamSize_40 rfl ?_
    rw [show (dkSz c pk i : Int) + (8 + ((dfB (c i) (pk i)).length : Int) + 6) = (dkSz c pk (i + 1) : Int) by rw [dkSz_s]; omega, show (i : Int) + 1 = ((i + 1 : Nat) : Int) by omega]
    refine mq_drop 3 ?_
    exact ih (i + 1) (by omega) (by omega)
set_option maxHeartbeats 4000000 in
set_option maxRecDepth 100000 in
theorem c_dkSwap (l : Launch) (G : mq_G) (La : Nat → Nat) (hI : mq_inj La) (pf : Nat → Nat) (n : Nat) (ky : Nat → Nat) (c pk : Nat → List Nat) (ck : Nat → Nat) (M : mq_M) (hq : ∀ i, i < 16 → pf i < 16) (hS : dkI G M La pf n ky c pk ck) (i j : Nat) (hi : i < 16) (hj : j < 16) : mq_T l yX2_swap wsX2_swap { frames := 0, cells := 0, slots := 0, locals := 0 } G [.ref (La 6), .int (zI (i : Int)), .int (zI (j : Int))] M (mq_pv (fun M2 => dkI G M2 La (swF pf i j) n (swF ky i j) (swF c i j) (swF pk i j) (swF ck i j) ∧ mq_FR La [11] M M2)) 0 0 := by
  refine mq_Met.of (cc := cX2_swap) (maxL := 4) (ret := none) (by decide) rfl (Nat.le_of_ble_eq_true rfl) rfl rfl ?_
  intro p_ e_ s_ m_ args_ below_ meth_ c_ z_ C hr hlk hname
  have hS0 := hS
  obtain ⟨g1, ⟨fp, g2, g3⟩, g4⟩ := hS
  refine xr_iload_n C dX2_swap_0 rfl ?_
  refine xr_if_lt C dX2_swap_1 rfl (by first | omega | (dsimp only; omega)) (fun hq => absurd hq (by omega)) (fun _ => ?_)
  refine xr_iload_n C dX2_swap_4 rfl ?_
  refine xr_aload_n C dX2_swap_5 rfl ?_
  refine xr_get C (Cn := RX2) (T := TX2) (N := 5) (by decide +kernel) g1 rfl 3 (by decide) (C.1.2.2.2.2 (.fieldLink RX2 25 "OssuaryVault$Desk" "slots" "[LOssuaryVault$DeskFile;") (by decide +kernel)) (fun _ h => h) rfl dX2_swap_6 ?_
  refine xr_alen C g2 mq_tF dX2_swap_9 ?_
  refine xr_icmp_ge C dX2_swap_10 rfl (by first | omega | (dsimp only; omega)) (by first | omega | (dsimp only; omega)) (fun hq => absurd hq (by dsimp only; omega)) (fun _ => ?_)
  refine xr_iload_n C dX2_swap_13 rfl ?_
  refine xr_if_lt C dX2_swap_14 rfl (by first | omega | (dsimp only; omega)) (fun hq => absurd hq (by omega)) (fun _ => ?_)
  refine xr_iload_n C dX2_swap_17 rfl ?_
  refine xr_aload_n C dX2_swap_18 rfl ?_
  refine xr_get C (Cn := RX2) (T := TX2) (N := 5) (by decide +kernel) g1 rfl 3 (by decide) (C.1.2.2.2.2 (.fieldLink RX2 25 "OssuaryVault$Desk" "slots" "[LOssuaryVault$DeskFile;") (by decide +kernel)) (fun _ h => h) rfl dX2_swap_19 ?_
  refine xr_alen C g2 mq_tF dX2_swap_22 ?_
  refine xr_icmp_ge C dX2_swap_23 rfl (by first | omega | (dsimp only; omega)) (by first | omega | (dsimp only; omega)) (fun hq => absurd hq (by dsimp only; omega)) (fun _ => ?_)
  refine xr_aload_n C dX2_swap_26 rfl ?_
  refine xr_get C (Cn := RX2) (T := TX2) (N := 5) (by decide +kernel) g1 rfl 3 (by decide) (C.1.2.2.2.2 (.fieldLink RX2 25 "OssuaryVault$Desk" "slots" "[LOssuaryVault$DeskFile;") (by decide +kernel)) (fun _ h => h) rfl dX2_swap_27 ?_
  refine xr_iload_n C dX2_swap_30 rfl ?_
  refine xr_aald C g2 mq_tF (by first | omega | (dsimp only; omega)) (by first | omega | (dsimp only; omega)) (by first | omega | (dsimp only; omega)) dX2_swap_31 ?_
  rw [Int.toNat_natCast, g3 i (by omega)]
  refine mq_rfs ?_
  refine xr_astore_n C dX2_swap_32 (by decide) rfl ?_
  refine xr_aload_n C dX2_swap_33 rfl ?_
  refine xr_get C (Cn := RX2) (T := TX2) (N := 5) (by decide +kernel) g1 rfl 3 (by decide) (C.1.2.2.2.2 (.fieldLink RX2 25 "OssuaryVault$Desk" "slots" "[LOssuaryVault$DeskFile;") (by decide +kernel)) (fun _ h => h) rfl dX2_swap_34 ?_
  refine xr_iload_n C dX2_swap_37 rfl ?_
  refine xr_aload_n C dX2_swap_38 rfl ?_
  refine xr_get C (Cn := RX2) (T := TX2) (N := 5) (by decide +kernel) g1 rfl 3 (by decide) (C.1.2.2.2.2 (.fieldLink RX2 25 "OssuaryVault$Desk" "slots" "[LOssuaryVault$DeskFile;") (by decide +kernel)) (fun _ h => h) rfl dX2_swap_39 ?_
  refine xr_iload_n C dX2_swap_42 rfl ?_
  refine xr_aald C g2 mq_tF (by first | omega | (dsimp only; omega)) (by first | omega | (dsimp only; omega)) (by first | omega | (dsimp only; omega)) dX2_swap_43 ?_
  rw [Int.toNat_natCast, g3 j (by omega)]
  refine mq_rfs ?_
  refine xr_aast C (r := (RX3, TX3, 4)) g2 mq_tF (g4 j (by omega)).1 rfl (by first | omega | (dsimp only; omega)) (by first | omega | (dsimp only; omega)) (by first | omega | (dsimp only; omega)) dX2_swap_44 ?_
  refine mq_ren (fun M1 hM1 => ?_)
  rw [Int.toNat_natCast] at hM1
  have hT : ∀ r ∈ [11], r < 275 := by decide
  have F1 : mq_FR La [11] M M1 := mq_F.up hM1 (by simp)
  have k1 := (F1 (La 6) (mq_ni hI (by decide) hT (by decide))).trans g1
  have k2 : M1 (La 11) = some (.inl (G.2.2.1, 16, .inr (.inr (.inr (.inr (va_up fp i (some (La (24 + 5 * pf j)))))))) ) := by rw [hM1, mq_up_s]
  have k4 := (g4 i (by omega)).fr hI F1 (hq i (by omega)) hT (fun r h1 h2 => by have := hq i hi; simp; omega)
  refine xr_aload_n C dX2_swap_45 rfl ?_
  refine xr_get C (Cn := RX2) (T := TX2) (N := 5) (by decide +kernel) k1 rfl 3 (by decide) (C.1.2.2.2.2 (.fieldLink RX2 25 "OssuaryVault$Desk" "slots" "[LOssuaryVault$DeskFile;") (by decide +kernel)) (fun _ h => h) rfl dX2_swap_46 ?_
  refine xr_iload_n C dX2_swap_49 rfl ?_
  refine xr_aload_n C dX2_swap_50 rfl ?_
  refine xr_aast C (r := (RX3, TX3, 4)) k2 mq_tF k4.1 rfl (by first | omega | (dsimp only; omega)) (by first | omega | (dsimp only; omega)) (by first | omega | (dsimp only; omega)) dX2_swap_51 ?_
  refine mq_ren (fun M2 hM2 => ?_)
  rw [Int.toNat_natCast] at hM2
  have F2 : mq_FR La [11] M M2 := F1.tr (mq_F.up hM2 (by simp))
  have hSn : dkI G M2 La (swF pf i j) n (swF ky i j) (swF c i j) (swF pk i j) (swF ck i j) := by
    refine ⟨(F2 (La 6) (mq_ni hI (by decide) hT (by decide))).trans g1, ⟨va_up (va_up fp i (some (La (24 + 5 * pf j)))) j (some (La (24 + 5 * pf i))), by rw [hM2, mq_up_s], fun k hk => ?_⟩, fun k hk => ?_⟩
    · unfold va_up swF fnU
      split
      · rfl
      · split
        · rfl
        · exact g3 k hk
    · have hk9 : ∀ m, m < 16 → dkV G M2 La (pf m) (ky m) (c m) (pk m) (ck m) := fun m hm => (g4 m hm).fr hI F2 (hq m hm) hT (fun r h1 h2 => by have := hq m hm; simp; omega)
      unfold swF fnU
      split
      · exact hk9 i (by omega)
      · split
        · exact hk9 j (by omega)
        · exact hk9 k hk
  exact xr_vret C hr hlk ⟨rfl, hSn, F2⟩ (by omega) (by omega) dX2_swap_52
