set_option maxHeartbeats 4000000 in
set_option maxRecDepth 100000 in
theorem c_shAt (l : Launch) (G : mq_G) (La : Nat → Nat) (hI : mq_inj La) (pv : Nat → Nat) (h : Nat → Bool) (d : Nat → List Nat) (vd : Nat → Int) (ld mb : Int) (nu ho : Nat → Int) (M : mq_M) (hP : shP pv h d vd) (hS : shI G M La pv h d vd ld mb nu ho) (i : Nat) (hi : i < 16) : mq_T l yX9_at wsX9_at { frames := 0, cells := 0, slots := 0, locals := 0 } G [.ref (La 12), .int (zI (i : Int))] M (mq_pa (fun r M2 => r = La (104 + 3 * pv i) ∧ M = M2)) 0 0 := by
  refine mq_Met.of (cc := cX9_at) (maxL := 2) (ret := (some (.object "OssuaryVault$Volume"))) (by decide) rfl (Nat.le_of_ble_eq_true rfl) rfl rfl ?_
  intro p_ e_ s_ m_ args_ below_ meth_ c_ z_ C hr hlk hname
  obtain ⟨g1, ⟨fp, g2, g3⟩, ⟨fn, g4, g5⟩, ⟨fh, g6, g7⟩, g8⟩ := hS
  refine xr_iload_n C dX9_at_0 rfl ?_
  refine xr_if_lt C dX9_at_1 rfl (by first | omega | (dsimp only; omega)) (fun hq => absurd hq (by omega)) (fun _ => ?_)
  refine xr_iload_n C dX9_at_4 rfl ?_
  refine xr_aload_n C dX9_at_5 rfl ?_
  refine xr_get C (Cn := RX9) (T := TX9) (N := 7) (by decide +kernel) g1 rfl 1 (by decide) (C.1.2.2.2.2 (.fieldLink RX9 11 "OssuaryVault$Shelf" "places" "[LOssuaryVault$Volume;") (by decide +kernel)) (fun _ h => h) rfl dX9_at_6 ?_
  refine xr_alen C g2 mq_tV dX9_at_9 ?_
  refine xr_icmp_ge C dX9_at_10 rfl (by first | omega | (dsimp only; omega)) (by first | omega | (dsimp only; omega)) (fun hq => absurd hq (by dsimp only; omega)) (fun _ => ?_)
  refine xr_aload_n C dX9_at_13 rfl ?_
  refine xr_get C (Cn := RX9) (T := TX9) (N := 7) (by decide +kernel) g1 rfl 1 (by decide) (C.1.2.2.2.2 (.fieldLink RX9 11 "OssuaryVault$Shelf" "places" "[LOssuaryVault$Volume;") (by decide +kernel)) (fun _ h => h) rfl dX9_at_14 ?_
  refine xr_iload_n C dX9_at_17 rfl ?_
  refine xr_aald C g2 mq_tV (by first | omega | (dsimp only; omega)) (by first | omega | (dsimp only; omega)) (by first | omega | (dsimp only; omega)) dX9_at_18 ?_
  rw [Int.toNat_natCast, g3 i hi]
  refine mq_rfs ?_
  refine xr_goto C dX9_at_19 rfl ?_
  exact xr_aret (v := some (La (104 + 3 * pv i))) C hr (Or.inl ⟨_, rfl⟩) hlk ⟨_, rfl, rfl, rfl⟩ (by omega) (by omega) dX9_at_23
set_option maxHeartbeats 4000000 in
set_option maxRecDepth 100000 in
theorem c_shAtN (l : Launch) (G : mq_G) (La : Nat → Nat) (hI : mq_inj La) (pv : Nat → Nat) (h : Nat → Bool) (d : Nat → List Nat) (vd : Nat → Int) (ld mb : Int) (nu ho : Nat → Int) (M : mq_M) (hP : shP pv h d vd) (hS : shI G M La pv h d vd ld mb nu ho) (k : Int) (hk : -1000 ≤ k ∧ k < 0) : mq_T l yX9_at wsX9_at { frames := 0, cells := 0, slots := 0, locals := 0 } G [.ref (La 12), .int (zI k)] M (mq_pn (fun M2 => M = M2)) 0 0 := by
  refine mq_Met.of (cc := cX9_at) (maxL := 2) (ret := (some (.object "OssuaryVault$Volume"))) (by decide) rfl (Nat.le_of_ble_eq_true rfl) rfl rfl ?_
  intro p_ e_ s_ m_ args_ below_ meth_ c_ z_ C hr hlk hname
  obtain ⟨g1, ⟨fp, g2, g3⟩, ⟨fn, g4, g5⟩, ⟨fh, g6, g7⟩, g8⟩ := hS
  refine xr_iload_n C dX9_at_0 rfl ?_
  refine xr_if_lt C dX9_at_1 rfl (by first | omega | (dsimp only; omega)) (fun _ => ?_) (fun hq => absurd hq (by omega))
  refine xr_null C dX9_at_22 ?_
  exact xr_aret (v := none) C hr (Or.inl ⟨_, rfl⟩) hlk ⟨rfl, rfl⟩ (by omega) (by omega) dX9_at_23
set_option maxHeartbeats 4000000 in
set_option maxRecDepth 100000 in
theorem c_memberNumber (l : Launch) (G : mq_G) (La : Nat → Nat) (hI : mq_inj La) (pv : Nat → Nat) (h : Nat → Bool) (d : Nat → List Nat) (vd : Nat → Int) (ld mb : Int) (nu ho : Nat → Int) (M : mq_M) (hP : shP pv h d vd) (hS : shI G M La pv h d vd ld mb nu ho) (i : Nat) (hi : i < 16) : mq_T l yX9_memberNumber wsX9_memberNumber { frames := 0, cells := 0, slots := 0, locals := 0 } G [.ref (La 12), .int (zI (i : Int))] M (mq_ri M (nu i)) 0 0 := by
  refine mq_Met.of (cc := cX9_memberNumber) (maxL := 2) (ret := (some .int)) (by decide) rfl (Nat.le_of_ble_eq_true rfl) rfl rfl ?_
  intro p_ e_ s_ m_ args_ below_ meth_ c_ z_ C hr hlk hname
  obtain ⟨g1, ⟨fp, g2, g3⟩, ⟨fn, g4, g5⟩, ⟨fh, g6, g7⟩, g8⟩ := hS
  refine xr_iload_n C dX9_memberNumber_0 rfl ?_
  refine xr_if_lt C dX9_memberNumber_1 rfl (by first | omega | (dsimp only; omega)) (fun hq => absurd hq (by omega)) (fun _ => ?_)
  refine xr_iload_n C dX9_memberNumber_4 rfl ?_
  refine xr_aload_n C dX9_memberNumber_5 rfl ?_
  refine xr_get C (Cn := RX9) (T := TX9) (N := 7) (by decide +kernel) g1 rfl 2 (by decide) (C.1.2.2.2.2 (.fieldLink RX9 17 "OssuaryVault$Shelf" "numbers" "[I") (by decide +kernel)) (fun _ h => h) rfl dX9_memberNumber_6 ?_
  refine xr_alen C g4 mq_tI dX9_memberNumber_9 ?_
  refine xr_icmp_ge C dX9_memberNumber_10 rfl (by first | omega | (dsimp only; omega)) (by first | omega | (dsimp only; omega)) (fun hq => absurd hq (by dsimp only; omega)) (fun _ => ?_)
  refine xr_aload_n C dX9_memberNumber_13 rfl ?_
  refine xr_get C (Cn := RX9) (T := TX9) (N := 7) (by decide +kernel) g1 rfl 2 (by decide) (C.1.2.2.2.2 (.fieldLink RX9 17 "OssuaryVault$Shelf" "numbers" "[I") (by decide +kernel)) (fun _ h => h) rfl dX9_memberNumber_14 ?_
  refine xr_iload_n C dX9_memberNumber_17 rfl ?_
  refine xr_iald C g4 mq_tI (by first | omega | (dsimp only; omega)) (by first | omega | (dsimp only; omega)) (by first | omega | (dsimp only; omega)) dX9_memberNumber_18 ?_
  rw [Int.toNat_natCast, g5 i hi]
  refine xr_goto C dX9_memberNumber_19 rfl ?_
  exact xr_iret C hr hlk ⟨_, rfl, rfl, rfl⟩ (by omega) (by omega) dX9_memberNumber_23
set_option maxHeartbeats 4000000 in
set_option maxRecDepth 100000 in
theorem c_memberWith (l : Launch) (G : mq_G) (La : Nat → Nat) (hI : mq_inj La) (pv : Nat → Nat) (h : Nat → Bool) (d : Nat → List Nat) (vd : Nat → Int) (ld mb : Int) (nu ho : Nat → Int) (M : mq_M) (hP : shP pv h d vd) (hS : shI G M La pv h d vd ld mb nu ho) (q : Nat) (hq : q < 16) (i : Nat) (hi : i < 16) (hh : ho q = (i : Int)) : mq_T l yX9_memberWith wsX9_memberWith { frames := 1, cells := 0, slots := 0, locals := 21 } G [.ref (La 12), .int (zI (q : Int))] M (mq_pa (fun r M2 => r = La (104 + 3 * pv i) ∧ M = M2)) 0 0 := by
  refine mq_Met.of (cc := cX9_memberWith) (maxL := 2) (ret := (some (.object "OssuaryVault$Volume"))) (by decide) rfl (Nat.le_of_ble_eq_true rfl) rfl rfl ?_
  intro p_ e_ s_ m_ args_ below_ meth_ c_ z_ C hr hlk hname
  have hS0 := hS
  obtain ⟨g1, ⟨fp, g2, g3⟩, ⟨fn, g4, g5⟩, ⟨fh, g6, g7⟩, g8⟩ := hS
  refine xr_iload_n C dX9_memberWith_0 rfl ?_
  refine xr_if_lt C dX9_memberWith_1 rfl (by first | omega | (dsimp only; omega)) (fun hq => absurd hq (by omega)) (fun _ => ?_)
  refine xr_iload_n C dX9_memberWith_4 rfl ?_
  refine xr_aload_n C dX9_memberWith_5 rfl ?_
  refine xr_get C (Cn := RX9) (T := TX9) (N := 7) (by decide +kernel) g1 rfl 3 (by decide) (C.1.2.2.2.2 (.fieldLink RX9 21 "OssuaryVault$Shelf" "holders" "[I") (by decide +kernel)) (fun _ h => h) rfl dX9_memberWith_6 ?_
  refine xr_alen C g6 mq_tI dX9_memberWith_9 ?_
  refine xr_icmp_ge C dX9_memberWith_10 rfl (by first | omega | (dsimp only; omega)) (by first | omega | (dsimp only; omega)) (fun hq => absurd hq (by dsimp only; omega)) (fun _ => ?_)
  refine xr_aload_n C dX9_memberWith_13 rfl ?_
  refine xr_aload_n C dX9_memberWith_14 rfl ?_
  refine xr_get C (Cn := RX9) (T := TX9) (N := 7) (by decide +kernel) g1 rfl 3 (by decide) (C.1.2.2.2.2 (.fieldLink RX9 21 "OssuaryVault$Shelf" "holders" "[I") (by decide +kernel)) (fun _ h => h) rfl dX9_memberWith_15 ?_
  refine xr_iload_n C dX9_memberWith_18 rfl ?_
  refine xr_iald C g6 mq_tI (by first | omega | (dsimp only; omega)) (by first | omega | (dsimp only; omega)) (by first | omega | (dsimp only; omega)) dX9_memberWith_19 ?_
  rw [Int.toNat_natCast, g7 q hq, hh]
  refine xr_callV1a C (c_shAt l G La hI pv h d vd ld mb nu ho M hP hS0 i hi) (cwV 1 C.1.2.2.2.2 gX9_memberWith_X9_at rfl rfl rfl (by decide +kernel) ⟨Nat.le_of_ble_eq_true rfl, Nat.le_of_ble_eq_true rfl⟩) g1 rfl (Nat.le_of_ble_eq_true rfl) ⟨by dsimp only; omega, by dsimp only; omega⟩ dX9_memberWith_20 (fun r9 M9 hp9 => ?_)
  obtain ⟨rfl, rfl⟩ := hp9
  refine xr_goto C dX9_memberWith_23 rfl ?_
  exact xr_aret (v := some (La (104 + 3 * pv i))) C hr (Or.inl ⟨_, rfl⟩) hlk ⟨_, rfl, rfl, rfl⟩ (by omega) (by omega) dX9_memberWith_27
set_option maxHeartbeats 4000000 in
set_option maxRecDepth 100000 in
theorem c_memberWithN (l : Launch) (G : mq_G) (La : Nat → Nat) (hI : mq_inj La) (pv : Nat → Nat) (h : Nat → Bool) (d : Nat → List Nat) (vd : Nat → Int) (ld mb : Int) (nu ho : Nat → Int) (M : mq_M) (hP : shP pv h d vd) (hS : shI G M La pv h d vd ld mb nu ho) (q : Nat) (hq : q < 100) (hh : q < 16 → ho q = -1) : mq_T l yX9_memberWith wsX9_memberWith { frames := 1, cells := 0, slots := 0, locals := 21 } G [.ref (La 12), .int (zI (q : Int))] M (mq_pn (fun M2 => M = M2)) 0 0 := by
  refine mq_Met.of (cc := cX9_memberWith) (maxL := 2) (ret := (some (.object "OssuaryVault$Volume"))) (by decide) rfl (Nat.le_of_ble_eq_true rfl) rfl rfl ?_
  intro p_ e_ s_ m_ args_ below_ meth_ c_ z_ C hr hlk hname
  have hS0 := hS
  obtain ⟨g1, ⟨fp, g2, g3⟩, ⟨fn, g4, g5⟩, ⟨fh, g6, g7⟩, g8⟩ := hS
  refine xr_iload_n C dX9_memberWith_0 rfl ?_
  refine xr_if_lt C dX9_memberWith_1 rfl (by first | omega | (dsimp only; omega)) (fun hq => absurd hq (by omega)) (fun _ => ?_)
  refine xr_iload_n C dX9_memberWith_4 rfl ?_
  refine xr_aload_n C dX9_memberWith_5 rfl ?_
  refine xr_get C (Cn := RX9) (T := TX9) (N := 7) (by decide +kernel) g1 rfl 3 (by decide) (C.1.2.2.2.2 (.fieldLink RX9 21 "OssuaryVault$Shelf" "holders" "[I") (by decide +kernel)) (fun _ h => h) rfl dX9_memberWith_6 ?_
  refine xr_alen C g6 mq_tI dX9_memberWith_9 ?_
  refine xr_icmp_ge C dX9_memberWith_10 rfl (by first | omega | (dsimp only; omega)) (by first | omega | (dsimp only; omega)) (fun hq1 => ?_) (fun hq1 => ?_)
  · refine xr_null C dX9_memberWith_26 ?_
    exact xr_aret (v := none) C hr (Or.inl ⟨_, rfl⟩) hlk ⟨rfl, rfl⟩ (by omega) (by omega) dX9_memberWith_27
  · change (q : Int) < 16 at hq1
    refine xr_aload_n C dX9_memberWith_13 rfl ?_
    refine xr_aload_n C dX9_memberWith_14 rfl ?_
    refine xr_get C (Cn := RX9) (T := TX9) (N := 7) (by decide +kernel) g1 rfl 3 (by decide) (C.1.2.2.2.2 (.fieldLink RX9 21 "OssuaryVault$Shelf" "holders" "[I") (by decide +kernel)) (fun _ h => h) rfl dX9_memberWith_15 ?_
    refine xr_iload_n C dX9_memberWith_18 rfl ?_
    refine xr_iald C g6 mq_tI (by first | omega | (dsimp only; omega)) (by first | omega | (dsimp only; omega)) (by first | omega | (dsimp only; omega)) dX9_memberWith_19 ?_
    rw [Int.toNat_natCast, g7 q (by omega), hh (by omega)]
    refine xr_callV1n C (c_shAtN l G La hI pv h d vd ld mb nu ho M hP hS0 (-1) (by decide)) (cwV 1 C.1.2.2.2.2 gX9_memberWith_X9_at rfl rfl rfl (by decide +kernel) ⟨Nat.le_of_ble_eq_true rfl, Nat.le_of_ble_eq_true rfl⟩) g1 rfl (Nat.le_of_ble_eq_true rfl) ⟨by dsimp only; omega, by dsimp only; omega⟩ dX9_memberWith_20 (fun M9 hp9 => ?_)
    subst hp9
    refine xr_goto C dX9_memberWith_23 rfl ?_
    exact xr_aret (v := none) C hr (Or.inl ⟨_, rfl⟩) hlk ⟨rfl, rfl⟩ (by omega) (by omega) dX9_memberWith_27
set_option maxHeartbeats 4000000 in
set_option maxRecDepth 100000 in
theorem c_surplus (l : Launch) (G : mq_G) (La : Nat → Nat) (hI : mq_inj La) (pv : Nat → Nat) (h : Nat → Bool) (d : Nat → List Nat) (vd : Nat → Int) (ld mb : Int) (nu ho : Nat → Int) (M : mq_M) (hP : shP pv h d vd) (hS : shI G M La pv h d vd ld mb nu ho) (i : Nat) (hi : i < 16) (hl : ld = (i : Int)) (hmb : 0 ≤ mb ∧ mb ≤ 16) : mq_T l yX9_surplus wsX9_surplus { frames := 2, cells := 0, slots := 0, locals := 41 } G [.ref (La 12)] M (mq_ri M (max (-1) (mb - (mq_gd (d i) 2 : Int)))) 0 0 := by
  refine mq_Met.of (cc := cX9_surplus) (maxL := 2) (ret := (some .int)) (by decide) rfl (Nat.le_of_ble_eq_true rfl) rfl rfl ?_
  intro p_ e_ s_ m_ args_ below_ meth_ c_ z_ C hr hlk hname
  subst hl
  have hS0 := hS
  obtain ⟨g1, ⟨fp, g2, g3⟩, ⟨fn, g4, g5⟩, ⟨fh, g6, g7⟩, g8⟩ := hS
  have hv := g8 i (by omega)
  have g9 := mq_gd_lt hv.2.2.2.2.2.1 2
  refine xr_aload_n C dX9_surplus_0 rfl ?_
  refine xr_aload_n C dX9_surplus_1 rfl ?_
  refine xr_get C (Cn := RX9) (T := TX9) (N := 7) (by decide +kernel) g1 rfl 5 (by decide) (C.1.2.2.2.2 (.fieldLink RX9 39 "OssuaryVault$Shelf" "leaderPlace" "I") (by decide +kernel)) (fun _ h => h) rfl dX9_surplus_2 ?_
  refine xr_callV1a C (c_shAt l G La hI pv h d vd (i : Int) mb nu ho M hP hS0 i hi) (cwV 1 C.1.2.2.2.2 gX9_surplus_X9_at rfl rfl rfl (by decide +kernel) ⟨Nat.le_of_ble_eq_true rfl, Nat.le_of_ble_eq_true rfl⟩) g1 rfl (Nat.le_of_ble_eq_true rfl) ⟨by dsimp only; omega, by dsimp only; omega⟩ dX9_surplus_5 (fun r9 M9 hp9 => ?_)
  obtain ⟨rfl, rfl⟩ := hp9
  refine xr_astore_n C dX9_surplus_8 (by decide) rfl ?_
  refine xr_aload_n C dX9_surplus_9 rfl ?_
  refine xr_ifnonnull_s C dX9_surplus_10 rfl ?_
  refine xr_iconst (n := (-1)) C dX9_surplus_17 (by decide +kernel) ?_
  refine xr_aload_n C dX9_surplus_18 rfl ?_
  refine xr_get C (Cn := RX9) (T := TX9) (N := 7) (by decide +kernel) g1 rfl 6 (by decide) (C.1.2.2.2.2 (.fieldLink RX9 43 "OssuaryVault$Shelf" "members" "I") (by decide +kernel)) (fun _ h => h) rfl dX9_surplus_19 ?_
  refine xr_aload_n C dX9_surplus_22 rfl ?_
  refine xr_callV0i C (c_dataTold l G _ _ _ _ _ _ _ M hv) (cwV 0 C.1.2.2.2.2 gX9_surplus_X10_dataTold rfl rfl rfl (by decide +kernel) ⟨Nat.le_of_ble_eq_true rfl, Nat.le_of_ble_eq_true rfl⟩) hv.1 rfl (Nat.le_of_ble_eq_true rfl) ⟨by dsimp only; omega, by dsimp only; omega⟩ dX9_surplus_23 (fun r1 M9 hp9 => ?_)
  obtain ⟨rfl, rfl⟩ := hp9
  refine xr_isub C dX9_surplus_26 ?_
  refine xr_max C (by first | omega | (dsimp only; omega)) (by first | omega | (dsimp only; omega)) (C.1.2.2.2.2 (.methodLink RX9 65 Lib.Math.max.name) (by decide +kernel)) (C.1.2.2.2.2 (.static Lib.Math.max.name) (by decide +kernel)) (C.1.2.2.2.2 (.initialized "java/lang/Math") (by decide +kernel)) (C.1.2.2.2.2 (.code Lib.Math.max.name Lib.Math.max.code 2 (some .int)) (by decide +kernel)) (Nat.le_of_ble_eq_true rfl) (Nat.le_of_ble_eq_true rfl) (by dsimp only; omega) (by dsimp only; omega) dX9_surplus_27 ?_
  exact xr_iret C hr hlk ⟨_, rfl, rfl, rfl⟩ (by omega) (by omega) dX9_surplus_30
set_option maxHeartbeats 4000000 in
set_option maxRecDepth 100000 in
theorem c_surplusN (l : Launch) (G : mq_G) (La : Nat → Nat) (hI : mq_inj La) (pv : Nat → Nat) (h : Nat → Bool) (d : Nat → List Nat) (vd : Nat → Int) (ld mb : Int) (nu ho : Nat → Int) (M : mq_M) (hP : shP pv h d vd) (hS : shI G M La pv h d vd ld mb nu ho) (hl : ld = -1) : mq_T l yX9_surplus wsX9_surplus { frames := 2, cells := 0, slots := 0, locals := 41 } G [.ref (La 12)] M (mq_ri M (-1)) 0 0 := by
  refine mq_Met.of (cc := cX9_surplus) (maxL := 2) (ret := (some .int)) (by decide) rfl (Nat.le_of_ble_eq_true rfl) rfl rfl ?_
  intro p_ e_ s_ m_ args_ below_ meth_ c_ z_ C hr hlk hname
  subst hl
  have hS0 := hS
  obtain ⟨g1, ⟨fp, g2, g3⟩, ⟨fn, g4, g5⟩, ⟨fh, g6, g7⟩, g8⟩ := hS
  refine xr_aload_n C dX9_surplus_0 rfl ?_
  refine xr_aload_n C dX9_surplus_1 rfl ?_
  refine xr_get C (Cn := RX9) (T := TX9) (N := 7) (by decide +kernel) g1 rfl 5 (by decide) (C.1.2.2.2.2 (.fieldLink RX9 39 "OssuaryVault$Shelf" "leaderPlace" "I") (by decide +kernel)) (fun _ h => h) rfl dX9_surplus_2 ?_
  refine xr_callV1n C (c_shAtN l G La hI pv h d vd (-1) mb nu ho M hP hS0 (-1) (by decide)) (cwV 1 C.1.2.2.2.2 gX9_surplus_X9_at rfl rfl rfl (by decide +kernel) ⟨Nat.le_of_ble_eq_true rfl, Nat.le_of_ble_eq_true rfl⟩) g1 rfl (Nat.le_of_ble_eq_true rfl) ⟨by dsimp only; omega, by dsimp only; omega⟩ dX9_surplus_5 (fun M9 hp9 => ?_)
  subst hp9
  refine xr_nstore_n C dX9_surplus_8 (by decide) rfl ?_
  refine xr_nload_n C dX9_surplus_9 rfl ?_
  refine xr_ifnonnull_n C dX9_surplus_10 ?_
  refine xr_iconst (n := (-1)) C dX9_surplus_13 (by decide +kernel) ?_
  refine xr_goto C dX9_surplus_14 rfl ?_
  exact xr_iret C hr hlk ⟨_, rfl, rfl, rfl⟩ (by omega) (by omega) dX9_surplus_30
