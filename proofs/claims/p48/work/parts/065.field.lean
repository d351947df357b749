set_option maxHeartbeats 4000000 in
set_option maxRecDepth 100000 in
theorem c_twoRaised (l : Launch) (G : mq_G) (x u v : Nat) (M : mq_M) (hD : fdI G M x u v) (k : Nat) (hk : k < 510) : mq_T l yX4_twoRaised wsX4_twoRaised { frames := 0, cells := 0, slots := 0, locals := 0 } G [.ref x, .int (zI (k : Int))] M (mq_ri M (fE (k % 255) : Int)) 0 0 := by
  refine mq_Met.of (cc := cX4_twoRaised) (maxL := 2) (ret := (some .int)) (by decide) rfl (Nat.le_of_ble_eq_true rfl) rfl rfl ?_
  intro p_ e_ s_ m_ args_ below_ meth_ c_ z_ C hr hlk hname
  have hD0 := hD
  obtain ⟨h1, h2, h3, h4, ⟨f, h5, h6⟩, g, h7, h8⟩ := hD
  refine xr_iload_n C dX4_twoRaised_0 rfl ?_
  refine xr_if_lt C dX4_twoRaised_1 rfl (by first | omega | (dsimp only; omega)) (fun hq => absurd hq (by omega)) (fun _ => ?_)
  refine xr_iload_n C dX4_twoRaised_4 rfl ?_
  refine xr_aload_n C dX4_twoRaised_5 rfl ?_
  refine xr_get C (Cn := RX4) (T := TX4) (N := 2) (by decide +kernel) h1 rfl 0 (by decide) (C.1.2.2.2.2 (.fieldLink RX4 9 "OssuaryVault$Field" "powers" "[I") (by decide +kernel)) (fun _ h => h) rfl dX4_twoRaised_6 ?_
  refine xr_alen C h5 mq_tI dX4_twoRaised_9 ?_
  refine xr_icmp_ge C dX4_twoRaised_10 rfl (by first | omega | (dsimp only; omega)) (by first | omega | (dsimp only; omega)) (fun hq => absurd hq (by dsimp only; omega)) (fun _ => ?_)
  refine xr_aload_n C dX4_twoRaised_13 rfl ?_
  refine xr_get C (Cn := RX4) (T := TX4) (N := 2) (by decide +kernel) h1 rfl 0 (by decide) (C.1.2.2.2.2 (.fieldLink RX4 9 "OssuaryVault$Field" "powers" "[I") (by decide +kernel)) (fun _ h => h) rfl dX4_twoRaised_14 ?_
  refine xr_iload_n C dX4_twoRaised_17 rfl ?_
  refine xr_iald C h5 mq_tI (by first | omega | (dsimp only; omega)) (by first | omega | (dsimp only; omega)) (by first | omega | (dsimp only; omega)) dX4_twoRaised_18 ?_
  rw [Int.toNat_natCast, h6 k hk]
  refine xr_goto C dX4_twoRaised_19 rfl ?_
  exact xr_iret C hr hlk ⟨_, rfl, rfl, rfl⟩ (by omega) (by omega) dX4_twoRaised_23
set_option maxHeartbeats 4000000 in
set_option maxRecDepth 100000 in
theorem c_times (l : Launch) (G : mq_G) (x u v : Nat) (M : mq_M) (hD : fdI G M x u v) (a b : Nat) (ha : a < 256) (hb : b < 256) : mq_T l yX4_times wsX4_times { frames := 1, cells := 0, slots := 0, locals := 21 } G [.ref x, .int (zI (a : Int)), .int (zI (b : Int))] M (mq_ri M (gfM a b : Int)) 0 0 := by
  refine mq_Met.of (cc := cX4_times) (maxL := 3) (ret := (some .int)) (by decide) rfl (Nat.le_of_ble_eq_true rfl) rfl rfl ?_
  intro p_ e_ s_ m_ args_ below_ meth_ c_ z_ C hr hlk hname
  have hD0 := hD
  obtain ⟨h1, h2, h3, h4, ⟨f, h5, h6⟩, g, h7, h8⟩ := hD
  refine xr_iload_n C dX4_times_0 rfl ?_
  refine xr_if_eq C dX4_times_1 rfl (by first | omega | (dsimp only; omega)) (fun hq1 => ?_) (fun hq1 => ?_)
  · refine xr_iconst (n := 0) C dX4_times_8 (by decide +kernel) ?_
    exact xr_iret C hr hlk ⟨_, rfl, by rw [show a = 0 by omega]; simp [gfM], rfl⟩ (by omega) (by omega) dX4_times_9
  · refine xr_iload_n C dX4_times_4 rfl ?_
    refine xr_if_ne C dX4_times_5 rfl (by first | omega | (dsimp only; omega)) (fun hq2 => ?_) (fun hq2 => ?_)
    · refine xr_aload_n C dX4_times_10 rfl ?_
      refine xr_aload_n C dX4_times_11 rfl ?_
      refine xr_get C (Cn := RX4) (T := TX4) (N := 2) (by decide +kernel) h1 rfl 1 (by decide) (C.1.2.2.2.2 (.fieldLink RX4 13 "OssuaryVault$Field" "logs" "[I") (by decide +kernel)) (fun _ h => h) rfl dX4_times_12 ?_
      refine xr_iload_n C dX4_times_15 rfl ?_
      refine xr_sipush (n := 255) C dX4_times_16 (by decide +kernel) ?_
      refine xr_iand (w := ((a % 256 : Nat) : Int)) C dX4_times_19 (zI_and255 (by omega)) ?_
      refine xr_iald C h7 mq_tI (by first | omega | (dsimp only; omega)) (by first | omega | (dsimp only; omega)) (by first | omega | (dsimp only; omega)) dX4_times_20 ?_
      rw [Int.toNat_natCast, Nat.mod_eq_of_lt ha, h8 a ha (by omega)]
      refine xr_aload_n C dX4_times_21 rfl ?_
      refine xr_get C (Cn := RX4) (T := TX4) (N := 2) (by decide +kernel) h1 rfl 1 (by decide) (C.1.2.2.2.2 (.fieldLink RX4 13 "OssuaryVault$Field" "logs" "[I") (by decide +kernel)) (fun _ h => h) rfl dX4_times_22 ?_
      refine xr_iload_n C dX4_times_25 rfl ?_
      refine xr_sipush (n := 255) C dX4_times_26 (by decide +kernel) ?_
      refine xr_iand (w := ((b % 256 : Nat) : Int)) C dX4_times_29 (zI_and255 (by omega)) ?_
      refine xr_iald C h7 mq_tI (by first | omega | (dsimp only; omega)) (by first | omega | (dsimp only; omega)) (by first | omega | (dsimp only; omega)) dX4_times_30 ?_
      rw [Int.toNat_natCast, Nat.mod_eq_of_lt hb, h8 b hb (by omega)]
      have la := fL_lt a ha
      have lb := fL_lt b hb
      refine xr_iadd C dX4_times_31 ?_
      refine xr_callV1i C (c_twoRaised l G x u v M hD0 (fL a + fL b) (by omega)) (cwV 1 C.1.2.2.2.2 gX4_times_X4_twoRaised rfl rfl rfl (by decide +kernel) ⟨Nat.le_of_ble_eq_true rfl, Nat.le_of_ble_eq_true rfl⟩) h1 rfl (Nat.le_of_ble_eq_true rfl) ⟨by dsimp only; omega, by dsimp only; omega⟩ dX4_times_32 (fun r3 M9 hp9 => ?_)
      obtain ⟨rfl, rfl⟩ := hp9
      exact xr_iret C hr hlk ⟨_, rfl, by unfold gfM; rw [if_neg (by omega)], rfl⟩ (by omega) (by omega) dX4_times_35
    · refine xr_iconst (n := 0) C dX4_times_8 (by decide +kernel) ?_
      exact xr_iret C hr hlk ⟨_, rfl, by rw [show b = 0 by omega]; simp [gfM], rfl⟩ (by omega) (by omega) dX4_times_9
set_option maxHeartbeats 4000000 in
set_option maxRecDepth 100000 in
theorem c_oneOver (l : Launch) (G : mq_G) (x u v : Nat) (M : mq_M) (hD : fdI G M x u v) (a : Nat) (ha : a < 256) : mq_T l yX4_oneOver wsX4_oneOver { frames := 1, cells := 0, slots := 0, locals := 21 } G [.ref x, .int (zI (a : Int))] M (mq_ri M (gfI a : Int)) 0 0 := by
  refine mq_Met.of (cc := cX4_oneOver) (maxL := 2) (ret := (some .int)) (by decide) rfl (Nat.le_of_ble_eq_true rfl) rfl rfl ?_
  intro p_ e_ s_ m_ args_ below_ meth_ c_ z_ C hr hlk hname
  have hD0 := hD
  obtain ⟨h1, h2, h3, h4, ⟨f, h5, h6⟩, g, h7, h8⟩ := hD
  refine xr_iload_n C dX4_oneOver_0 rfl ?_
  refine xr_if_ne C dX4_oneOver_1 rfl (by first | omega | (dsimp only; omega)) (fun hq1 => ?_) (fun hq1 => ?_)
  · refine xr_aload_n C dX4_oneOver_8 rfl ?_
    refine xr_sipush (n := 255) C dX4_oneOver_9 (by decide +kernel) ?_
    refine xr_aload_n C dX4_oneOver_12 rfl ?_
    refine xr_get C (Cn := RX4) (T := TX4) (N := 2) (by decide +kernel) h1 rfl 1 (by decide) (C.1.2.2.2.2 (.fieldLink RX4 13 "OssuaryVault$Field" "logs" "[I") (by decide +kernel)) (fun _ h => h) rfl dX4_oneOver_13 ?_
    refine xr_iload_n C dX4_oneOver_16 rfl ?_
    refine xr_sipush (n := 255) C dX4_oneOver_17 (by decide +kernel) ?_
    refine xr_iand (w := ((a % 256 : Nat) : Int)) C dX4_oneOver_20 (zI_and255 (by omega)) ?_
    refine xr_iald C h7 mq_tI (by first | omega | (dsimp only; omega)) (by first | omega | (dsimp only; omega)) (by first | omega | (dsimp only; omega)) dX4_oneOver_21 ?_
    rw [Int.toNat_natCast, Nat.mod_eq_of_lt ha, h8 a ha (by omega)]
    have la := fL_lt a ha
    refine xr_isub C dX4_oneOver_22 ?_
    rw [show (255 : Int) - (fL a : Int) = ((255 - fL a : Nat) : Int) by omega]
    refine xr_callV1i C (c_twoRaised l G x u v M hD0 (255 - fL a) (by omega)) (cwV 1 C.1.2.2.2.2 gX4_oneOver_X4_twoRaised rfl rfl rfl (by decide +kernel) ⟨Nat.le_of_ble_eq_true rfl, Nat.le_of_ble_eq_true rfl⟩) h1 rfl (Nat.le_of_ble_eq_true rfl) ⟨by dsimp only; omega, by dsimp only; omega⟩ dX4_oneOver_23 (fun r2 M9 hp9 => ?_)
    obtain ⟨rfl, rfl⟩ := hp9
    exact xr_iret C hr hlk ⟨_, rfl, by unfold gfI; rw [if_neg (by omega)], rfl⟩ (by omega) (by omega) dX4_oneOver_26
  · refine xr_iconst (n := 0) C dX4_oneOver_4 (by decide +kernel) ?_
    refine xr_goto C dX4_oneOver_5 rfl ?_
    exact xr_iret C hr hlk ⟨_, rfl, by rw [show a = 0 by omega]; rfl, rfl⟩ (by omega) (by omega) dX4_oneOver_26
set_option maxHeartbeats 4000000 in
set_option maxRecDepth 100000 in
theorem c_parityWeight (l : Launch) (G : mq_G) (x u v : Nat) (M : mq_M) (hD : fdI G M x u v) (j d : Nat) (hj : j < 100) (hd : d < 128) : mq_T l yX4_parityWeight wsX4_parityWeight { frames := 2, cells := 0, slots := 0, locals := 42 } G [.ref x, .int (zI (j : Int)), .int (zI (d : Int))] M (mq_ri M (gfI ((128 + j) ^^^ d) : Int)) 0 0 := by
  refine mq_Met.of (cc := cX4_parityWeight) (maxL := 3) (ret := (some .int)) (by decide) rfl (Nat.le_of_ble_eq_true rfl) rfl rfl ?_
  intro p_ e_ s_ m_ args_ below_ meth_ c_ z_ C hr hlk hname
  have hxl : (128 + j) ^^^ d < 256 := Nat.xor_lt_two_pow (n := 8) (by omega) (by omega)
  refine xr_aload_n C dX4_parityWeight_0 rfl ?_
  refine xr_sipush (n := 128) C dX4_parityWeight_1 (by decide +kernel) ?_
  refine xr_iload_n C dX4_parityWeight_4 rfl ?_
  refine xr_iadd C dX4_parityWeight_5 ?_
  refine xr_iload_n C dX4_parityWeight_6 rfl ?_
  rw [show (128 : Int) + (j : Int) = ((128 + j : Nat) : Int) by omega]
  refine xr_ixor (w := (((128 + j) ^^^ d : Nat) : Int)) C dX4_parityWeight_7 (zI_xorN (by omega) (by omega)) ?_
  refine xr_callV1i C (c_oneOver l G x u v M hD ((128 + j) ^^^ d) hxl) (cwV 1 C.1.2.2.2.2 gX4_parityWeight_X4_oneOver rfl rfl rfl (by decide +kernel) ⟨Nat.le_of_ble_eq_true rfl, Nat.le_of_ble_eq_true rfl⟩) hD.1 rfl (Nat.le_of_ble_eq_true rfl) ⟨by dsimp only; omega, by dsimp only; omega⟩ dX4_parityWeight_8 (fun r1 M9 hp9 => ?_)
  obtain ⟨rfl, rfl⟩ := hp9
  exact xr_iret C hr hlk ⟨_, rfl, rfl, rfl⟩ (by omega) (by omega) dX4_parityWeight_11
set_option maxHeartbeats 4000000 in
set_option maxRecDepth 100000 in
theorem c_weight (l : Launch) (G : mq_G) (x u v : Nat) (M : mq_M) (hD : fdI G M x u v) (q d dn : Nat) (hq : q < 100) (hd : d < 100) (hdn : dn < 100) : mq_T l yX4_weight wsX4_weight { frames := 3, cells := 0, slots := 0, locals := 64 } G [.ref x, .int (zI (q : Int)), .int (zI (d : Int)), .int (zI (dn : Int))] M (mq_ri M (gfW q d dn : Int)) 0 0 := by
  refine mq_Met.of (cc := cX4_weight) (maxL := 4) (ret := (some .int)) (by decide) rfl (Nat.le_of_ble_eq_true rfl) rfl rfl ?_
  intro p_ e_ s_ m_ args_ below_ meth_ c_ z_ C hr hlk hname
  refine xr_iload_n C dX4_weight_0 rfl ?_
  refine xr_iload_n C dX4_weight_1 rfl ?_
  refine xr_icmp_ge C dX4_weight_2 rfl (by first | omega | (dsimp only; omega)) (by first | omega | (dsimp only; omega)) (fun hq1 => ?_) (fun hq1 => ?_)
  · refine xr_aload_n C dX4_weight_16 rfl ?_
    refine xr_iload_n C dX4_weight_17 rfl ?_
    refine xr_iload_n C dX4_weight_18 rfl ?_
    refine xr_isub C dX4_weight_19 ?_
    refine xr_iload_n C dX4_weight_20 rfl ?_
    rw [show (q : Int) - (dn : Int) = ((q - dn : Nat) : Int) by omega]
    refine xr_callV2i C (c_parityWeight l G x u v M hD (q - dn) d (by omega) (by omega)) (cwV 2 C.1.2.2.2.2 gX4_weight_X4_parityWeight rfl rfl rfl (by decide +kernel) ⟨Nat.le_of_ble_eq_true rfl, Nat.le_of_ble_eq_true rfl⟩) hD.1 rfl (Nat.le_of_ble_eq_true rfl) ⟨by dsimp only; omega, by dsimp only; omega⟩ dX4_weight_21 (fun r3 M9 hp9 => ?_)
    obtain ⟨rfl, rfl⟩ := hp9
    exact xr_iret C hr hlk ⟨_, rfl, by unfold gfW; rw [if_neg (by omega)], rfl⟩ (by omega) (by omega) dX4_weight_24
  · refine xr_iload_n C dX4_weight_5 rfl ?_
    refine xr_iload_n C dX4_weight_6 rfl ?_
    refine xr_icmp_ne C dX4_weight_7 rfl (by first | omega | (dsimp only; omega)) (by first | omega | (dsimp only; omega)) (fun hq2 => ?_) (fun hq2 => ?_)
    · refine xr_iconst (n := 0) C dX4_weight_14 (by decide +kernel) ?_
      exact xr_iret C hr hlk ⟨_, rfl, by unfold gfW; rw [if_pos (by omega), if_neg (by omega)]; rfl, rfl⟩ (by omega) (by omega) dX4_weight_15
    · refine xr_iconst (n := 1) C dX4_weight_10 (by decide +kernel) ?_
      refine xr_goto C dX4_weight_11 rfl ?_
      exact xr_iret C hr hlk ⟨_, rfl, by unfold gfW; rw [if_pos (by omega), if_pos (by omega)]; rfl, rfl⟩ (by omega) (by omega) dX4_weight_15
set_option maxHeartbeats 4000000 in
set_option maxRecDepth 100000 in
theorem c_addProducts (l : Launch) (G : mq_G) (x u v : Nat) (M : mq_M) (hD : fdI G M x u v) (b a n : Nat) (d : List Nat) (hB : bI G M b a n d) (b2 a2 n2 : Nat) (d2 : List Nat) (hB2 : bI G M b2 a2 n2 d2) (hx : b2 ≠ a ∧ a2 ≠ a) (hz : x ≠ a ∧ u ≠ a ∧ v ≠ a) (pl fr : Int) (fa t : Nat) (hfa : fa < 256) (hpl : 0 ≤ pl ∧ pl < 1000000) (hfr : 0 ≤ fr ∧ fr < 1000000) (ht : t < 100000) : mq_T l yX4_addProducts wsX4_addProducts { frames := 2, cells := 0, slots := 0, locals := 43 } G [.ref x, .ref b, .int (zI pl), .int (zI (fa : Int)), .ref b2, .int (zI fr), .int (zI (t : Int))] M (mq_pv (fun M2 => bI G M2 b a n (gfP d pl fa d2 fr t) ∧ mq_F [a] M M2)) 0 0 := by
  refine mq_Met.of (cc := cX4_addProducts) (maxL := 9) (ret := none) (by decide) rfl (Nat.le_of_ble_eq_true rfl) rfl rfl ?_
  intro p_ e_ s_ m_ args_ below_ meth_ c_ z_ C hr hlk hname
  refine xr_iload_n C dX4_addProducts_0 rfl ?_
  refine xr_if_ne C dX4_addProducts_1 rfl (by first | omega | (dsimp only; omega)) (fun hq1 => ?_) (fun hq1 => ?_)
  · refine xr_iconst (n := 0) C dX4_addProducts_5 (by decide +kernel) ?_
    refine xr_istore C dX4_addProducts_6 (by decide) rfl ?_
    refine mq_loop (σ := Nat × mq_M) (fun y => y.1 ≤ t ∧ bI G y.2 b a n (gfA d pl fa d2 fr y.1) ∧ mq_F [a] M y.2) (fun y => t - y.1) (fun y => y.2) (fun y => [some (.ref x), some (.ref b), some (.int (zI pl)), some (.int (zI (fa : Int))), some (.ref b2), some (.int (zI fr)), some (.int (zI (t : Int))), some (.int (zI (y.1 : Int))), none]) (fun y => []) ?_ (0, M) ⟨Nat.zero_le _, hB, mq_F.rf⟩
    rintro ⟨i, M0⟩ ⟨hi, hB0, hF0⟩ ih
    dsimp only at hi hB0 hF0 ih ⊢
    have hD0 : fdI G M0 x u v := hD.fr hF0 (by simp [hz]) (by simp [hz]) (by simp [hz])
    have hB3 : bI G M0 b2 a2 n2 d2 := hB2.fr hF0 (by simp [hx]) (by simp [hx])
    have hg1 := mq_gd_lt hB0.2.2.2.2.1 (pl + (i : Int))
    have hg2 := mq_gd_lt hB3.2.2.2.2.1 (fr + (i : Int))
    refine xr_iload C dX4_addProducts_8 rfl ?_
    refine xr_iload C dX4_addProducts_10 rfl ?_
    refine xr_icmp_ge C dX4_addProducts_12 rfl (by first | omega | (dsimp only; omega)) (by first | omega | (dsimp only; omega)) (fun hq2 => ?_) (fun hq2 => ?_)
    · exact xr_vret C hr hlk ⟨rfl, by unfold gfP; rw [if_neg (by omega), show t = i by omega]; exact hB0, hF0⟩ (by omega) (by omega) dX4_addProducts_57
    · refine xr_aload_n C dX4_addProducts_15 rfl ?_
      refine xr_iload_n C dX4_addProducts_16 rfl ?_
      refine xr_iload C dX4_addProducts_17 rfl ?_
      refine xr_iadd C dX4_addProducts_19 ?_
      refine xr_callV1i C (c_at l G b a n _ M0 hB0 (pl + (i : Int)) (by omega)) (cwV 1 C.1.2.2.2.2 gX4_addProducts_X0_at rfl rfl rfl (by decide +kernel) ⟨Nat.le_of_ble_eq_true rfl, Nat.le_of_ble_eq_true rfl⟩) hB0.1 rfl (Nat.le_of_ble_eq_true rfl) ⟨by dsimp only; omega, by dsimp only; omega⟩ dX4_addProducts_20 (fun r3 M9 hp9 => ?_)
      obtain ⟨rfl, rfl⟩ := hp9
      refine xr_aload_n C dX4_addProducts_23 rfl ?_
      refine xr_iload_n C dX4_addProducts_24 rfl ?_
      refine xr_aload C dX4_addProducts_25 rfl ?_
      refine xr_iload C dX4_addProducts_27 rfl ?_
      refine xr_iload C dX4_addProducts_29 rfl ?_
      refine xr_iadd C dX4_addProducts_31 ?_
      refine xr_callV1i C (c_at l G b2 a2 n2 d2 M0 hB3 (fr + (i : Int)) (by omega)) (cwV 1 C.1.2.2.2.2 gX4_addProducts_X0_at rfl rfl rfl (by decide +kernel) ⟨Nat.le_of_ble_eq_true rfl, Nat.le_of_ble_eq_true rfl⟩) hB3.1 rfl (Nat.le_of_ble_eq_true rfl) ⟨by dsimp only; omega, by dsimp only; omega⟩ dX4_addProducts_32 (fun r4 M9 hp9 => ?_)
      obtain ⟨rfl, rfl⟩ := hp9
      refine xr_callV2i C (c_times l G x u v M0 hD0 fa (mq_gd d2 (fr + (i : Int))) hfa hg2) (cwV 2 C.1.2.2.2.2 gX4_addProducts_X4_times rfl rfl rfl (by decide +kernel) ⟨Nat.le_of_ble_eq_true rfl, Nat.le_of_ble_eq_true rfl⟩) hD0.1 rfl (Nat.le_of_ble_eq_true rfl) ⟨by dsimp only; omega, by dsimp only; omega⟩ dX4_addProducts_35 (fun r5 M9 hp9 => ?_)
      obtain ⟨rfl, rfl⟩ := hp9
      have hg3 := gfM_lt fa (mq_gd d2 (fr + (i : Int)))
      have hg4 : mq_gd (gfA d pl fa d2 fr i) (pl + (i : Int)) ^^^ gfM fa (mq_gd d2 (fr + (i : Int))) < 256 := Nat.xor_lt_two_pow (n := 8) hg1 hg3
      refine xr_ixor (w := ((mq_gd (gfA d pl fa d2 fr i) (pl + (i : Int)) ^^^ gfM fa (mq_gd d2 (fr + (i : Int))) : Nat) : Int)) C dX4_addProducts_38 (zI_xorN (by omega) (by omega)) ?_
      refine xr_istore C dX4_addProducts_39 (by decide) rfl ?_
      refine xr_aload_n C dX4_addProducts_41 rfl ?_
      refine xr_iload_n C dX4_addProducts_42 rfl ?_
      refine xr_iload C dX4_addProducts_43 rfl ?_
      refine xr_iadd C dX4_addProducts_45 ?_
      refine xr_iload C dX4_addProducts_46 rfl ?_
      refine xr_callV2v C (c_put l G b a n _ M0 hB0 (pl + (i : Int)) (by omega) _ hg4) (cwV 2 C.1.2.2.2.2 gX4_addProducts_X0_put rfl rfl rfl (by decide +kernel) ⟨Nat.le_of_ble_eq_true rfl, Nat.le_of_ble_eq_true rfl⟩) hB0.1 rfl (Nat.le_of_ble_eq_true rfl) ⟨by dsimp only; omega, by dsimp only; omega⟩ dX4_addProducts_48 (fun M1 hp1 => ?_)
      obtain ⟨hB1, hF1⟩ := hp1
      refine xr_iinc C dX4_addProducts_51 rfl (by decide) rfl ?_
      refine xr_goto C dX4_addProducts_54 rfl ?_
      refine mq_drop 8 ?_
      exact ih (i + 1, M1) ⟨by dsimp only; omega, hB1, hF0.tr hF1⟩ (by dsimp only; omega)
  · exact xr_vret C hr hlk ⟨rfl, by unfold gfP; rw [if_pos (by omega)]; exact hB, mq_F.rf⟩ (by omega) (by omega) dX4_addProducts_4
set_option maxHeartbeats 4000000 in
set_option maxRecDepth 100000 in
theorem c_addProductsS (l : Launch) (G : mq_G) (x u v : Nat) (M : mq_M) (hD : fdI G M x u v) (b a n : Nat) (d : List Nat) (hB : bI G M b a n d) (hz : x ≠ a ∧ u ≠ a ∧ v ≠ a) (pl fr : Int) (fa t : Nat) (hfa : fa < 256) (hpl : 0 ≤ pl ∧ pl < 1000000) (hfr : 0 ≤ fr ∧ fr < 1000000) (ht : t < 100000) : mq_T l yX4_addProducts wsX4_addProducts { frames := 2, cells := 0, slots := 0, locals := 43 } G [.ref x, .ref b, .int (zI pl), .int (zI (fa : Int)), .ref b, .int (zI fr), .int (zI (t : Int))] M (mq_pv (fun M2 => (∃ d2 : List Nat, d2.length = d.length ∧ bI G M2 b a n d2) ∧ mq_F [a] M M2)) 0 0 := by
  refine mq_Met.of (cc := cX4_addProducts) (maxL := 9) (ret := none) (by decide) rfl (Nat.le_of_ble_eq_true rfl) rfl rfl ?_
  intro p_ e_ s_ m_ args_ below_ meth_ c_ z_ C hr hlk hname
  refine xr_iload_n C dX4_addProducts_0 rfl ?_
  refine xr_if_ne C dX4_addProducts_1 rfl (by first | omega | (dsimp only; omega)) (fun hq1 => ?_) (fun hq1 => ?_)
  · refine xr_iconst (n := 0) C dX4_addProducts_5 (by decide +kernel) ?_
    refine xr_istore C dX4_addProducts_6 (by decide) rfl ?_
    refine mq_loop (σ := Nat × mq_M × List Nat) (fun y => y.1 ≤ t ∧ y.2.2.length = d.length ∧ bI G y.2.1 b a n y.2.2 ∧ mq_F [a] M y.2.1) (fun y => t - y.1) (fun y => y.2.1) (fun y => [some (.ref x), some (.ref b), some (.int (zI pl)), some (.int (zI (fa : Int))), some (.ref b), some (.int (zI fr)), some (.int (zI (t : Int))), some (.int (zI (y.1 : Int))), none]) (fun y => []) ?_ (0, M, d) ⟨Nat.zero_le _, rfl, hB, mq_F.rf⟩
    rintro ⟨i, M0, d0⟩ ⟨hi, hdl, hB0, hF0⟩ ih
    dsimp only at hi hdl hB0 hF0 ih ⊢
    have hD0 : fdI G M0 x u v := hD.fr hF0 (by simp [hz]) (by simp [hz]) (by simp [hz])
    have hg1 := mq_gd_lt hB0.2.2.2.2.1 (pl + (i : Int))
    have hg2 := mq_gd_lt hB0.2.2.2.2.1 (fr + (i : Int))
    refine xr_iload C dX4_addProducts_8 rfl ?_
    refine xr_iload C dX4_addProducts_10 rfl ?_
    refine xr_icmp_ge C dX4_addProducts_12 rfl (by first | omega | (dsimp only; omega)) (by first | omega | (dsimp only; omega)) (fun hq2 => ?_) (fun hq2 => ?_)
    · exact xr_vret C hr hlk ⟨rfl, ⟨d0, hdl, hB0⟩, hF0⟩ (by omega) (by omega) dX4_addProducts_57
    · refine xr_aload_n C dX4_addProducts_15 rfl ?_
      refine xr_iload_n C dX4_addProducts_16 rfl ?_
      refine xr_iload C dX4_addProducts_17 rfl ?_
      refine xr_iadd C dX4_addProducts_19 ?_
      refine xr_callV1i C (c_at l G b a n _ M0 hB0 (pl + (i : Int)) (by omega)) (cwV 1 C.1.2.2.2.2 gX4_addProducts_X0_at rfl rfl rfl (by decide +kernel) ⟨Nat.le_of_ble_eq_true rfl, Nat.le_of_ble_eq_true rfl⟩) hB0.1 rfl (Nat.le_of_ble_eq_true rfl) ⟨by dsimp only; omega, by dsimp only; omega⟩ dX4_addProducts_20 (fun r3 M9 hp9 => ?_)
      obtain ⟨rfl, rfl⟩ := hp9
      refine xr_aload_n C dX4_addProducts_23 rfl ?_
      refine xr_iload_n C dX4_addProducts_24 rfl ?_
      refine xr_aload C dX4_addProducts_25 rfl ?_
      refine xr_iload C dX4_addProducts_27 rfl ?_
      refine xr_iload C dX4_addProducts_29 rfl ?_
      refine xr_iadd C dX4_addProducts_31 ?_
      refine xr_callV1i C (c_at l G b a n _ M0 hB0 (fr + (i : Int)) (by omega)) (cwV 1 C.1.2.2.2.2 gX4_addProducts_X0_at rfl rfl rfl (by decide +kernel) ⟨Nat.le_of_ble_eq_true rfl, Nat.le_of_ble_eq_true rfl⟩) hB0.1 rfl (Nat.le_of_ble_eq_true rfl) ⟨by dsimp only; omega, by dsimp only; omega⟩ dX4_addProducts_32 (fun r4 M9 hp9 => ?_)
      obtain ⟨rfl, rfl⟩ := hp9
      refine xr_callV2i C (c_times l G x u v M0 hD0 fa (mq_gd d0 (fr + (i : Int))) hfa hg2) (cwV 2 C.1.2.2.2.2 gX4_addProducts_X4_times rfl rfl rfl (by decide +kernel) ⟨Nat.le_of_ble_eq_true rfl, Nat.le_of_ble_eq_true rfl⟩) hD0.1 rfl (Nat.le_of_ble_eq_true rfl) ⟨by dsimp only; omega, by dsimp only; omega⟩ dX4_addProducts_35 (fun r5 M9 hp9 => ?_)
      obtain ⟨rfl, rfl⟩ := hp9
      have hg3 := gfM_lt fa (mq_gd d0 (fr + (i : Int)))
      have hg4 : mq_gd d0 (pl + (i : Int)) ^^^ gfM fa (mq_gd d0 (fr + (i : Int))) < 256 := Nat.xor_lt_two_pow (n := 8) hg1 hg3
      refine xr_ixor (w := ((mq_gd d0 (pl + (i : Int)) ^^^ gfM fa (mq_gd d0 (fr + (i : Int))) : Nat) : Int)) C dX4_addProducts_38 (zI_xorN (by omega) (by omega)) ?_
      refine xr_istore C dX4_addProducts_39 (by decide) rfl ?_
      refine xr_aload_n C dX4_addProducts_41 rfl ?_
      refine xr_iload_n C dX4_addProducts_42 rfl ?_
      refine xr_iload C dX4_addProducts_43 rfl ?_
      refine xr_iadd C dX4_addProducts_45 ?_
      refine xr_iload C dX4_addProducts_46 rfl ?_
      refine xr_callV2v C (c_put l G b a n _ M0 hB0 (pl + (i : Int)) (by omega) _ hg4) (cwV 2 C.1.2.2.2.2 gX4_addProducts_X0_put rfl rfl rfl (by decide +kernel) ⟨Nat.le_of_ble_eq_true rfl, Nat.le_of_ble_eq_true rfl⟩) hB0.1 rfl (Nat.le_of_ble_eq_true rfl) ⟨by dsimp only; omega, by dsimp only; omega⟩ dX4_addProducts_48 (fun M1 hp1 => ?_)
      obtain ⟨hB1, hF1⟩ := hp1
      refine xr_iinc C dX4_addProducts_51 rfl (by decide) rfl ?_
      refine xr_goto C dX4_addProducts_54 rfl ?_
      refine mq_drop 8 ?_
      exact ih (i + 1, M1, _) ⟨by dsimp only; omega, (mq_put_len _ _ _).trans hdl, hB1, hF0.tr hF1⟩ (by dsimp only; omega)
  · exact xr_vret C hr hlk ⟨rfl, ⟨d, rfl, hB⟩, mq_F.rf⟩ (by omega) (by omega) dX4_addProducts_4
set_option maxHeartbeats 4000000 in
set_option maxRecDepth 100000 in
theorem c_Field_init (l : Launch) (G : mq_G) (x : Nat) (M : mq_M) (hM : M x = some (.inr (4, [.null, .null]))) : mq_T l yX4_init wsX4_init { frames := 1, cells := 2, slots := 766, locals := 12 } G [.ref x] M (mq_pv (fun M2 => ∃ u v : Nat, M u = none ∧ M v = none ∧ fdI G M2 x u v ∧ mq_F [x, u, v] M M2)) 2 766 := by
  refine mq_Met.of (cc := cX4_init) (maxL := 3) (ret := none) (by decide) rfl (Nat.le_of_ble_eq_true rfl) rfl rfl ?_
  intro p_ e_ s_ m_ args_ below_ meth_ c_ z_ C hr hlk hname
  refine xr_aload_n C dX4_init_0 rfl ?_
  refine xr_objI C (C.1.2.2.2.2 (.methodLink RX4 1 objectInit) (by decide +kernel)) (C.1.2.2.2.2 (.instanceMethod objectInit) (by decide +kernel)) (C.1.2.2.2.2 (.code objectInit ⟨#[0xb1]⟩ 1 none) (by decide +kernel)) (Nat.le_of_ble_eq_true rfl) (Nat.le_of_ble_eq_true rfl) dX4_init_1 ?_
  refine xr_aload_n C dX4_init_4 rfl ?_
  refine xr_sipush (n := 510) C dX4_init_5 (by decide +kernel) ?_
  refine xr_newI C (C.1.2.2.2.2 (.arrayClass .int) (by decide +kernel)) mq_tI (by omega) (by dsimp only; omega) (by dsimp only; omega) dX4_init_8 (fun q1 hq1 => ?_)
  refine mq_ren (fun M2 hM2 => ?_)
  have hxa : x ≠ q1 := fun z => by rw [z, hq1] at hM; cases hM
  have h1 : M2 x = some (.inr (4, [.null, .null])) := by rw [hM2, mq_up_n hxa]; exact hM
  have h1a : M2 q1 = some (.inl (G.2.1, 510, .inl (fun _ => 0))) := by rw [hM2, mq_up_s]; rfl
  have hF1 : mq_F [x, q1] M M2 := mq_F.up hM2 (by simp)
  refine xr_putF C (Cn := RX4) (T := TX4) (N := 2) (by decide +kernel) h1 rfl 0 (by decide) tyX4 tyX4_ok nmX4 (C.1.2.2.2.2 (.fieldLink RX4 9 "OssuaryVault$Field" "powers" "[I") (by decide +kernel)) (fun _ h => h) rfl hname rfl (tyX4_ok 0 (by decide)) rfl rfl (Nat.le_of_ble_eq_true rfl) dX4_init_10 ?_
  refine mq_ren (fun M3 hM3 => ?_)
  have h2 : M3 x = some (.inr (4, [.ref q1, .null])) := by rw [hM3, mq_up_s]; rfl
  have h2a : M3 q1 = some (.inl (G.2.1, 510, .inl (fun _ => 0))) := by rw [hM3, mq_up_n (Ne.symm hxa)]; exact h1a
  have hF2 : mq_F [x, q1] M M3 := hF1.tr (mq_F.up hM3 (by simp))
  refine xr_aload_n C dX4_init_13 rfl ?_
  refine xr_sipush (n := 256) C dX4_init_14 (by decide +kernel) ?_
  refine xr_newI C (C.1.2.2.2.2 (.arrayClass .int) (by decide +kernel)) mq_tI (by omega) (by dsimp only; omega) (by dsimp only; omega) dX4_init_17 (fun q4 hq4 => ?_)
  refine mq_ren (fun M5 hM5 => ?_)
  have hxb : x ≠ q4 := fun z => by rw [← z, h2] at hq4; cases hq4
  have hab : q1 ≠ q4 := fun z => by rw [← z, h2a] at hq4; cases hq4
  have hMb : M q4 = none := (hF2 q4 (by simp [Ne.symm hxb, Ne.symm hab])).symm.trans hq4
  have h3 : M5 x = some (.inr (4, [.ref q1, .null])) := by rw [hM5, mq_up_n hxb]; exact h2
  have h3a : M5 q1 = some (.inl (G.2.1, 510, .inl (fun _ => 0))) := by rw [hM5, mq_up_n hab]; exact h2a
  have h3b : M5 q4 = some (.inl (G.2.1, 256, .inl (fun _ => 0))) := by rw [hM5, mq_up_s]; rfl
  refine xr_putF C (Cn := RX4) (T := TX4) (N := 2) (by decide +kernel) h3 rfl 1 (by decide) tyX4 tyX4_ok nmX4 (C.1.2.2.2.2 (.fieldLink RX4 13 "OssuaryVault$Field" "logs" "[I") (by decide +kernel)) (fun _ h => h) rfl hname rfl (tyX4_ok 1 (by decide)) rfl rfl (Nat.le_of_ble_eq_true rfl) dX4_init_19 ?_
  refine mq_ren (fun M6 hM6 => ?_)
  have h4 : M6 x = some (.inr (4, [.ref q1, .ref q4])) := by rw [hM6, mq_up_s]; rfl
  have h4a : M6 q1 = some (.inl (G.2.1, 510, .inl (fun _ => 0))) := by rw [hM6, mq_up_n (Ne.symm hxa)]; exact h3a
  have h4b : M6 q4 = some (.inl (G.2.1, 256, .inl (fun _ => 0))) := by rw [hM6, mq_up_n (Ne.symm hxb)]; exact h3b
  have hF4 : mq_F [x, q1, q4] M M6 := ((hF2.mono (by simp)).tr (mq_F.up hM5 (by simp))).tr (mq_F.up hM6 (by simp))
  refine xr_iconst (n := 1) C dX4_init_22 (by decide +kernel) ?_
  refine xr_istore_n C dX4_init_23 (by decide) rfl ?_
  refine xr_iconst (n := 0) C dX4_init_24 (by decide +kernel) ?_
  refine xr_istore_n C dX4_init_25 (by decide) rfl ?_
  refine mq_loop (σ := Nat × mq_M × (Nat → Int32) × (Nat → Int32)) (fun y => y.1 ≤ 510 ∧ y.2.1 x = some (.inr (4, [.ref q1, .ref q4])) ∧ y.2.1 q1 = some (.inl (G.2.1, 510, .inl y.2.2.1)) ∧ y.2.1 q4 = some (.inl (G.2.1, 256, .inl y.2.2.2)) ∧ (∀ i : Nat, i < y.1 → y.2.2.1 i = zI (fE (i % 255) : Int) ∧ y.2.2.2 (fE (i % 255)) = zI ((i % 255 : Nat) : Int)) ∧ mq_F [x, q1, q4] M y.2.1) (fun y => 510 - y.1) (fun y => y.2.1) (fun y => [some (.ref x), some (.int (zI (fE (y.1 % 255) : Int))), some (.int (zI (y.1 : Int)))]) (fun y => []) ?_ (0, M6, (fun _ => 0), fun _ => 0) ⟨Nat.zero_le _, h4, h4a, h4b, (fun i hi => by omega), hF4⟩
  rintro ⟨i, M5, f5, g5⟩ ⟨hi, k1, k2, k3, k4, k5⟩ ih
  dsimp only at hi k1 k2 k3 k4 k5 ih ⊢
  refine xr_iload_n C dX4_init_26 rfl ?_
  refine xr_aload_n C dX4_init_27 rfl ?_
  refine xr_get C (Cn := RX4) (T := TX4) (N := 2) (by decide +kernel) k1 rfl 0 (by decide) (C.1.2.2.2.2 (.fieldLink RX4 9 "OssuaryVault$Field" "powers" "[I") (by decide +kernel)) (fun _ h => h) rfl dX4_init_28 ?_
  refine xr_alen C k2 mq_tI dX4_init_31 ?_
  refine xr_icmp_ge C dX4_init_32 rfl (by first | omega | (dsimp only; omega)) (by first | omega | (dsimp only; omega)) (fun hq7 => ?_) (fun hq7 => ?_)
  · have hi510 : i = 510 := by have := hq7; first | omega | (dsimp only at this; omega)
    exact xr_vret C hr hlk ⟨rfl, q1, q4, hq1, hMb, ⟨k1, hxa, hxb, hab, ⟨f5, k2, fun j hj => (k4 j (by omega)).1⟩, g5, k3, fun j hj hj0 => by
            have e1 := (k4 (fL j) (by have := fL_lt j hj; omega)).2
            rw [Nat.mod_eq_of_lt (fL_lt j hj), fE_fL j hj hj0] at e1
            exact e1⟩, k5⟩ (by omega) (by omega) dX4_init_86
  · have hil : i < 510 := by have := hq7; first | omega | (dsimp only at this; omega)
    have hEl := fE_lt (i % 255) (by omega)
    refine xr_aload_n C dX4_init_35 rfl ?_
    refine xr_get C (Cn := RX4) (T := TX4) (N := 2) (by decide +kernel) k1 rfl 0 (by decide) (C.1.2.2.2.2 (.fieldLink RX4 9 "OssuaryVault$Field" "powers" "[I") (by decide +kernel)) (fun _ h => h) rfl dX4_init_36 ?_
    refine xr_iload_n C dX4_init_39 rfl ?_
    refine xr_iload_n C dX4_init_40 rfl ?_
    refine xr_iast C k2 mq_tI (by first | omega | (dsimp only; omega)) (by first | omega | (dsimp only; omega)) (by first | omega | (dsimp only; omega)) dX4_init_41 ?_
    refine mq_ren (fun M8 hM8 => ?_)
    rw [Int.toNat_natCast] at hM8
    have j1 : M8 x = some (.inr (4, [.ref q1, .ref q4])) := by rw [hM8, mq_up_n hxa]; exact k1
    have j2 : M8 q1 = some (.inl (G.2.1, 510, .inl (upd f5 i (zI (fE (i % 255) : Int))))) := by rw [hM8, mq_up_s]
    have j3 : M8 q4 = some (.inl (G.2.1, 256, .inl g5)) := by rw [hM8, mq_up_n (Ne.symm hab)]; exact k3
    refine xr_aload_n C dX4_init_42 rfl ?_
    refine xr_get C (Cn := RX4) (T := TX4) (N := 2) (by decide +kernel) j1 rfl 1 (by decide) (C.1.2.2.2.2 (.fieldLink RX4 13 "OssuaryVault$Field" "logs" "[I") (by decide +kernel)) (fun _ h => h) rfl dX4_init_43 ?_
    refine xr_iload_n C dX4_init_46 rfl ?_
    refine xr_sipush (n := 255) C dX4_init_47 (by decide +kernel) ?_
    refine xr_iand (w := ((fE (i % 255) % 256 : Nat) : Int)) C dX4_init_50 (zI_and255 (by omega)) ?_
    refine xr_iload_n C dX4_init_51 rfl ?_
    refine xr_sipush (n := 255) C dX4_init_52 (by decide +kernel) ?_
    refine xr_irem C dX4_init_55 (by omega) (by omega) ?_
    refine xr_iast C j3 mq_tI (by first | omega | (dsimp only; omega)) (by first | omega | (dsimp only; omega)) (by first | omega | (dsimp only; omega)) dX4_init_56 ?_
    refine mq_ren (fun M9 hM9 => ?_)
    rw [Int.toNat_natCast, Nat.mod_eq_of_lt hEl, show (i : Int) % 255 = ((i % 255 : Nat) : Int) by omega] at hM9
    have l1 : M9 x = some (.inr (4, [.ref q1, .ref q4])) := by rw [hM9, mq_up_n hxb]; exact j1
    have l2 : M9 q1 = some (.inl (G.2.1, 510, .inl (upd f5 i (zI (fE (i % 255) : Int))))) := by rw [hM9, mq_up_n hab]; exact j2
    have l3 : M9 q4 = some (.inl (G.2.1, 256, .inl (upd g5 (fE (i % 255)) (zI ((i % 255 : Nat) : Int))))) := by rw [hM9, mq_up_s]
    have l5 : mq_F [x, q1, q4] M M9 := (k5.tr (mq_F.up hM8 (by simp))).tr (mq_F.up hM9 (by simp))
    have l4 : ∀ j : Nat, j < i + 1 → (upd f5 i (zI (fE (i % 255) : Int))) j = zI (fE (j % 255) : Int) ∧ (upd g5 (fE (i % 255)) (zI ((i % 255 : Nat) : Int))) (fE (j % 255)) = zI ((j % 255 : Nat) : Int) := by
      intro j hj
      by_cases hji : j = i
      · subst hji
        refine ⟨?_, ?_⟩ <;> simp [upd]
      · obtain ⟨q1, q3⟩ := k4 j (by omega)
        refine ⟨?_, ?_⟩
        · unfold upd; rw [if_neg hji]; exact q1
        · unfold upd
          by_cases hne : fE (j % 255) = fE (i % 255)
          · rw [if_pos hne, show i % 255 = j % 255 by rw [← fL_fE (i % 255) (by omega), ← hne, fL_fE (j % 255) (by omega)]]
          · rw [if_neg hne]; exact q3
    have hnx := fE_next i
    refine xr_iload_n C dX4_init_57 rfl ?_
    refine xr_iconst (n := 2) C dX4_init_58 (by decide +kernel) ?_
    refine xr_imul C dX4_init_59 ?_
    refine xr_sipush (n := 256) C dX4_init_60 (by decide +kernel) ?_
    refine xr_icmp_ge C dX4_init_63 rfl (by first | omega | (dsimp only; omega)) (by first | omega | (dsimp only; omega)) (fun hq10 => ?_) (fun hq10 => ?_)
    · refine xr_iload_n C dX4_init_72 rfl ?_
      refine xr_iconst (n := 2) C dX4_init_73 (by decide +kernel) ?_
      refine xr_imul C dX4_init_74 ?_
      refine xr_sipush (n := 285) C dX4_init_75 (by decide +kernel) ?_
      refine xr_ixor (w := (fE ((i + 1) % 255) : Int)) C dX4_init_78 (by rw [← hnx]; exact fe2_hi hEl (by omega)) ?_
      refine xr_istore_n C dX4_init_79 (by decide) rfl ?_
      refine xr_iinc C dX4_init_80 rfl (by decide) rfl ?_
      refine xr_goto C dX4_init_83 rfl ?_
      exact ih (i + 1, M9, _, _) ⟨by dsimp only; omega, l1, l2, l3, l4, l5⟩ (by dsimp only; omega)
    · refine xr_iload_n C dX4_init_66 rfl ?_
      refine xr_iconst (n := 2) C dX4_init_67 (by decide +kernel) ?_
      refine xr_imul C dX4_init_68 ?_
      rw [fe2_lo (by omega), hnx]
      refine xr_goto C dX4_init_69 rfl ?_
      refine xr_istore_n C dX4_init_79 (by decide) rfl ?_
      refine xr_iinc C dX4_init_80 rfl (by decide) rfl ?_
      refine xr_goto C dX4_init_83 rfl ?_
      exact ih (i + 1, M9, _, _) ⟨by dsimp only; omega, l1, l2, l3, l4, l5⟩ (by dsimp only; omega)
