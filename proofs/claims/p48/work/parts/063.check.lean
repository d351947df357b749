set_option maxHeartbeats 4000000 in
set_option maxRecDepth 100000 in
theorem c_eightSteps (l : Launch) (G : mq_G) (M : mq_M) (c0 : Nat) (hc : c0 < 65536) : mq_T l yX1_eightSteps wsX1_eightSteps { frames := 0, cells := 0, slots := 0, locals := 0 } G [.int (zI (c0 : Int))] M (mq_ri M (crI 8 c0 : Int)) 0 0 := by
  refine mq_Met.of (cc := cX1_eightSteps) (maxL := 3) (ret := (some .int)) (by decide) rfl (Nat.le_of_ble_eq_true rfl) rfl rfl ?_
  intro p_ e_ s_ m_ args_ below_ meth_ c_ z_ C hr hlk hname
  refine xr_iload_n C dX1_eightSteps_0 rfl ?_
  refine xr_istore_n C dX1_eightSteps_1 (by decide) rfl ?_
  refine xr_iconst (n := 0) C dX1_eightSteps_2 (by decide +kernel) ?_
  refine xr_istore_n C dX1_eightSteps_3 (by decide) rfl ?_
  refine mq_loop (σ := Nat × Nat) (fun x => x.1 ≤ 8 ∧ x.2 < 65536 ∧ crI (8 - x.1) x.2 = crI 8 c0) (fun x => 8 - x.1) (fun x => M) (fun x => [some (.int (zI (c0 : Int))), some (.int (zI (x.2 : Int))), some (.int (zI (x.1 : Int)))]) (fun x => []) ?_ (0, c0) ⟨Nat.zero_le _, hc, rfl⟩
  rintro ⟨i, c1⟩ ⟨hi, hc1, he⟩ ih
  dsimp only at hi hc1 he ih ⊢
  refine xr_iload_n C dX1_eightSteps_4 rfl ?_
  refine xr_bipush (n := 8) C dX1_eightSteps_5 (by decide +kernel) ?_
  refine xr_icmp_ge C dX1_eightSteps_7 rfl (by first | omega | (dsimp only; omega)) (by first | omega | (dsimp only; omega)) (fun hq1 => ?_) (fun hq1 => ?_)
  · refine xr_iload_n C dX1_eightSteps_41 rfl ?_
    exact xr_iret C hr hlk ⟨_, rfl, by rw [show 8 - i = 0 by omega] at he; exact congrArg (fun k : Nat => (k : Int)) he, rfl⟩ (by omega) (by omega) dX1_eightSteps_42
  · refine xr_iload_n C dX1_eightSteps_10 rfl ?_
    refine xr_iconst (n := 2) C dX1_eightSteps_11 (by decide +kernel) ?_
    refine xr_imul C dX1_eightSteps_12 ?_
    refine xr_ldc (k0 := 65536) C (C.1.2.2.2.2 (.constant RX1 17 (zI 65536)) (by decide +kernel)) dX1_eightSteps_13 ?_
    refine xr_icmp_ge C dX1_eightSteps_15 rfl (by first | omega | (dsimp only; omega)) (by first | omega | (dsimp only; omega)) (fun hq2 => ?_) (fun hq2 => ?_)
    · refine xr_iload_n C dX1_eightSteps_24 rfl ?_
      refine xr_iconst (n := 2) C dX1_eightSteps_25 (by decide +kernel) ?_
      refine xr_imul C dX1_eightSteps_26 ?_
      refine xr_ldc (k0 := 65536) C (C.1.2.2.2.2 (.constant RX1 17 (zI 65536)) (by decide +kernel)) dX1_eightSteps_27 ?_
      refine xr_isub C dX1_eightSteps_29 ?_
      refine xr_sipush (n := 4129) C dX1_eightSteps_30 (by decide +kernel) ?_
      refine xr_ixor (w := (cr1 c1 : Int)) C dX1_eightSteps_33 (cr1_hi hc1 (by omega)) ?_
      refine xr_istore_n C dX1_eightSteps_34 (by decide) rfl ?_
      refine xr_iinc C dX1_eightSteps_35 rfl (by decide) rfl ?_
      refine xr_goto C dX1_eightSteps_38 rfl ?_
      exact ih (i + 1, cr1 c1) ⟨by dsimp only; omega, cr1_lt hc1, by rw [← he, show 8 - i = (8 - (i + 1)) + 1 by omega]; rfl⟩ (by dsimp only; omega)
    · refine xr_iload_n C dX1_eightSteps_18 rfl ?_
      refine xr_iconst (n := 2) C dX1_eightSteps_19 (by decide +kernel) ?_
      refine xr_imul C dX1_eightSteps_20 ?_
      rw [cr1_lo (by omega)]
      refine xr_goto C dX1_eightSteps_21 rfl ?_
      refine xr_istore_n C dX1_eightSteps_34 (by decide) rfl ?_
      refine xr_iinc C dX1_eightSteps_35 rfl (by decide) rfl ?_
      refine xr_goto C dX1_eightSteps_38 rfl ?_
      exact ih (i + 1, cr1 c1) ⟨by dsimp only; omega, cr1_lt hc1, by rw [← he, show 8 - i = (8 - (i + 1)) + 1 by omega]; rfl⟩ (by dsimp only; omega)
set_option maxHeartbeats 4000000 in
set_option maxRecDepth 100000 in
theorem c_after (l : Launch) (G : mq_G) (x xa : Nat) (M : mq_M) (hC : ckI G M x xa) (b a n : Nat) (d : List Nat) (hB : bI G M b a n d) (c0 : Nat) (hc : c0 < 65536) (k e9 : Int) (hk : -100000 ≤ k ∧ k < 1000000) (he9 : -100000 ≤ e9 ∧ e9 < 1000000) : mq_T l yX1_after wsX1_after { frames := 1, cells := 0, slots := 0, locals := 21 } G [.ref x, .int (zI (c0 : Int)), .ref b, .int (zI k), .int (zI e9)] M (mq_ri M (crF c0 (mq_part d k (e9 - k).toNat) : Int)) 0 0 := by
  refine mq_Met.of (cc := cX1_after) (maxL := 7) (ret := (some .int)) (by decide) rfl (Nat.le_of_ble_eq_true rfl) rfl rfl ?_
  intro p_ e_ s_ m_ args_ below_ meth_ c_ z_ C hr hlk hname
  obtain ⟨g1, g2, f, g3, g4⟩ := hC
  refine xr_iload_n C dX1_after_0 rfl ?_
  refine xr_istore C dX1_after_1 (by decide) rfl ?_
  refine xr_iload_n C dX1_after_3 rfl ?_
  refine xr_istore C dX1_after_4 (by decide) rfl ?_
  refine mq_eqL (L2 := [some (.ref x), some (.int (zI (c0 : Int))), some (.ref b), some (.int (zI k)), some (.int (zI e9)), some (.int (zI (c0 : Int))), some (.int (zI (k + ((0 : Nat) : Int))))]) rfl (by rw [show k + ((0 : Nat) : Int) = k by omega]; rfl) rfl rfl ?_
  refine mq_loop (σ := Nat) (fun y => y ≤ (e9 - k).toNat) (fun y => (e9 - k).toNat - y) (fun y => M) (fun y => [some (.ref x), some (.int (zI (c0 : Int))), some (.ref b), some (.int (zI k)), some (.int (zI e9)), some (.int (zI (crF c0 (mq_part d k y) : Int))), some (.int (zI (k + (y : Int))))]) (fun y => []) ?_ 0 (Nat.zero_le _)
  rintro i hi ih
  try dsimp only at ih ⊢
  have hcl : crF c0 (mq_part d k i) < 65536 := crF_lt hc _
  refine xr_iload C dX1_after_6 rfl ?_
  refine xr_iload C dX1_after_8 rfl ?_
  refine xr_icmp_ge C dX1_after_10 rfl (by first | omega | (dsimp only; omega)) (by first | omega | (dsimp only; omega)) (fun hq1 => ?_) (fun hq1 => ?_)
  · refine xr_iload C dX1_after_53 rfl ?_
    exact xr_iret C hr hlk ⟨_, rfl, by rw [show (e9 - k).toNat = i by omega], rfl⟩ (by omega) (by omega) dX1_after_55
  · refine xr_iload C dX1_after_13 rfl ?_
    refine xr_sipush (n := 256) C dX1_after_15 (by decide +kernel) ?_
    refine xr_imul C dX1_after_18 ?_
    refine xr_ldc (k0 := 65535) C (C.1.2.2.2.2 (.constant RX1 18 (zI 65535)) (by decide +kernel)) dX1_after_19 ?_
    generalize hcv : crF c0 (mq_part d k i) = cv at hcl ⊢
    rw [show (cv : Int) * 256 = ((cv * 256 : Nat) : Int) by omega]
    refine xr_iand (w := ((cv * 256 % 65536 : Nat) : Int)) C dX1_after_21 (zI_and65535 (by omega)) ?_
    refine xr_aload_n C dX1_after_22 rfl ?_
    refine xr_get C (Cn := RX1) (T := TX1) (N := 1) (by decide +kernel) g1 rfl 0 (by decide) (C.1.2.2.2.2 (.fieldLink RX1 7 "OssuaryVault$Check" "steps" "[I") (by decide +kernel)) (fun _ h => h) rfl dX1_after_23 ?_
    refine xr_iload C dX1_after_26 rfl ?_
    refine xr_sipush (n := 256) C dX1_after_28 (by decide +kernel) ?_
    refine xr_idiv C dX1_after_31 (by omega) (by omega) ?_
    refine xr_aload_n C dX1_after_32 rfl ?_
    refine xr_iload C dX1_after_33 rfl ?_
    refine xr_callV1i C (c_at l G b a n d M hB (k + (i : Int)) (by omega)) (cwV 1 C.1.2.2.2.2 gX1_after_X0_at rfl rfl rfl (by decide +kernel) ⟨Nat.le_of_ble_eq_true rfl, Nat.le_of_ble_eq_true rfl⟩) hB.1 rfl (Nat.le_of_ble_eq_true rfl) ⟨by dsimp only; omega, by dsimp only; omega⟩ dX1_after_35 (fun r2 M9 hp9 => ?_)
    obtain ⟨rfl, rfl⟩ := hp9
    have hbl : mq_gd d (k + (i : Int)) < 256 := mq_gd_lt hB.2.2.2.2.1 _
    generalize hbv : mq_gd d (k + (i : Int)) = bv at hbl ⊢
    rw [show (cv : Int) / 256 = ((cv / 256 : Nat) : Int) by omega]
    have hxl : cv / 256 ^^^ bv < 256 := Nat.xor_lt_two_pow (n := 8) (by omega) hbl
    refine xr_ixor (w := ((cv / 256 ^^^ bv : Nat) : Int)) C dX1_after_38 (zI_xorN (by omega) (by omega)) ?_
    refine xr_sipush (n := 255) C dX1_after_39 (by decide +kernel) ?_
    refine xr_iand (w := (((cv / 256 ^^^ bv) % 256 : Nat) : Int)) C dX1_after_42 (zI_and255 (by omega)) ?_
    refine xr_iald C g3 mq_tI (by first | omega | (dsimp only; omega)) (by first | omega | (dsimp only; omega)) (by first | omega | (dsimp only; omega)) dX1_after_43 ?_
    rw [Int.toNat_natCast, g4 _ (Nat.mod_lt _ (by decide))]
    have hTl : crI 8 ((cv / 256 ^^^ bv) % 256 * 256) < 65536 := crI_lt 8 (by omega)
    refine xr_ixor (w := (crS cv bv : Int)) C dX1_after_44 (zI_xorN (by omega) (by omega)) ?_
    refine xr_istore C dX1_after_45 (by decide) rfl ?_
    refine xr_iinc C dX1_after_47 rfl (by decide) rfl ?_
    refine xr_goto C dX1_after_50 rfl ?_
    rw [← hcv, ← hbv, ← crF_s, ← mq_part_s, show k + (i : Int) + 1 = k + ((i + 1 : Nat) : Int) by omega]
    exact ih (i + 1) (by omega) (by omega)
set_option maxHeartbeats 4000000 in
set_option maxRecDepth 100000 in
theorem c_over (l : Launch) (G : mq_G) (x xa : Nat) (M : mq_M) (hC : ckI G M x xa) (b a n : Nat) (d : List Nat) (hB : bI G M b a n d) (k e9 : Int) (hk : -100000 ≤ k ∧ k < 1000000) (he9 : -100000 ≤ e9 ∧ e9 < 1000000) : mq_T l yX1_over wsX1_over { frames := 2, cells := 0, slots := 0, locals := 47 } G [.ref x, .ref b, .int (zI k), .int (zI e9)] M (mq_ri M (crF 65535 (mq_part d k (e9 - k).toNat) : Int)) 0 0 := by
  refine mq_Met.of (cc := cX1_over) (maxL := 4) (ret := (some .int)) (by decide) rfl (Nat.le_of_ble_eq_true rfl) rfl rfl ?_
  intro p_ e_ s_ m_ args_ below_ meth_ c_ z_ C hr hlk hname
  refine xr_aload_n C dX1_over_0 rfl ?_
  refine xr_ldc (k0 := 65535) C (C.1.2.2.2.2 (.constant RX1 18 (zI 65535)) (by decide +kernel)) dX1_over_1 ?_
  refine xr_aload_n C dX1_over_3 rfl ?_
  refine xr_iload_n C dX1_over_4 rfl ?_
  refine xr_iload_n C dX1_over_5 rfl ?_
  refine xr_callV4i C (c_after l G x xa M hC b a n d hB 65535 (by decide) k e9 hk he9) (cwV 4 C.1.2.2.2.2 gX1_over_X1_after rfl rfl rfl (by decide +kernel) ⟨Nat.le_of_ble_eq_true rfl, Nat.le_of_ble_eq_true rfl⟩) hC.1 rfl (Nat.le_of_ble_eq_true rfl) ⟨by dsimp only; omega, by dsimp only; omega⟩ dX1_over_6 (fun r1 M9 hp9 => ?_)
  obtain ⟨rfl, rfl⟩ := hp9
  exact xr_iret C hr hlk ⟨_, rfl, rfl, rfl⟩ (by omega) (by omega) dX1_over_9
set_option maxHeartbeats 4000000 in
set_option maxRecDepth 100000 in
theorem c_Check_init (l : Launch) (G : mq_G) (x : Nat) (M : mq_M) (hM : M x = some (.inr (1, [.null]))) : mq_T l yX1_init wsX1_init { frames := 1, cells := 1, slots := 256, locals := 22 } G [.ref x] M (mq_pv (fun M2 => ∃ a : Nat, M a = none ∧ ckI G M2 x a ∧ mq_F [x, a] M M2)) 1 256 := by
  refine mq_Met.of (cc := cX1_init) (maxL := 2) (ret := none) (by decide) rfl (Nat.le_of_ble_eq_true rfl) rfl rfl ?_
  intro p_ e_ s_ m_ args_ below_ meth_ c_ z_ C hr hlk hname
  refine xr_aload_n C dX1_init_0 rfl ?_
  refine xr_objI C (C.1.2.2.2.2 (.methodLink RX1 1 objectInit) (by decide +kernel)) (C.1.2.2.2.2 (.instanceMethod objectInit) (by decide +kernel)) (C.1.2.2.2.2 (.code objectInit ⟨#[0xb1]⟩ 1 none) (by decide +kernel)) (Nat.le_of_ble_eq_true rfl) (Nat.le_of_ble_eq_true rfl) dX1_init_1 ?_
  refine xr_aload_n C dX1_init_4 rfl ?_
  refine xr_sipush (n := 256) C dX1_init_5 (by decide +kernel) ?_
  refine xr_newI C (C.1.2.2.2.2 (.arrayClass .int) (by decide +kernel)) mq_tI (by omega) (by dsimp only; omega) (by dsimp only; omega) dX1_init_8 (fun q1 hq1 => ?_)
  refine mq_ren (fun M2 hM2 => ?_)
  have hxa : x ≠ q1 := fun z => by rw [z, hq1] at hM; cases hM
  have h1 : M2 x = some (.inr (1, [.null])) := by rw [hM2, mq_up_n hxa]; exact hM
  refine xr_putF C (Cn := RX1) (T := TX1) (N := 1) (by decide +kernel) h1 rfl 0 (by decide) tyX1 tyX1_ok nmX1 (C.1.2.2.2.2 (.fieldLink RX1 7 "OssuaryVault$Check" "steps" "[I") (by decide +kernel)) (fun _ h => h) rfl hname rfl (tyX1_ok 0 (by decide)) rfl rfl (Nat.le_of_ble_eq_true rfl) dX1_init_10 ?_
  refine mq_ren (fun M3 hM3 => ?_)
  have h2 : M3 x = some (.inr (1, [.ref q1])) := by rw [hM3, mq_up_s]; rfl
  have h3 : M3 q1 = some (.inl (G.2.1, 256, .inl (fun _ => 0))) := by rw [hM3, mq_up_n (Ne.symm hxa), hM2, mq_up_s]; rfl
  have hF0 : mq_F [x, q1] M M3 := (mq_F.up hM2 (by simp)).tr (mq_F.up hM3 (by simp))
  refine xr_iconst (n := 0) C dX1_init_13 (by decide +kernel) ?_
  refine xr_istore_n C dX1_init_14 (by decide) rfl ?_
  clear hM2 hM3 h1
  refine mq_loop (σ := Nat × mq_M × (Nat → Int32)) (fun y9 => y9.1 ≤ 256 ∧ y9.2.1 x = some (.inr (1, [.ref q1])) ∧ y9.2.1 q1 = some (.inl (G.2.1, 256, .inl y9.2.2)) ∧ (∀ i : Nat, i < y9.1 → y9.2.2 i = zI (crI 8 (i * 256) : Int)) ∧ mq_F [x, q1] M y9.2.1) (fun y9 => 256 - y9.1) (fun y9 => y9.2.1) (fun y9 => [some (.ref x), some (.int (zI (y9.1 : Int)))]) (fun y9 => []) ?_ (0, M3, fun _ => 0) ⟨Nat.zero_le _, h2, h3, (fun i hi => by omega), hF0⟩
  rintro ⟨i, M5, f5⟩ ⟨hi, k1, k2, k3, k4⟩ ih
  dsimp only at hi k1 k2 k3 k4 ih ⊢
  refine xr_iload_n C dX1_init_15 rfl ?_
  refine xr_aload_n C dX1_init_16 rfl ?_
  refine xr_get C (Cn := RX1) (T := TX1) (N := 1) (by decide +kernel) k1 rfl 0 (by decide) (C.1.2.2.2.2 (.fieldLink RX1 7 "OssuaryVault$Check" "steps" "[I") (by decide +kernel)) (fun _ h => h) rfl dX1_init_17 ?_
  refine xr_alen C k2 mq_tI dX1_init_20 ?_
  refine xr_icmp_ge C dX1_init_21 rfl (by first | omega | (dsimp only; omega)) (by first | omega | (dsimp only; omega)) (fun hq4 => ?_) (fun hq4 => ?_)
  · exact xr_vret C hr hlk ⟨rfl, q1, hq1, ⟨k1, hxa, f5, k2, fun j hj => k3 j (by omega)⟩, k4⟩ (by omega) (by omega) dX1_init_44
  · refine xr_aload_n C dX1_init_24 rfl ?_
    refine xr_get C (Cn := RX1) (T := TX1) (N := 1) (by decide +kernel) k1 rfl 0 (by decide) (C.1.2.2.2.2 (.fieldLink RX1 7 "OssuaryVault$Check" "steps" "[I") (by decide +kernel)) (fun _ h => h) rfl dX1_init_25 ?_
    refine xr_iload_n C dX1_init_28 rfl ?_
    refine xr_iload_n C dX1_init_29 rfl ?_
    refine xr_sipush (n := 256) C dX1_init_30 (by decide +kernel) ?_
    refine xr_imul C dX1_init_33 ?_
    rw [show (i : Int) * 256 = ((i * 256 : Nat) : Int) by omega]
    refine xr_callS1i C (c_eightSteps l G M5 (i * 256) (by omega)) (cwS 1 C.1.2.2.2.2 gX1_init_X1_eightSteps rfl rfl rfl (by decide +kernel) ⟨Nat.le_of_ble_eq_true rfl, Nat.le_of_ble_eq_true rfl⟩) (Nat.le_of_ble_eq_true rfl) ⟨by dsimp only; omega, by dsimp only; omega⟩ dX1_init_34 (fun r5 M9 hp9 => ?_)
    obtain ⟨rfl, rfl⟩ := hp9
    refine xr_iast C k2 mq_tI (by first | omega | (dsimp only; omega)) (by first | omega | (dsimp only; omega)) (by first | omega | (dsimp only; omega)) dX1_init_37 ?_
    refine mq_ren (fun M6 hM6 => ?_)
    refine xr_iinc C dX1_init_38 rfl (by decide) rfl ?_
    refine xr_goto C dX1_init_41 rfl ?_
    exact ih (i + 1, M6, upd f5 i (zI (crI 8 (i * 256) : Int))) ⟨by dsimp only; omega, by dsimp only; rw [hM6, mq_up_n hxa]; exact k1, by dsimp only; rw [hM6, mq_up_s]; rfl, fun j hj => by
      dsimp only at hj ⊢
      unfold upd
      by_cases hji : j = i
      · rw [if_pos hji, hji]
      · rw [if_neg hji]
        exact k3 j (by omega), k4.tr (mq_F.up hM6 (by simp))⟩ (by dsimp only; omega)
