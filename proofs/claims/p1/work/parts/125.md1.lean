set_option maxHeartbeats 4000000 in
set_option maxRecDepth 100000 in
theorem m_isIn (l : Launch) (G : mq_G) (M : mq_M) (x : Int) (hxr : -2147483648 ≤ x ∧ x < 2147483648) (lo : Int) (hlor : -2147483648 ≤ lo ∧ lo < 2147483648) (hi : Int) (hhir : -2147483648 ≤ hi ∧ hi < 2147483648) : mq_T l yX12_isIn wsX12_isIn { frames := 0, cells := 0, slots := 0, locals := 0 } G [.int (zI x), .int (zI lo), .int (zI hi)] M (mq_ri M (if lo ≤ x ∧ x ≤ hi then 1 else 0)) 0 0 := by
  refine mq_Met.of (cc := cX12_isIn) (maxL := 3) (ret := (some .boolean)) (by decide) rfl (Nat.le_of_ble_eq_true rfl) rfl rfl ?_
  intro p_ e_ s_ m_ args_ below_ meth_ c_ z_ C hr hlk hname
  refine xr_iload_n C dX12_isIn_0 rfl ?_
  refine xr_iload_n C dX12_isIn_1 rfl ?_
  refine xr_icmp_lt C dX12_isIn_2 rfl (by first | omega | (dsimp only; omega)) (by first | omega | (dsimp only; omega)) (fun hq1 => ?_) (fun hq1 => ?_)
  · refine xr_iconst (n := 0) C dX12_isIn_14 (by decide +kernel) ?_
    exact xr_zret C hr (by decide +kernel) hlk ⟨_, rfl, by rw [if_neg (by omega)], rfl⟩ (by omega) (by omega) dX12_isIn_15
  · refine xr_iload_n C dX12_isIn_5 rfl ?_
    refine xr_iload_n C dX12_isIn_6 rfl ?_
    refine xr_icmp_gt C dX12_isIn_7 rfl (by first | omega | (dsimp only; omega)) (by first | omega | (dsimp only; omega)) (fun hq2 => ?_) (fun hq2 => ?_)
    · refine xr_iconst (n := 0) C dX12_isIn_14 (by decide +kernel) ?_
      exact xr_zret C hr (by decide +kernel) hlk ⟨_, rfl, by rw [if_neg (by omega)], rfl⟩ (by omega) (by omega) dX12_isIn_15
    · refine xr_iconst (n := 1) C dX12_isIn_10 (by decide +kernel) ?_
      refine xr_goto C dX12_isIn_11 rfl ?_
      exact xr_zret C hr (by decide +kernel) hlk ⟨_, rfl, by rw [if_pos (by omega)], rfl⟩ (by omega) (by omega) dX12_isIn_15
set_option maxHeartbeats 4000000 in
set_option maxRecDepth 100000 in
theorem m_times (l : Launch) (G : mq_G) (M : mq_M) (a b : Nat) (ha : a < 256) (hb : b < 256) : mq_T l yX12_times wsX12_times { frames := 0, cells := 0, slots := 0, locals := 0 } G [.int (zI (a : Int)), .int (zI (b : Int))] M (mq_ri M (gfM a b : Int)) 0 0 := by
  refine mq_Met.of (cc := cX12_times) (maxL := 5) (ret := (some .int)) (by decide) rfl (Nat.le_of_ble_eq_true rfl) rfl rfl ?_
  intro p_ e_ s_ m_ args_ below_ meth_ c_ z_ C hr hlk hname
  refine xr_iconst (n := 0) C dX12_times_0 (by decide +kernel) ?_
  refine xr_istore_n C dX12_times_1 (by decide) rfl ?_
  refine xr_iload_n C dX12_times_2 rfl ?_
  refine xr_istore_n C dX12_times_3 (by decide) rfl ?_
  refine xr_iload_n C dX12_times_4 rfl ?_
  refine xr_istore C dX12_times_5 (by decide) rfl ?_
  refine mq_loop (σ := Nat × Nat × Nat × Nat) (fun y => y.2.2.2 < 2 ^ y.1 ∧ y.2.1 < 256 ∧ y.2.2.1 < 256 ∧ y.2.2.2 < 256 ∧ tmG y.1 y.2.1 y.2.2.1 y.2.2.2 = tmF a b) (fun y => y.2.2.2) (fun y => M) (fun y => [some (.int (zI (a : Int))), some (.int (zI (b : Int))), some (.int (zI (y.2.1 : Int))), some (.int (zI (y.2.2.1 : Int))), some (.int (zI (y.2.2.2 : Int)))]) (fun y => []) ?_ (8, 0, a, b) ⟨hb, Nat.zero_lt_succ _, ha, hb, rfl⟩
  rintro ⟨n, s, sh, r⟩ ⟨h1, h2, h3, h4, h5⟩ ih
  dsimp only at h1 h2 h3 h4 h5 ih ⊢
  refine xr_iload C dX12_times_7 rfl ?_
  refine xr_if_eq C dX12_times_9 rfl (by first | omega | (dsimp only; omega)) (fun hq1 => ?_) (fun hq1 => ?_)
  · refine xr_iload_n C dX12_times_49 rfl ?_
    exact xr_iret C hr hlk ⟨_, rfl, by rw [← tm_gf ha hb, ← h5, show r = 0 by omega, tmG_0], rfl⟩ (by omega) (by omega) dX12_times_50
  · obtain ⟨n, rfl⟩ : ∃ k, n = k + 1 := ⟨n - 1, by
      rcases Nat.eq_zero_or_pos n with e | e
      · rw [e] at h1; simp at h1; omega
      · omega⟩
    have h6 : tmG n (if r % 2 = 1 then s ^^^ sh else s) (fe2 sh) (r / 2) = tmF a b := by
      rw [← h5]
      conv => rhs; unfold tmG
      rw [if_neg (show ¬ r = 0 by omega)]
    have h7 : r / 2 < 2 ^ n := by rw [Nat.pow_succ] at h1; omega
    have h8 := fe2_lt h3
    refine xr_iload C dX12_times_12 rfl ?_
    refine xr_iconst (n := 1) C dX12_times_14 (by decide +kernel) ?_
    refine xr_iand (w := ((r % 2 : Nat) : Int)) C dX12_times_15 (zI_and1 (by omega)) ?_
    refine xr_if_eq C dX12_times_16 rfl (by first | omega | (dsimp only; omega)) (fun hq2 => ?_) (fun hq2 => ?_)
    · refine xr_iload_n C dX12_times_23 rfl ?_
      refine xr_iconst (n := 1) C dX12_times_24 (by decide +kernel) ?_
      refine xr_ishl (w := ((sh * 2 : Nat) : Int)) C dX12_times_25 (zI_shl1 (by omega)) ?_
      refine xr_istore_n C dX12_times_26 (by decide) rfl ?_
      refine xr_iload_n C dX12_times_27 rfl ?_
      refine xr_sipush (n := 255) C dX12_times_28 (by decide +kernel) ?_
      refine xr_icmp_le C dX12_times_31 rfl (by first | omega | (dsimp only; omega)) (by first | omega | (dsimp only; omega)) (fun hq3 => ?_) (fun hq3 => ?_)
      · rw [show ((sh * 2 : Nat) : Int) = (fe2 sh : Int) by rw [← fe2_lo (by omega)]; omega]
        refine xr_iload C dX12_times_40 rfl ?_
        refine xr_iconst (n := 1) C dX12_times_42 (by decide +kernel) ?_
        refine xr_ishr (w := ((r / 2 : Nat) : Int)) C dX12_times_43 (zI_shr1 (by omega)) ?_
        refine xr_istore C dX12_times_44 (by decide) rfl ?_
        refine xr_goto C dX12_times_46 rfl ?_
        exact ih (n, s, fe2 sh, r / 2) ⟨h7, h2, h8, by dsimp only; omega, by rw [← h6]; rw [if_neg (by omega)]⟩ (by dsimp only; omega)
      · refine xr_iload_n C dX12_times_34 rfl ?_
        refine xr_sipush (n := 285) C dX12_times_35 (by decide +kernel) ?_
        refine xr_ixor (w := (fe2 sh : Int)) C dX12_times_38 (by rw [show ((sh * 2 : Nat) : Int) = (sh : Int) * 2 by omega]; exact fe2_hi h3 (by omega)) ?_
        refine xr_istore_n C dX12_times_39 (by decide) rfl ?_
        refine xr_iload C dX12_times_40 rfl ?_
        refine xr_iconst (n := 1) C dX12_times_42 (by decide +kernel) ?_
        refine xr_ishr (w := ((r / 2 : Nat) : Int)) C dX12_times_43 (zI_shr1 (by omega)) ?_
        refine xr_istore C dX12_times_44 (by decide) rfl ?_
        refine xr_goto C dX12_times_46 rfl ?_
        exact ih (n, s, fe2 sh, r / 2) ⟨h7, h2, h8, by dsimp only; omega, by rw [← h6]; rw [if_neg (by omega)]⟩ (by dsimp only; omega)
    · refine xr_iload_n C dX12_times_19 rfl ?_
      refine xr_iload_n C dX12_times_20 rfl ?_
      refine xr_ixor (w := ((s ^^^ sh : Nat) : Int)) C dX12_times_21 (zI_xorN (by omega) (by omega)) ?_
      refine xr_istore_n C dX12_times_22 (by decide) rfl ?_
      refine xr_iload_n C dX12_times_23 rfl ?_
      refine xr_iconst (n := 1) C dX12_times_24 (by decide +kernel) ?_
      refine xr_ishl (w := ((sh * 2 : Nat) : Int)) C dX12_times_25 (zI_shl1 (by omega)) ?_
      refine xr_istore_n C dX12_times_26 (by decide) rfl ?_
      refine xr_iload_n C dX12_times_27 rfl ?_
      refine xr_sipush (n := 255) C dX12_times_28 (by decide +kernel) ?_
      refine xr_icmp_le C dX12_times_31 rfl (by first | omega | (dsimp only; omega)) (by first | omega | (dsimp only; omega)) (fun hq4 => ?_) (fun hq4 => ?_)
      · rw [show ((sh * 2 : Nat) : Int) = (fe2 sh : Int) by rw [← fe2_lo (by omega)]; omega]
        refine xr_iload C dX12_times_40 rfl ?_
        refine xr_iconst (n := 1) C dX12_times_42 (by decide +kernel) ?_
        refine xr_ishr (w := ((r / 2 : Nat) : Int)) C dX12_times_43 (zI_shr1 (by omega)) ?_
        refine xr_istore C dX12_times_44 (by decide) rfl ?_
        refine xr_goto C dX12_times_46 rfl ?_
        exact ih (n, s ^^^ sh, fe2 sh, r / 2) ⟨h7, Nat.xor_lt_two_pow (n := 8) h2 h3, h8, by dsimp only; omega, by rw [← h6]; rw [if_pos (by omega)]⟩ (by dsimp only; omega)
      · refine xr_iload_n C dX12_times_34 rfl ?_
        refine xr_sipush (n := 285) C dX12_times_35 (by decide +kernel) ?_
        refine xr_ixor (w := (fe2 sh : Int)) C dX12_times_38 (by rw [show ((sh * 2 : Nat) : Int) = (sh : Int) * 2 by omega]; exact fe2_hi h3 (by omega)) ?_
        refine xr_istore_n C dX12_times_39 (by decide) rfl ?_
        refine xr_iload C dX12_times_40 rfl ?_
        refine xr_iconst (n := 1) C dX12_times_42 (by decide +kernel) ?_
        refine xr_ishr (w := ((r / 2 : Nat) : Int)) C dX12_times_43 (zI_shr1 (by omega)) ?_
        refine xr_istore C dX12_times_44 (by decide) rfl ?_
        refine xr_goto C dX12_times_46 rfl ?_
        exact ih (n, s ^^^ sh, fe2 sh, r / 2) ⟨h7, Nat.xor_lt_two_pow (n := 8) h2 h3, h8, by dsimp only; omega, by rw [← h6]; rw [if_pos (by omega)]⟩ (by dsimp only; omega)
set_option maxHeartbeats 4000000 in
set_option maxRecDepth 100000 in
theorem m_inverseOf (l : Launch) (G : mq_G) (M : mq_M) (a : Nat) (ha : 1 ≤ a ∧ a < 256) : mq_T l yX12_inverseOf wsX12_inverseOf { frames := 1, cells := 0, slots := 0, locals := 24 } G [.int (zI (a : Int))] M (mq_ri M (gfI a : Int)) 0 0 := by
  refine mq_Met.of (cc := cX12_inverseOf) (maxL := 2) (ret := (some .int)) (by decide) rfl (Nat.le_of_ble_eq_true rfl) rfl rfl ?_
  intro p_ e_ s_ m_ args_ below_ meth_ c_ z_ C hr hlk hname
  obtain ⟨g1, g2⟩ := gfI_prod a ha.2 (by omega)
  have g3 := gfI_lt a
  refine xr_iconst (n := 1) C dX12_inverseOf_0 (by decide +kernel) ?_
  refine xr_istore_n C dX12_inverseOf_1 (by decide) rfl ?_
  refine mq_loop (σ := Nat) (fun y => 1 ≤ y ∧ y ≤ gfI a) (fun y => gfI a - y) (fun y => M) (fun y => [some (.int (zI (a : Int))), some (.int (zI (y : Int)))]) (fun y => []) ?_ 1 ⟨Nat.le_refl _, by omega⟩
  rintro k ⟨h1, h2⟩ ih
  try dsimp only at ih ⊢
  have h3 := gfM_lt a k
  refine xr_iload_n C dX12_inverseOf_2 rfl ?_
  refine xr_iload_n C dX12_inverseOf_3 rfl ?_
  refine xr_callS2i C (m_times l G M a k ha.2 (by omega)) (cwS 2 C.1.2.2.2.2 gX12_inverseOf_X12_times rfl rfl rfl (by decide +kernel) ⟨Nat.le_of_ble_eq_true rfl, Nat.le_of_ble_eq_true rfl⟩) (Nat.le_of_ble_eq_true rfl) ⟨by dsimp only; omega, by dsimp only; omega⟩ dX12_inverseOf_4 (fun r1 M9 hp9 => ?_)
  obtain ⟨rfl, rfl⟩ := hp9
  refine xr_iconst (n := 1) C dX12_inverseOf_7 (by decide +kernel) ?_
  refine xr_icmp_eq C dX12_inverseOf_8 rfl (by first | omega | (dsimp only; omega)) (by first | omega | (dsimp only; omega)) (fun hq2 => ?_) (fun hq2 => ?_)
  · refine xr_iload_n C dX12_inverseOf_17 rfl ?_
    exact xr_iret C hr hlk ⟨_, rfl, by rw [gfI_first a ha.2 (by omega) k (by omega) (by omega)], rfl⟩ (by omega) (by omega) dX12_inverseOf_18
  · have h4 : k ≠ gfI a := fun e => by rw [e, g2] at hq2; omega
    refine xr_iinc C dX12_inverseOf_11 rfl (by decide) rfl ?_
    refine xr_goto C dX12_inverseOf_14 rfl ?_
    exact ih (k + 1) ⟨by omega, by omega⟩ (by omega)
theorem fac_rng : ∀ j, j < 16 → ∀ d, d < 16 → 1 ≤ (128 + j) ^^^ d ∧ (128 + j) ^^^ d < 256 := by decide +kernel
set_option maxHeartbeats 4000000 in
set_option maxRecDepth 100000 in
theorem m_factor (l : Launch) (G : mq_G) (M : mq_M) (j d : Nat) (hj : j < 16) (hd : d < 16) : mq_T l yX12_factor wsX12_factor { frames := 2, cells := 0, slots := 0, locals := 45 } G [.int (zI (j : Int)), .int (zI (d : Int))] M (mq_ri M (gfI ((128 + j) ^^^ d) : Int)) 0 0 := by
  refine mq_Met.of (cc := cX12_factor) (maxL := 2) (ret := (some .int)) (by decide) rfl (Nat.le_of_ble_eq_true rfl) rfl rfl ?_
  intro p_ e_ s_ m_ args_ below_ meth_ c_ z_ C hr hlk hname
  have hf := fac_rng j hj d hd
  refine xr_sipush (n := 128) C dX12_factor_0 (by decide +kernel) ?_
  refine xr_iload_n C dX12_factor_3 rfl ?_
  refine xr_iadd C dX12_factor_4 ?_
  refine xr_iload_n C dX12_factor_5 rfl ?_
  rw [show (128 : Int) + (j : Int) = ((128 + j : Nat) : Int) by omega]
  refine xr_ixor (w := (((128 + j) ^^^ d : Nat) : Int)) C dX12_factor_6 (zI_xorN (by omega) (by omega)) ?_
  refine xr_callS1i C (m_inverseOf l G M _ hf) (cwS 1 C.1.2.2.2.2 gX12_factor_X12_inverseOf rfl rfl rfl (by decide +kernel) ⟨Nat.le_of_ble_eq_true rfl, Nat.le_of_ble_eq_true rfl⟩) (Nat.le_of_ble_eq_true rfl) ⟨by dsimp only; omega, by dsimp only; omega⟩ dX12_factor_7 (fun r1 M9 hp9 => ?_)
  obtain ⟨rfl, rfl⟩ := hp9
  exact xr_iret C hr hlk ⟨_, rfl, rfl, rfl⟩ (by omega) (by omega) dX12_factor_10
set_option maxHeartbeats 4000000 in
set_option maxRecDepth 100000 in
theorem m_no (l : Launch) (G : mq_G) (Mb : Nat → Nat) (hb : mb_inj Mb) (t0 : Int) (M : mq_M) (hD : mdI G M Mb t0) (k : Int) : mq_T l yX12_no wsX12_no { frames := 0, cells := 0, slots := 0, locals := 0 } G [.ref (Mb 0), .int (zI k)] M (mq_pi (fun r M2 => r = 0 ∧ mdI G M2 Mb k ∧ M2 (Mb 39) = M (Mb 39))) 0 0 := by
  refine mq_Met.of (cc := cX12_no) (maxL := 2) (ret := (some .int)) (by decide) rfl (Nat.le_of_ble_eq_true rfl) rfl rfl ?_
  intro p_ e_ s_ m_ args_ below_ meth_ c_ z_ C hr hlk hname
  refine xr_aload_n C dX12_no_0 rfl ?_
  refine xr_iload_n C dX12_no_1 rfl ?_
  refine xr_put C (Cn := RX12) (T := TX12) (N := 25) (by decide +kernel) hD.1 rfl 0 (by decide) tyX12 tyX12_ok nmX12 (C.1.2.2.2.2 (.fieldLink RX12 59 "OssuaryVaultModel" "thrown" "I") (by decide +kernel)) (fun _ h => h) rfl (tyX12_ok 0 (by decide)) rfl rfl (Nat.le_of_ble_eq_true rfl) dX12_no_2 ?_
  refine mq_ren (fun M1 hM1 => ?_)
  refine xr_iconst (n := 0) C dX12_no_5 (by decide +kernel) ?_
  exact xr_iret C hr hlk ⟨_, rfl, rfl, hD.th hb hM1, by rw [hM1, mq_up_n (mb_ne hb (by decide) (by decide) (by decide))]⟩ (by omega) (by omega) dX12_no_6
set_option maxHeartbeats 4000000 in
set_option maxRecDepth 100000 in
theorem m_isNot (l : Launch) (G : mq_G) (Mb : Nat → Nat) (hb : mb_inj Mb) (t0 : Int) (M : mq_M) (hD : mdI G M Mb t0) (k : Int) : mq_T l yX12_isNot wsX12_isNot { frames := 0, cells := 0, slots := 0, locals := 0 } G [.ref (Mb 0), .int (zI k)] M (mq_pi (fun r M2 => r = 0 ∧ mdI G M2 Mb k ∧ M2 (Mb 39) = M (Mb 39))) 0 0 := by
  refine mq_Met.of (cc := cX12_isNot) (maxL := 2) (ret := (some .boolean)) (by decide) rfl (Nat.le_of_ble_eq_true rfl) rfl rfl ?_
  intro p_ e_ s_ m_ args_ below_ meth_ c_ z_ C hr hlk hname
  refine xr_aload_n C dX12_isNot_0 rfl ?_
  refine xr_iload_n C dX12_isNot_1 rfl ?_
  refine xr_put C (Cn := RX12) (T := TX12) (N := 25) (by decide +kernel) hD.1 rfl 0 (by decide) tyX12 tyX12_ok nmX12 (C.1.2.2.2.2 (.fieldLink RX12 59 "OssuaryVaultModel" "thrown" "I") (by decide +kernel)) (fun _ h => h) rfl (tyX12_ok 0 (by decide)) rfl rfl (Nat.le_of_ble_eq_true rfl) dX12_isNot_2 ?_
  refine mq_ren (fun M1 hM1 => ?_)
  refine xr_iconst (n := 0) C dX12_isNot_5 (by decide +kernel) ?_
  exact xr_zret C hr (by decide +kernel) hlk ⟨_, rfl, rfl, hD.th hb hM1, by rw [hM1, mq_up_n (mb_ne hb (by decide) (by decide) (by decide))]⟩ (by omega) (by omega) dX12_isNot_6
set_option maxHeartbeats 4000000 in
set_option maxRecDepth 100000 in
theorem m_ok (l : Launch) (G : mq_G) (Mb : Nat → Nat) (hb : mb_inj Mb) (t0 : Int) (M : mq_M) (hD : mdI G M Mb t0) (k : Int) : mq_T l yX12_ok wsX12_ok { frames := 0, cells := 0, slots := 0, locals := 0 } G [.ref (Mb 0), .int (zI k)] M (mq_pi (fun r M2 => r = k ∧ mdI G M2 Mb 0 ∧ M2 (Mb 39) = M (Mb 39))) 0 0 := by
  refine mq_Met.of (cc := cX12_ok) (maxL := 2) (ret := (some .int)) (by decide) rfl (Nat.le_of_ble_eq_true rfl) rfl rfl ?_
  intro p_ e_ s_ m_ args_ below_ meth_ c_ z_ C hr hlk hname
  refine xr_aload_n C dX12_ok_0 rfl ?_
  refine xr_iconst (n := 0) C dX12_ok_1 (by decide +kernel) ?_
  refine xr_put C (Cn := RX12) (T := TX12) (N := 25) (by decide +kernel) hD.1 rfl 0 (by decide) tyX12 tyX12_ok nmX12 (C.1.2.2.2.2 (.fieldLink RX12 59 "OssuaryVaultModel" "thrown" "I") (by decide +kernel)) (fun _ h => h) rfl (tyX12_ok 0 (by decide)) rfl rfl (Nat.le_of_ble_eq_true rfl) dX12_ok_2 ?_
  refine mq_ren (fun M1 hM1 => ?_)
  refine xr_iload_n C dX12_ok_5 rfl ?_
  exact xr_iret C hr hlk ⟨_, rfl, rfl, hD.th hb hM1, by rw [hM1, mq_up_n (mb_ne hb (by decide) (by decide) (by decide))]⟩ (by omega) (by omega) dX12_ok_6
set_option maxHeartbeats 4000000 in
set_option maxRecDepth 100000 in
theorem m_thrown (l : Launch) (G : mq_G) (M : mq_M) (y : Nat) (t : Int) (vs : List Value) (hM : M y = some (.inr (11, .int (zI t) :: vs))) : mq_T l yX12_thrown wsX12_thrown { frames := 0, cells := 0, slots := 0, locals := 0 } G [.ref y] M (mq_ri M t) 0 0 := by
  refine mq_Met.of (cc := cX12_thrown) (maxL := 1) (ret := (some .int)) (by decide) rfl (Nat.le_of_ble_eq_true rfl) rfl rfl ?_
  intro p_ e_ s_ m_ args_ below_ meth_ c_ z_ C hr hlk hname
  refine xr_aload_n C dX12_thrown_0 rfl ?_
  refine xr_get C (Cn := RX12) (T := TX12) (N := 25) (by decide +kernel) hM rfl 0 (by decide) (C.1.2.2.2.2 (.fieldLink RX12 59 "OssuaryVaultModel" "thrown" "I") (by decide +kernel)) (fun _ h => h) rfl dX12_thrown_1 ?_
  exact xr_iret C hr hlk ⟨_, rfl, rfl, rfl⟩ (by omega) (by omega) dX12_thrown_4
set_option maxHeartbeats 4000000 in
set_option maxRecDepth 100000 in
theorem m_placeOf (l : Launch) (G : mq_G) (Mb : Nat → Nat) (hb : mb_inj Mb) (t0 : Int) (M : mq_M) (hD : mdI G M Mb t0) (k : Int) : mq_T l yX12_placeOf wsX12_placeOf { frames := 0, cells := 0, slots := 0, locals := 0 } G [.ref (Mb 0), .int (zI k)] M (mq_ri M (-1)) 0 0 := by
  refine mq_Met.of (cc := cX12_placeOf) (maxL := 3) (ret := (some .int)) (by decide) rfl (Nat.le_of_ble_eq_true rfl) rfl rfl ?_
  intro p_ e_ s_ m_ args_ below_ meth_ c_ z_ C hr hlk hname
  refine xr_iconst (n := 0) C dX12_placeOf_0 (by decide +kernel) ?_
  refine xr_istore_n C dX12_placeOf_1 (by decide) rfl ?_
  refine xr_iload_n C dX12_placeOf_2 rfl ?_
  refine xr_aload_n C dX12_placeOf_3 rfl ?_
  refine xr_get C (Cn := RX12) (T := TX12) (N := 25) (by decide +kernel) hD.1 rfl 3 (by decide) (C.1.2.2.2.2 (.fieldLink RX12 95 "OssuaryVaultModel" "files" "I") (by decide +kernel)) (fun _ h => h) rfl dX12_placeOf_4 ?_
  refine xr_icmp_ge C dX12_placeOf_7 rfl (by first | omega | (dsimp only; omega)) (by first | omega | (dsimp only; omega)) (fun _ => ?_) (fun hq => absurd hq (by omega))
  refine xr_iconst (n := (-1)) C dX12_placeOf_28 (by decide +kernel) ?_
  exact xr_iret C hr hlk ⟨_, rfl, rfl, rfl⟩ (by omega) (by omega) dX12_placeOf_29
set_option maxHeartbeats 4000000 in
set_option maxRecDepth 100000 in
theorem m_isFile (l : Launch) (G : mq_G) (Mb : Nat → Nat) (hb : mb_inj Mb) (t0 : Int) (M : mq_M) (hD : mdI G M Mb t0) (k : Int) (hkr : -2147483648 ≤ k ∧ k < 2147483648) : mq_T l yX12_isFile wsX12_isFile { frames := 1, cells := 0, slots := 0, locals := 22 } G [.ref (Mb 0), .int (zI k)] M (mq_ri M 0) 0 0 := by
  refine mq_Met.of (cc := cX12_isFile) (maxL := 2) (ret := (some .boolean)) (by decide) rfl (Nat.le_of_ble_eq_true rfl) rfl rfl ?_
  intro p_ e_ s_ m_ args_ below_ meth_ c_ z_ C hr hlk hname
  refine xr_iload_n C dX12_isFile_0 rfl ?_
  refine xr_iconst (n := 0) C dX12_isFile_1 (by decide +kernel) ?_
  refine xr_aload_n C dX12_isFile_2 rfl ?_
  refine xr_get C (Cn := RX12) (T := TX12) (N := 25) (by decide +kernel) hD.1 rfl 3 (by decide) (C.1.2.2.2.2 (.fieldLink RX12 95 "OssuaryVaultModel" "files" "I") (by decide +kernel)) (fun _ h => h) rfl dX12_isFile_3 ?_
  refine xr_iconst (n := 1) C dX12_isFile_6 (by decide +kernel) ?_
  refine xr_isub C dX12_isFile_7 ?_
  refine xr_callS3i C (m_isIn l G M k hkr 0 (by decide) (0 - 1) (by decide)) (cwS 3 C.1.2.2.2.2 gX12_isFile_X12_isIn rfl rfl rfl (by decide +kernel) ⟨Nat.le_of_ble_eq_true rfl, Nat.le_of_ble_eq_true rfl⟩) (Nat.le_of_ble_eq_true rfl) ⟨by dsimp only; omega, by dsimp only; omega⟩ dX12_isFile_8 (fun r1 M9 hp9 => ?_)
  obtain ⟨rfl, rfl⟩ := hp9
  rw [if_neg (by omega)]
  exact xr_zret C hr (by decide +kernel) hlk ⟨_, rfl, rfl, rfl⟩ (by omega) (by omega) dX12_isFile_11
set_option maxHeartbeats 4000000 in
set_option maxRecDepth 100000 in
theorem m_isPlace (l : Launch) (G : mq_G) (M : mq_M) (k : Int) (hkr : -2147483648 ≤ k ∧ k < 2147483648) : mq_T l yX12_isPlace wsX12_isPlace { frames := 1, cells := 0, slots := 0, locals := 22 } G [.int (zI k)] M (mq_ri M (if 0 ≤ k ∧ k ≤ 15 then 1 else 0)) 0 0 := by
  refine mq_Met.of (cc := cX12_isPlace) (maxL := 1) (ret := (some .boolean)) (by decide) rfl (Nat.le_of_ble_eq_true rfl) rfl rfl ?_
  intro p_ e_ s_ m_ args_ below_ meth_ c_ z_ C hr hlk hname
  refine xr_iload_n C dX12_isPlace_0 rfl ?_
  refine xr_iconst (n := 0) C dX12_isPlace_1 (by decide +kernel) ?_
  refine xr_bipush (n := 15) C dX12_isPlace_2 (by decide +kernel) ?_
  refine xr_callS3i C (m_isIn l G M k hkr 0 (by decide) 15 (by decide)) (cwS 3 C.1.2.2.2.2 gX12_isPlace_X12_isIn rfl rfl rfl (by decide +kernel) ⟨Nat.le_of_ble_eq_true rfl, Nat.le_of_ble_eq_true rfl⟩) (Nat.le_of_ble_eq_true rfl) ⟨by dsimp only; omega, by dsimp only; omega⟩ dX12_isPlace_4 (fun r1 M9 hp9 => ?_)
  obtain ⟨rfl, rfl⟩ := hp9
  by_cases hk9 : 0 ≤ k ∧ k ≤ 15
  · rw [if_pos hk9]
    exact xr_zret C hr (by decide +kernel) hlk ⟨_, rfl, rfl, rfl⟩ (by omega) (by omega) dX12_isPlace_7
  · rw [if_neg hk9]
    exact xr_zret C hr (by decide +kernel) hlk ⟨_, rfl, rfl, rfl⟩ (by omega) (by omega) dX12_isPlace_7
set_option maxHeartbeats 4000000 in
set_option maxRecDepth 100000 in
theorem m_isVolume (l : Launch) (G : mq_G) (Mb : Nat → Nat) (hb : mb_inj Mb) (t0 : Int) (M : mq_M) (hD : mdI G M Mb t0) (k : Int) (hkr : -2147483648 ≤ k ∧ k < 2147483648) : mq_T l yX12_isVolume wsX12_isVolume { frames := 2, cells := 0, slots := 0, locals := 42 } G [.ref (Mb 0), .int (zI k)] M (mq_ri M 0) 0 0 := by
  refine mq_Met.of (cc := cX12_isVolume) (maxL := 2) (ret := (some .boolean)) (by decide) rfl (Nat.le_of_ble_eq_true rfl) rfl rfl ?_
  intro p_ e_ s_ m_ args_ below_ meth_ c_ z_ C hr hlk hname
  obtain ⟨s1, s2⟩ := hD.2.2.2.2.2.2.1
  refine xr_iload_n C dX12_isVolume_0 rfl ?_
  refine xr_callS1i C (m_isPlace l G M k hkr) (cwS 1 C.1.2.2.2.2 gX12_isVolume_X12_isPlace rfl rfl rfl (by decide +kernel) ⟨Nat.le_of_ble_eq_true rfl, Nat.le_of_ble_eq_true rfl⟩) (Nat.le_of_ble_eq_true rfl) ⟨by dsimp only; omega, by dsimp only; omega⟩ dX12_isVolume_1 (fun r1 M9 hp9 => ?_)
  obtain ⟨rfl, rfl⟩ := hp9
  by_cases hk9 : 0 ≤ k ∧ k ≤ 15
  · rw [if_pos hk9]
    refine xr_if_eq C dX12_isVolume_4 rfl (by decide) (fun hq => absurd hq (by decide)) (fun _ => ?_)
    refine xr_aload_n C dX12_isVolume_7 rfl ?_
    refine xr_get C (Cn := RX12) (T := TX12) (N := 25) (by decide +kernel) hD.1 rfl 8 (by decide) (C.1.2.2.2.2 (.fieldLink RX12 28 "OssuaryVaultModel" "sizes" "[I") (by decide +kernel)) (fun _ h => h) rfl dX12_isVolume_8 ?_
    refine xr_iload_n C dX12_isVolume_11 rfl ?_
    refine xr_iald C s2.1 mq_tI hk9.1 (by show k < (16 : Int); omega) (by first | omega | (dsimp only; omega)) dX12_isVolume_12 ?_
    rw [s2.2 k.toNat (by omega)]
    refine xr_iconst (n := (-1)) C dX12_isVolume_13 (by decide +kernel) ?_
    refine xr_icmp_eq C dX12_isVolume_14 rfl (by first | omega | (dsimp only; omega)) (by first | omega | (dsimp only; omega)) (fun _ => ?_) (fun hq => absurd hq (by omega))
    refine xr_iconst (n := 0) C dX12_isVolume_21 (by decide +kernel) ?_
    exact xr_zret C hr (by decide +kernel) hlk ⟨_, rfl, rfl, rfl⟩ (by omega) (by omega) dX12_isVolume_22
  · rw [if_neg hk9]
    refine xr_if_eq C dX12_isVolume_4 rfl (by decide) (fun _ => ?_) (fun hq => absurd hq (by decide))
    refine xr_iconst (n := 0) C dX12_isVolume_21 (by decide +kernel) ?_
    exact xr_zret C hr (by decide +kernel) hlk ⟨_, rfl, rfl, rfl⟩ (by omega) (by omega) dX12_isVolume_22
set_option maxHeartbeats 4000000 in
set_option maxRecDepth 100000 in
theorem m_isByte (l : Launch) (G : mq_G) (Mb : Nat → Nat) (hb : mb_inj Mb) (t0 : Int) (M : mq_M) (hD : mdI G M Mb t0) (k : Int) (hkr : -2147483648 ≤ k ∧ k < 2147483648) (q : Int) (hqr : -2147483648 ≤ q ∧ q < 2147483648) : mq_T l yX12_isByte wsX12_isByte { frames := 3, cells := 0, slots := 0, locals := 63 } G [.ref (Mb 0), .int (zI k), .int (zI q)] M (mq_ri M 0) 0 0 := by
  refine mq_Met.of (cc := cX12_isByte) (maxL := 3) (ret := (some .boolean)) (by decide) rfl (Nat.le_of_ble_eq_true rfl) rfl rfl ?_
  intro p_ e_ s_ m_ args_ below_ meth_ c_ z_ C hr hlk hname
  refine xr_aload_n C dX12_isByte_0 rfl ?_
  refine xr_iload_n C dX12_isByte_1 rfl ?_
  refine xr_callV1i C (m_isVolume l G Mb hb t0 M hD k hkr) (cwV 1 C.1.2.2.2.2 gX12_isByte_X12_isVolume rfl rfl rfl (by decide +kernel) ⟨Nat.le_of_ble_eq_true rfl, Nat.le_of_ble_eq_true rfl⟩) hD.1 rfl (Nat.le_of_ble_eq_true rfl) ⟨by dsimp only; omega, by dsimp only; omega⟩ dX12_isByte_2 (fun r1 M9 hp9 => ?_)
  obtain ⟨rfl, rfl⟩ := hp9
  refine xr_if_eq C dX12_isByte_5 rfl (by decide) (fun _ => ?_) (fun hq => absurd hq (by decide))
  refine xr_iconst (n := 0) C dX12_isByte_28 (by decide +kernel) ?_
  exact xr_zret C hr (by decide +kernel) hlk ⟨_, rfl, rfl, rfl⟩ (by omega) (by omega) dX12_isByte_29
set_option maxHeartbeats 4000000 in
set_option maxRecDepth 100000 in
theorem m_streamSize (l : Launch) (G : mq_G) (Mb : Nat → Nat) (hb : mb_inj Mb) (t0 : Int) (M : mq_M) (hD : mdI G M Mb t0) : mq_T l yX12_streamSize wsX12_streamSize { frames := 2, cells := 0, slots := 0, locals := 48 } G [.ref (Mb 0)] M (mq_ri M 6) 0 0 := by
  refine mq_Met.of (cc := cX12_streamSize) (maxL := 3) (ret := (some .int)) (by decide) rfl (Nat.le_of_ble_eq_true rfl) rfl rfl ?_
  intro p_ e_ s_ m_ args_ below_ meth_ c_ z_ C hr hlk hname
  refine xr_bipush (n := 6) C dX12_streamSize_0 (by decide +kernel) ?_
  refine xr_istore_n C dX12_streamSize_2 (by decide) rfl ?_
  refine xr_iconst (n := 0) C dX12_streamSize_3 (by decide +kernel) ?_
  refine xr_istore_n C dX12_streamSize_4 (by decide) rfl ?_
  refine xr_iload_n C dX12_streamSize_5 rfl ?_
  refine xr_aload_n C dX12_streamSize_6 rfl ?_
  refine xr_get C (Cn := RX12) (T := TX12) (N := 25) (by decide +kernel) hD.1 rfl 3 (by decide) (C.1.2.2.2.2 (.fieldLink RX12 95 "OssuaryVaultModel" "files" "I") (by decide +kernel)) (fun _ h => h) rfl dX12_streamSize_7 ?_
  refine xr_icmp_ge C dX12_streamSize_10 rfl (by first | omega | (dsimp only; omega)) (by first | omega | (dsimp only; omega)) (fun _ => ?_) (fun hq => absurd hq (by omega))
  refine xr_iload_n C dX12_streamSize_50 rfl ?_
  exact xr_iret C hr hlk ⟨_, rfl, rfl, rfl⟩ (by omega) (by omega) dX12_streamSize_51
