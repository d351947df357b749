/-- the reference's fields with what is written, how many files -/
def mYw (Mb : Nat → Nat) (w n : Int) : List Value := [.ref (Mb 1), .int (zI w), .int (zI n), .ref (Mb 2), .ref (Mb 3), .ref (Mb 4), .ref (Mb 5), .ref (Mb 6), .int (zI 0), .int (zI 0), .int (zI 0), .ref (Mb 7), .int (zI 0), .int (zI 0), .ref (Mb 8), .ref (Mb 9), .ref (Mb 10), .ref (Mb 11), .ref (Mb 12), .ref (Mb 13), .ref (Mb 14), .ref (Mb 15), .int (zI 0), .int (zI 0)]
/-- .. with the leader -/
def mYl (Mb : Nat → Nat) (ld : Int) : List Value := [.ref (Mb 1), .int (zI 0), .int (zI 0), .ref (Mb 2), .ref (Mb 3), .ref (Mb 4), .ref (Mb 5), .ref (Mb 6), .int (zI 0), .int (zI 0), .int (zI 0), .ref (Mb 7), .int (zI 0), .int (zI 0), .ref (Mb 8), .ref (Mb 9), .ref (Mb 10), .ref (Mb 11), .ref (Mb 12), .ref (Mb 13), .ref (Mb 14), .ref (Mb 15), .int (zI ld), .int (zI 0)]
set_option maxHeartbeats 4000000 in
set_option maxRecDepth 100000 in
theorem m_write (l : Launch) (G : mq_G) (Mb : Nat → Nat) (hb : mb_inj Mb) (t0 : Int) (M : mq_M) (hD : mdI G M Mb t0) (v : Int) (hvr : -2147483648 ≤ v ∧ v < 2147483648) (t : Int) (htr : -2147483648 ≤ t ∧ t < 2147483648) : mq_T l yX12_write wsX12_write { frames := 1, cells := 0, slots := 0, locals := 22 } G [.ref (Mb 0), .int (zI v), .int (zI t)] M (mdR M Mb (if (0 ≤ v ∧ v ≤ 255) ∧ (1 ≤ t ∧ t ≤ 200) then 0 else 1) (t)) 0 0 := by
  refine mq_Met.of (cc := cX12_write) (maxL := 4) (ret := (some .int)) (by decide) rfl (Nat.le_of_ble_eq_true rfl) rfl rfl ?_
  intro p_ e_ s_ m_ args_ below_ meth_ c_ z_ C hr hlk hname
  refine xr_aload_n C dX12_write_0 rfl ?_
  refine xr_iconst (n := 0) C dX12_write_1 (by decide +kernel) ?_
  refine xr_put C (Cn := RX12) (T := TX12) (N := 25) (by decide +kernel) hD.1 rfl 0 (by decide) tyX12 tyX12_ok nmX12 (C.1.2.2.2.2 (.fieldLink RX12 59 "OssuaryVaultModel" "thrown" "I") (by decide +kernel)) (fun _ h => h) rfl (tyX12_ok 0 (by decide)) rfl rfl (Nat.le_of_ble_eq_true rfl) dX12_write_2 ?_
  refine mq_ren (fun M1 hM1 => ?_)
  have hD1 : mdI G M1 Mb 0 := hD.th hb hM1
  have hO1 : M1 (Mb 39) = M (Mb 39) := by rw [hM1, mq_up_n (mb_ne hb (by decide) (by decide) (by decide))]
  refine xr_iload_n C dX12_write_5 rfl ?_
  refine xr_iconst (n := 0) C dX12_write_6 (by decide +kernel) ?_
  refine xr_sipush (n := 255) C dX12_write_7 (by decide +kernel) ?_
  refine xr_callS3i C (m_isIn l G M1 v hvr 0 (by decide) 255 (by decide)) (cwS 3 C.1.2.2.2.2 gX12_write_X12_isIn rfl rfl rfl (by decide +kernel) ⟨Nat.le_of_ble_eq_true rfl, Nat.le_of_ble_eq_true rfl⟩) (Nat.le_of_ble_eq_true rfl) ⟨by dsimp only; omega, by dsimp only; omega⟩ dX12_write_10 (fun r2 M9 hp9 => ?_)
  obtain ⟨rfl, rfl⟩ := hp9
  by_cases hc0 : 0 ≤ v ∧ v ≤ 255
  · rw [show (if 0 ≤ v ∧ v ≤ 255 then (1 : Int) else 0) = 1 from if_pos hc0]
    refine xr_if_eq C dX12_write_13 rfl (by decide) (fun hq => absurd hq (by decide)) (fun _ => ?_)
    refine xr_iload_n C dX12_write_16 rfl ?_
    refine xr_iconst (n := 1) C dX12_write_17 (by decide +kernel) ?_
    refine xr_sipush (n := 200) C dX12_write_18 (by decide +kernel) ?_
    refine xr_callS3i C (m_isIn l G M1 t htr 1 (by decide) 200 (by decide)) (cwS 3 C.1.2.2.2.2 gX12_write_X12_isIn rfl rfl rfl (by decide +kernel) ⟨Nat.le_of_ble_eq_true rfl, Nat.le_of_ble_eq_true rfl⟩) (Nat.le_of_ble_eq_true rfl) ⟨by dsimp only; omega, by dsimp only; omega⟩ dX12_write_21 (fun r3 M9 hp9 => ?_)
    obtain ⟨rfl, rfl⟩ := hp9
    by_cases hc1 : 1 ≤ t ∧ t ≤ 200
    · rw [show (if 1 ≤ t ∧ t ≤ 200 then (1 : Int) else 0) = 1 from if_pos hc1]
      refine xr_if_ne C dX12_write_24 rfl (by decide) (fun _ => ?_) (fun hq => absurd hq (by decide))
      obtain ⟨v, rfl⟩ := Int.eq_ofNat_of_zero_le (show 0 ≤ v by omega)
      obtain ⟨t, rfl⟩ := Int.eq_ofNat_of_zero_le (show 0 ≤ t by omega)
      refine xr_aload_n C dX12_write_33 rfl ?_
      refine xr_get C (Cn := RX12) (T := TX12) (N := 25) (by decide +kernel) hD1.1 rfl 2 (by decide) (C.1.2.2.2.2 (.fieldLink RX12 91 "OssuaryVaultModel" "written" "I") (by decide +kernel)) (fun _ h => h) rfl dX12_write_34 ?_
      refine xr_iload_n C dX12_write_37 rfl ?_
      refine xr_iadd C dX12_write_38 ?_
      refine xr_sipush (n := 240) C dX12_write_39 (by decide +kernel) ?_
      refine xr_icmp_le C dX12_write_42 rfl (by first | omega | (dsimp only; omega)) (by first | omega | (dsimp only; omega)) (fun _ => ?_) (fun hq => absurd hq (by omega))
      obtain ⟨f1, s1⟩ := hD1.2.1
      refine xr_iconst (n := 0) C dX12_write_51 (by decide +kernel) ?_
      refine xr_istore_n C dX12_write_52 (by decide) rfl ?_
      refine mq_loop (σ := Nat × mq_M × (Nat → Int32)) (fun y => y.1 ≤ t ∧ y.2.1 (Mb 0) = some (.inr (11, .int (zI 0) :: mYw Mb (y.1 : Int) 0)) ∧ y.2.1 (Mb 1) = some (.inl (G.2.1, 240, .inl y.2.2)) ∧ y.2.1 (Mb 39) = M (Mb 39)) (fun y => t - y.1) (fun y => y.2.1) (fun y => [some (.ref (Mb 0)), some (.int (zI (v : Int))), some (.int (zI (t : Int))), some (.int (zI (y.1 : Int)))]) (fun y => []) ?_ (0, M1, f1) ⟨Nat.zero_le _, hD1.1, s1, hO1⟩
      rintro ⟨i, M3, f3⟩ ⟨hi, k0, k1, k2⟩ ih
      dsimp only at hi k0 k1 k2 ih ⊢
      refine xr_iload_n C dX12_write_53 rfl ?_
      refine xr_iload_n C dX12_write_54 rfl ?_
      refine xr_icmp_ge C dX12_write_55 rfl (by first | omega | (dsimp only; omega)) (by first | omega | (dsimp only; omega)) (fun hq4 => ?_) (fun hq4 => ?_)
      · have hit : i = t := by omega
        refine xr_aload_n C dX12_write_81 rfl ?_
        refine xr_get C (Cn := RX12) (T := TX12) (N := 25) (by decide +kernel) k0 rfl 2 (by decide) (C.1.2.2.2.2 (.fieldLink RX12 91 "OssuaryVaultModel" "written" "I") (by decide +kernel)) (fun _ h => h) rfl dX12_write_82 ?_
        exact xr_iret C hr hlk ⟨_, rfl, by rw [if_pos (by omega)]; exact ⟨fun _ => by rw [hit], ⟨_, k0⟩, k2⟩⟩ (by omega) (by omega) dX12_write_85
      · refine xr_aload_n C dX12_write_58 rfl ?_
        refine xr_get C (Cn := RX12) (T := TX12) (N := 25) (by decide +kernel) k0 rfl 1 (by decide) (C.1.2.2.2.2 (.fieldLink RX12 9 "OssuaryVaultModel" "sheet" "[I") (by decide +kernel)) (fun _ h => h) rfl dX12_write_59 ?_
        refine xr_aload_n C dX12_write_62 rfl ?_
        refine xr_dup C dX12_write_63 rfl ?_
        refine xr_get C (Cn := RX12) (T := TX12) (N := 25) (by decide +kernel) k0 rfl 2 (by decide) (C.1.2.2.2.2 (.fieldLink RX12 91 "OssuaryVaultModel" "written" "I") (by decide +kernel)) (fun _ h => h) rfl dX12_write_64 ?_
        refine xr_dup_x1 C dX12_write_67 rfl rfl ?_
        refine xr_iconst (n := 1) C dX12_write_68 (by decide +kernel) ?_
        refine xr_iadd C dX12_write_69 ?_
        refine xr_put C (Cn := RX12) (T := TX12) (N := 25) (by decide +kernel) k0 rfl 2 (by decide) tyX12 tyX12_ok nmX12 (C.1.2.2.2.2 (.fieldLink RX12 91 "OssuaryVaultModel" "written" "I") (by decide +kernel)) (fun _ h => h) rfl (tyX12_ok 2 (by decide)) rfl rfl (Nat.le_of_ble_eq_true rfl) dX12_write_70 ?_
        refine mq_ren (fun M5 hM5 => ?_)
        have j1 := (show M5 (Mb 1) = M3 (Mb 1) by rw [hM5, mq_up_n (mb_ne hb (by decide) (by decide) (by decide))]).trans k1
        refine xr_iload_n C dX12_write_73 rfl ?_
        refine xr_iast C j1 mq_tI (by first | omega | (dsimp only; omega)) (by first | omega | (dsimp only; omega)) (by first | omega | (dsimp only; omega)) dX12_write_74 ?_
        refine mq_ren (fun M6 hM6 => ?_)
        refine xr_iinc C dX12_write_75 rfl (by decide) rfl ?_
        refine xr_goto C dX12_write_78 rfl ?_
        exact ih (i + 1, M6, _) ⟨by dsimp only; omega, by dsimp only; rw [hM6, mq_up_n (mb_ne hb (by decide) (by decide) (by decide)), hM5, mq_up_s]; rfl, by dsimp only; rw [hM6, mq_up_s], by dsimp only; rw [hM6, mq_up_n (mb_ne hb (by decide) (by decide) (by decide)), hM5, mq_up_n (mb_ne hb (by decide) (by decide) (by decide))]; exact k2⟩ (by dsimp only; omega)
    · rw [show (if 1 ≤ t ∧ t ≤ 200 then (1 : Int) else 0) = 0 from if_neg hc1]
      refine xr_if_ne C dX12_write_24 rfl (by decide) (fun hq => absurd hq (by decide)) (fun _ => ?_)
      refine xr_aload_n C dX12_write_27 rfl ?_
      refine xr_iconst (n := 1) C dX12_write_28 (by decide +kernel) ?_
      refine xr_callV1i C (m_no l G Mb hb 0 M1 hD1 1) (cwV 1 C.1.2.2.2.2 gX12_write_X12_no rfl rfl rfl (by decide +kernel) ⟨Nat.le_of_ble_eq_true rfl, Nat.le_of_ble_eq_true rfl⟩) hD1.1 rfl (Nat.le_of_ble_eq_true rfl) ⟨by dsimp only; omega, by dsimp only; omega⟩ dX12_write_29 (fun r9 M9 hp9 => ?_)
      obtain ⟨rfl, hD9, hO9⟩ := hp9
      exact xr_iret C hr hlk ⟨_, rfl, by rw [if_neg (by omega)]; exact ⟨fun h => absurd h (by decide), mdQ.of hD9 (hO9.trans hO1)⟩⟩ (by omega) (by omega) dX12_write_32
  · rw [show (if 0 ≤ v ∧ v ≤ 255 then (1 : Int) else 0) = 0 from if_neg hc0]
    refine xr_if_eq C dX12_write_13 rfl (by decide) (fun _ => ?_) (fun hq => absurd hq (by decide))
    refine xr_aload_n C dX12_write_27 rfl ?_
    refine xr_iconst (n := 1) C dX12_write_28 (by decide +kernel) ?_
    refine xr_callV1i C (m_no l G Mb hb 0 M1 hD1 1) (cwV 1 C.1.2.2.2.2 gX12_write_X12_no rfl rfl rfl (by decide +kernel) ⟨Nat.le_of_ble_eq_true rfl, Nat.le_of_ble_eq_true rfl⟩) hD1.1 rfl (Nat.le_of_ble_eq_true rfl) ⟨by dsimp only; omega, by dsimp only; omega⟩ dX12_write_29 (fun r9 M9 hp9 => ?_)
    obtain ⟨rfl, hD9, hO9⟩ := hp9
    exact xr_iret C hr hlk ⟨_, rfl, by rw [if_neg (by omega)]; exact ⟨fun h => absurd h (by decide), mdQ.of hD9 (hO9.trans hO1)⟩⟩ (by omega) (by omega) dX12_write_32
set_option maxHeartbeats 4000000 in
set_option maxRecDepth 100000 in
theorem m_noise (l : Launch) (G : mq_G) (Mb : Nat → Nat) (hb : mb_inj Mb) (t0 : Int) (M : mq_M) (hD : mdI G M Mb t0) (v : Int) (hvr : -2147483648 ≤ v ∧ v < 2147483648) (t : Int) (htr : -2147483648 ≤ t ∧ t < 2147483648) : mq_T l yX12_noise wsX12_noise { frames := 1, cells := 0, slots := 0, locals := 22 } G [.ref (Mb 0), .int (zI v), .int (zI t)] M (mdR M Mb (if (0 ≤ v ∧ v ≤ 65535) ∧ (1 ≤ t ∧ t ≤ 240) then 0 else 1) (t)) 0 0 := by
  refine mq_Met.of (cc := cX12_noise) (maxL := 5) (ret := (some .int)) (by decide) rfl (Nat.le_of_ble_eq_true rfl) rfl rfl ?_
  intro p_ e_ s_ m_ args_ below_ meth_ c_ z_ C hr hlk hname
  refine xr_aload_n C dX12_noise_0 rfl ?_
  refine xr_iconst (n := 0) C dX12_noise_1 (by decide +kernel) ?_
  refine xr_put C (Cn := RX12) (T := TX12) (N := 25) (by decide +kernel) hD.1 rfl 0 (by decide) tyX12 tyX12_ok nmX12 (C.1.2.2.2.2 (.fieldLink RX12 59 "OssuaryVaultModel" "thrown" "I") (by decide +kernel)) (fun _ h => h) rfl (tyX12_ok 0 (by decide)) rfl rfl (Nat.le_of_ble_eq_true rfl) dX12_noise_2 ?_
  refine mq_ren (fun M1 hM1 => ?_)
  have hD1 : mdI G M1 Mb 0 := hD.th hb hM1
  have hO1 : M1 (Mb 39) = M (Mb 39) := by rw [hM1, mq_up_n (mb_ne hb (by decide) (by decide) (by decide))]
  refine xr_iload_n C dX12_noise_5 rfl ?_
  refine xr_iconst (n := 0) C dX12_noise_6 (by decide +kernel) ?_
  refine xr_ldc (k0 := 65535) C (C.1.2.2.2.2 (.constant RX12 83 (zI 65535)) (by decide +kernel)) dX12_noise_7 ?_
  refine xr_callS3i C (m_isIn l G M1 v hvr 0 (by decide) 65535 (by decide)) (cwS 3 C.1.2.2.2.2 gX12_noise_X12_isIn rfl rfl rfl (by decide +kernel) ⟨Nat.le_of_ble_eq_true rfl, Nat.le_of_ble_eq_true rfl⟩) (Nat.le_of_ble_eq_true rfl) ⟨by dsimp only; omega, by dsimp only; omega⟩ dX12_noise_9 (fun r2 M9 hp9 => ?_)
  obtain ⟨rfl, rfl⟩ := hp9
  by_cases hc0 : 0 ≤ v ∧ v ≤ 65535
  · rw [show (if 0 ≤ v ∧ v ≤ 65535 then (1 : Int) else 0) = 1 from if_pos hc0]
    refine xr_if_eq C dX12_noise_12 rfl (by decide) (fun hq => absurd hq (by decide)) (fun _ => ?_)
    refine xr_iload_n C dX12_noise_15 rfl ?_
    refine xr_iconst (n := 1) C dX12_noise_16 (by decide +kernel) ?_
    refine xr_sipush (n := 240) C dX12_noise_17 (by decide +kernel) ?_
    refine xr_callS3i C (m_isIn l G M1 t htr 1 (by decide) 240 (by decide)) (cwS 3 C.1.2.2.2.2 gX12_noise_X12_isIn rfl rfl rfl (by decide +kernel) ⟨Nat.le_of_ble_eq_true rfl, Nat.le_of_ble_eq_true rfl⟩) (Nat.le_of_ble_eq_true rfl) ⟨by dsimp only; omega, by dsimp only; omega⟩ dX12_noise_20 (fun r3 M9 hp9 => ?_)
    obtain ⟨rfl, rfl⟩ := hp9
    by_cases hc1 : 1 ≤ t ∧ t ≤ 240
    · rw [show (if 1 ≤ t ∧ t ≤ 240 then (1 : Int) else 0) = 1 from if_pos hc1]
      refine xr_if_ne C dX12_noise_23 rfl (by decide) (fun _ => ?_) (fun hq => absurd hq (by decide))
      obtain ⟨v, rfl⟩ := Int.eq_ofNat_of_zero_le (show 0 ≤ v by omega)
      obtain ⟨t, rfl⟩ := Int.eq_ofNat_of_zero_le (show 0 ≤ t by omega)
      refine xr_aload_n C dX12_noise_32 rfl ?_
      refine xr_get C (Cn := RX12) (T := TX12) (N := 25) (by decide +kernel) hD1.1 rfl 2 (by decide) (C.1.2.2.2.2 (.fieldLink RX12 91 "OssuaryVaultModel" "written" "I") (by decide +kernel)) (fun _ h => h) rfl dX12_noise_33 ?_
      refine xr_iload_n C dX12_noise_36 rfl ?_
      refine xr_iadd C dX12_noise_37 ?_
      refine xr_sipush (n := 240) C dX12_noise_38 (by decide +kernel) ?_
      refine xr_icmp_le C dX12_noise_41 rfl (by first | omega | (dsimp only; omega)) (by first | omega | (dsimp only; omega)) (fun _ => ?_) (fun hq => absurd hq (by omega))
      obtain ⟨f1, s1⟩ := hD1.2.1
      refine xr_iload_n C dX12_noise_50 rfl ?_
      refine xr_istore_n C dX12_noise_51 (by decide) rfl ?_
      refine xr_iconst (n := 0) C dX12_noise_52 (by decide +kernel) ?_
      refine xr_istore C dX12_noise_53 (by decide) rfl ?_
      refine mq_loop (σ := Nat × mq_M × (Nat → Int32) × Int) (fun y => y.1 ≤ t ∧ y.2.1 (Mb 0) = some (.inr (11, .int (zI 0) :: mYw Mb (y.1 : Int) 0)) ∧ y.2.1 (Mb 1) = some (.inl (G.2.1, 240, .inl y.2.2.1)) ∧ y.2.1 (Mb 39) = M (Mb 39) ∧ 0 ≤ y.2.2.2 ∧ y.2.2.2 < 65537) (fun y => t - y.1) (fun y => y.2.1) (fun y => [some (.ref (Mb 0)), some (.int (zI (v : Int))), some (.int (zI (t : Int))), some (.int (zI y.2.2.2)), some (.int (zI (y.1 : Int)))]) (fun y => []) ?_ (0, M1, f1, (v : Int)) ⟨Nat.zero_le _, hD1.1, s1, hO1, by dsimp only; omega, by dsimp only; omega⟩
      rintro ⟨i, M3, f3, r⟩ ⟨hi, k0, k1, k2, hr0, hr1⟩ ih
      dsimp only at hi k0 k1 k2 hr0 hr1 ih ⊢
      refine xr_iload C dX12_noise_55 rfl ?_
      refine xr_iload_n C dX12_noise_57 rfl ?_
      refine xr_icmp_ge C dX12_noise_58 rfl (by first | omega | (dsimp only; omega)) (by first | omega | (dsimp only; omega)) (fun hq4 => ?_) (fun hq4 => ?_)
      · have hit : i = t := by omega
        refine xr_aload_n C dX12_noise_99 rfl ?_
        refine xr_get C (Cn := RX12) (T := TX12) (N := 25) (by decide +kernel) k0 rfl 2 (by decide) (C.1.2.2.2.2 (.fieldLink RX12 91 "OssuaryVaultModel" "written" "I") (by decide +kernel)) (fun _ h => h) rfl dX12_noise_100 ?_
        exact xr_iret C hr hlk ⟨_, rfl, by rw [if_pos (by omega)]; exact ⟨fun _ => by rw [hit], ⟨_, k0⟩, k2⟩⟩ (by omega) (by omega) dX12_noise_103
      · refine xr_iload_n C dX12_noise_61 rfl ?_
        refine xr_bipush (n := 75) C dX12_noise_62 (by decide +kernel) ?_
        refine xr_imul C dX12_noise_64 ?_
        refine xr_bipush (n := 74) C dX12_noise_65 (by decide +kernel) ?_
        refine xr_iadd C dX12_noise_67 ?_
        refine xr_ldc (k0 := 65537) C (C.1.2.2.2.2 (.constant RX12 94 (zI 65537)) (by decide +kernel)) dX12_noise_68 ?_
        refine xr_irem C dX12_noise_70 (by omega) (by omega) ?_
        refine xr_istore_n C dX12_noise_71 (by decide) rfl ?_
        refine xr_aload_n C dX12_noise_72 rfl ?_
        refine xr_get C (Cn := RX12) (T := TX12) (N := 25) (by decide +kernel) k0 rfl 1 (by decide) (C.1.2.2.2.2 (.fieldLink RX12 9 "OssuaryVaultModel" "sheet" "[I") (by decide +kernel)) (fun _ h => h) rfl dX12_noise_73 ?_
        refine xr_aload_n C dX12_noise_76 rfl ?_
        refine xr_dup C dX12_noise_77 rfl ?_
        refine xr_get C (Cn := RX12) (T := TX12) (N := 25) (by decide +kernel) k0 rfl 2 (by decide) (C.1.2.2.2.2 (.fieldLink RX12 91 "OssuaryVaultModel" "written" "I") (by decide +kernel)) (fun _ h => h) rfl dX12_noise_78 ?_
        refine xr_dup_x1 C dX12_noise_81 rfl rfl ?_
        refine xr_iconst (n := 1) C dX12_noise_82 (by decide +kernel) ?_
        refine xr_iadd C dX12_noise_83 ?_
        refine xr_put C (Cn := RX12) (T := TX12) (N := 25) (by decide +kernel) k0 rfl 2 (by decide) tyX12 tyX12_ok nmX12 (C.1.2.2.2.2 (.fieldLink RX12 91 "OssuaryVaultModel" "written" "I") (by decide +kernel)) (fun _ h => h) rfl (tyX12_ok 2 (by decide)) rfl rfl (Nat.le_of_ble_eq_true rfl) dX12_noise_84 ?_
        refine mq_ren (fun M5 hM5 => ?_)
        have j1 := (show M5 (Mb 1) = M3 (Mb 1) by rw [hM5, mq_up_n (mb_ne hb (by decide) (by decide) (by decide))]).trans k1
        refine xr_iload_n C dX12_noise_87 rfl ?_
        refine xr_sipush (n := 256) C dX12_noise_88 (by decide +kernel) ?_
        refine xr_irem C dX12_noise_91 (by omega) (by omega) ?_
        refine xr_iast C j1 mq_tI (by first | omega | (dsimp only; omega)) (by first | omega | (dsimp only; omega)) (by first | omega | (dsimp only; omega)) dX12_noise_92 ?_
        refine mq_ren (fun M6 hM6 => ?_)
        refine xr_iinc C dX12_noise_93 rfl (by decide) rfl ?_
        refine xr_goto C dX12_noise_96 rfl ?_
        exact ih (i + 1, M6, _, (r * 75 + 74) % 65537) ⟨by dsimp only; omega, by dsimp only; rw [hM6, mq_up_n (mb_ne hb (by decide) (by decide) (by decide)), hM5, mq_up_s]; rfl, by dsimp only; rw [hM6, mq_up_s], by dsimp only; rw [hM6, mq_up_n (mb_ne hb (by decide) (by decide) (by decide)), hM5, mq_up_n (mb_ne hb (by decide) (by decide) (by decide))]; exact k2, by dsimp only; omega, by dsimp only; omega⟩ (by dsimp only; omega)
    · rw [show (if 1 ≤ t ∧ t ≤ 240 then (1 : Int) else 0) = 0 from if_neg hc1]
      refine xr_if_ne C dX12_noise_23 rfl (by decide) (fun hq => absurd hq (by decide)) (fun _ => ?_)
      refine xr_aload_n C dX12_noise_26 rfl ?_
      refine xr_iconst (n := 1) C dX12_noise_27 (by decide +kernel) ?_
      refine xr_callV1i C (m_no l G Mb hb 0 M1 hD1 1) (cwV 1 C.1.2.2.2.2 gX12_noise_X12_no rfl rfl rfl (by decide +kernel) ⟨Nat.le_of_ble_eq_true rfl, Nat.le_of_ble_eq_true rfl⟩) hD1.1 rfl (Nat.le_of_ble_eq_true rfl) ⟨by dsimp only; omega, by dsimp only; omega⟩ dX12_noise_28 (fun r9 M9 hp9 => ?_)
      obtain ⟨rfl, hD9, hO9⟩ := hp9
      exact xr_iret C hr hlk ⟨_, rfl, by rw [if_neg (by omega)]; exact ⟨fun h => absurd h (by decide), mdQ.of hD9 (hO9.trans hO1)⟩⟩ (by omega) (by omega) dX12_noise_31
  · rw [show (if 0 ≤ v ∧ v ≤ 65535 then (1 : Int) else 0) = 0 from if_neg hc0]
    refine xr_if_eq C dX12_noise_12 rfl (by decide) (fun _ => ?_) (fun hq => absurd hq (by decide))
    refine xr_aload_n C dX12_noise_26 rfl ?_
    refine xr_iconst (n := 1) C dX12_noise_27 (by decide +kernel) ?_
    refine xr_callV1i C (m_no l G Mb hb 0 M1 hD1 1) (cwV 1 C.1.2.2.2.2 gX12_noise_X12_no rfl rfl rfl (by decide +kernel) ⟨Nat.le_of_ble_eq_true rfl, Nat.le_of_ble_eq_true rfl⟩) hD1.1 rfl (Nat.le_of_ble_eq_true rfl) ⟨by dsimp only; omega, by dsimp only; omega⟩ dX12_noise_28 (fun r9 M9 hp9 => ?_)
    obtain ⟨rfl, hD9, hO9⟩ := hp9
    exact xr_iret C hr hlk ⟨_, rfl, by rw [if_neg (by omega)]; exact ⟨fun h => absurd h (by decide), mdQ.of hD9 (hO9.trans hO1)⟩⟩ (by omega) (by omega) dX12_noise_31
set_option maxHeartbeats 4000000 in
set_option maxRecDepth 100000 in
theorem m_cutSheet (l : Launch) (G : mq_G) (Mb : Nat → Nat) (hb : mb_inj Mb) (t0 : Int) (M : mq_M) (hD : mdI G M Mb t0) (n : Int) (hnr : -2147483648 ≤ n ∧ n < 2147483648) : mq_T l yX12_cutSheet wsX12_cutSheet { frames := 1, cells := 0, slots := 0, locals := 22 } G [.ref (Mb 0), .int (zI n)] M (mdR M Mb (if n = 0 then 0 else 1) (0)) 0 0 := by
  refine mq_Met.of (cc := cX12_cutSheet) (maxL := 3) (ret := (some .int)) (by decide) rfl (Nat.le_of_ble_eq_true rfl) rfl rfl ?_
  intro p_ e_ s_ m_ args_ below_ meth_ c_ z_ C hr hlk hname
  refine xr_aload_n C dX12_cutSheet_0 rfl ?_
  refine xr_iconst (n := 0) C dX12_cutSheet_1 (by decide +kernel) ?_
  refine xr_put C (Cn := RX12) (T := TX12) (N := 25) (by decide +kernel) hD.1 rfl 0 (by decide) tyX12 tyX12_ok nmX12 (C.1.2.2.2.2 (.fieldLink RX12 59 "OssuaryVaultModel" "thrown" "I") (by decide +kernel)) (fun _ h => h) rfl (tyX12_ok 0 (by decide)) rfl rfl (Nat.le_of_ble_eq_true rfl) dX12_cutSheet_2 ?_
  refine mq_ren (fun M1 hM1 => ?_)
  have hD1 : mdI G M1 Mb 0 := hD.th hb hM1
  have hO1 : M1 (Mb 39) = M (Mb 39) := by rw [hM1, mq_up_n (mb_ne hb (by decide) (by decide) (by decide))]
  refine xr_iload_n C dX12_cutSheet_5 rfl ?_
  refine xr_iconst (n := 0) C dX12_cutSheet_6 (by decide +kernel) ?_
  refine xr_aload_n C dX12_cutSheet_7 rfl ?_
  refine xr_get C (Cn := RX12) (T := TX12) (N := 25) (by decide +kernel) hD1.1 rfl 2 (by decide) (C.1.2.2.2.2 (.fieldLink RX12 91 "OssuaryVaultModel" "written" "I") (by decide +kernel)) (fun _ h => h) rfl dX12_cutSheet_8 ?_
  refine xr_callS3i C (m_isIn l G M1 n hnr 0 (by decide) 0 (by decide)) (cwS 3 C.1.2.2.2.2 gX12_cutSheet_X12_isIn rfl rfl rfl (by decide +kernel) ⟨Nat.le_of_ble_eq_true rfl, Nat.le_of_ble_eq_true rfl⟩) (Nat.le_of_ble_eq_true rfl) ⟨by dsimp only; omega, by dsimp only; omega⟩ dX12_cutSheet_11 (fun r2 M9 hp9 => ?_)
  obtain ⟨rfl, rfl⟩ := hp9
  by_cases hc0 : 0 ≤ n ∧ n ≤ 0
  · rw [show (if 0 ≤ n ∧ n ≤ 0 then (1 : Int) else 0) = 1 from if_pos hc0]
    refine xr_if_ne C dX12_cutSheet_14 rfl (by decide) (fun _ => ?_) (fun hq => absurd hq (by decide))
    refine xr_aload_n C dX12_cutSheet_23 rfl ?_
    refine xr_get C (Cn := RX12) (T := TX12) (N := 25) (by decide +kernel) hD1.1 rfl 2 (by decide) (C.1.2.2.2.2 (.fieldLink RX12 91 "OssuaryVaultModel" "written" "I") (by decide +kernel)) (fun _ h => h) rfl dX12_cutSheet_24 ?_
    refine xr_istore_n C dX12_cutSheet_27 (by decide) rfl ?_
    refine xr_aload_n C dX12_cutSheet_28 rfl ?_
    refine xr_iload_n C dX12_cutSheet_29 rfl ?_
    refine xr_put C (Cn := RX12) (T := TX12) (N := 25) (by decide +kernel) hD1.1 rfl 2 (by decide) tyX12 tyX12_ok nmX12 (C.1.2.2.2.2 (.fieldLink RX12 91 "OssuaryVaultModel" "written" "I") (by decide +kernel)) (fun _ h => h) rfl (tyX12_ok 2 (by decide)) rfl rfl (Nat.le_of_ble_eq_true rfl) dX12_cutSheet_30 ?_
    refine mq_ren (fun M3 hM3 => ?_)
    refine xr_iload_n C dX12_cutSheet_33 rfl ?_
    exact xr_iret C hr hlk ⟨_, rfl, by rw [if_pos (by omega)]; exact ⟨fun _ => rfl, ⟨_, by rw [hM3, mq_up_s]; rfl⟩, by rw [hM3, mq_up_n (mb_ne hb (by decide) (by decide) (by decide))]; exact hO1⟩⟩ (by omega) (by omega) dX12_cutSheet_34
  · rw [show (if 0 ≤ n ∧ n ≤ 0 then (1 : Int) else 0) = 0 from if_neg hc0]
    refine xr_if_ne C dX12_cutSheet_14 rfl (by decide) (fun hq => absurd hq (by decide)) (fun _ => ?_)
    refine xr_aload_n C dX12_cutSheet_17 rfl ?_
    refine xr_iconst (n := 1) C dX12_cutSheet_18 (by decide +kernel) ?_
    refine xr_callV1i C (m_no l G Mb hb 0 M1 hD1 1) (cwV 1 C.1.2.2.2.2 gX12_cutSheet_X12_no rfl rfl rfl (by decide +kernel) ⟨Nat.le_of_ble_eq_true rfl, Nat.le_of_ble_eq_true rfl⟩) hD1.1 rfl (Nat.le_of_ble_eq_true rfl) ⟨by dsimp only; omega, by dsimp only; omega⟩ dX12_cutSheet_19 (fun r9 M9 hp9 => ?_)
    obtain ⟨rfl, hD9, hO9⟩ := hp9
    exact xr_iret C hr hlk ⟨_, rfl, by rw [if_neg (by omega)]; exact ⟨fun h => absurd h (by decide), mdQ.of hD9 (hO9.trans hO1)⟩⟩ (by omega) (by omega) dX12_cutSheet_22
set_option maxHeartbeats 4000000 in
set_option maxRecDepth 100000 in
theorem m_put0 (l : Launch) (G : mq_G) (hA : pA G) (Mb : Nat → Nat) (hb : mb_inj Mb) (t0 : Int) (M : mq_M) (hD : mdI G M Mb t0) (k : Int) : mq_T l yX12_put wsX12_put { frames := 1, cells := 0, slots := 0, locals := 22 } G [.ref (Mb 0), .int (zI k), .ref (Mb 1), .int (zI 0)] M (mq_pv (fun M2 => M2 (Mb 0) = some (.inr (11, .int (zI t0) :: mYw Mb 0 1)) ∧ M2 (Mb 39) = M (Mb 39))) 0 0 := by
  refine mq_Met.of (cc := cX12_put) (maxL := 5) (ret := none) (by decide) rfl (Nat.le_of_ble_eq_true rfl) rfl rfl ?_
  intro p_ e_ s_ m_ args_ below_ meth_ c_ z_ C hr hlk hname
  obtain ⟨d0, ⟨f1, d1⟩, ⟨f2, d2⟩, ⟨f3, d3⟩, ⟨f4, d4, d4b⟩, d5, d6, d7, d8, f20, d20⟩ := id hD
  refine xr_aload_n C dX12_put_0 rfl ?_
  refine xr_iload_n C dX12_put_1 rfl ?_
  refine xr_callV1i C (m_placeOf l G Mb hb t0 M hD k) (cwV 1 C.1.2.2.2.2 gX12_put_X12_placeOf rfl rfl rfl (by decide +kernel) ⟨Nat.le_of_ble_eq_true rfl, Nat.le_of_ble_eq_true rfl⟩) hD.1 rfl (Nat.le_of_ble_eq_true rfl) ⟨by dsimp only; omega, by dsimp only; omega⟩ dX12_put_2 (fun r1 M9 hp9 => ?_)
  obtain ⟨rfl, rfl⟩ := hp9
  refine xr_istore C dX12_put_5 (by decide) rfl ?_
  refine xr_iload C dX12_put_7 rfl ?_
  refine xr_iconst (n := (-1)) C dX12_put_9 (by decide +kernel) ?_
  refine xr_icmp_ne C dX12_put_10 rfl (by decide) (by decide) (fun hq => absurd hq (by decide)) (fun _ => ?_)
  refine xr_aload_n C dX12_put_13 rfl ?_
  refine xr_dup C dX12_put_14 rfl ?_
  refine xr_get C (Cn := RX12) (T := TX12) (N := 25) (by decide +kernel) hD.1 rfl 3 (by decide) (C.1.2.2.2.2 (.fieldLink RX12 95 "OssuaryVaultModel" "files" "I") (by decide +kernel)) (fun _ h => h) rfl dX12_put_15 ?_
  refine xr_dup_x1 C dX12_put_18 rfl rfl ?_
  refine xr_iconst (n := 1) C dX12_put_19 (by decide +kernel) ?_
  refine xr_iadd C dX12_put_20 ?_
  refine xr_put C (Cn := RX12) (T := TX12) (N := 25) (by decide +kernel) hD.1 rfl 3 (by decide) tyX12 tyX12_ok nmX12 (C.1.2.2.2.2 (.fieldLink RX12 95 "OssuaryVaultModel" "files" "I") (by decide +kernel)) (fun _ h => h) rfl (tyX12_ok 3 (by decide)) rfl rfl (Nat.le_of_ble_eq_true rfl) dX12_put_21 ?_
  refine mq_ren (fun M2 hM2 => ?_)
  have a0 : M2 (Mb 0) = some (.inr (11, .int (zI t0) :: mYw Mb 0 1)) := by rw [hM2, mq_up_s]; rfl
  have a2 := (show M2 (Mb 2) = M (Mb 2) by rw [hM2, mq_up_n (mb_ne hb (by decide) (by decide) (by decide))]).trans d2
  refine xr_istore C dX12_put_24 (by decide) rfl ?_
  refine xr_iload C dX12_put_26 rfl ?_
  refine xr_if_le C dX12_put_28 rfl (by decide) (fun _ => ?_) (fun hq => absurd hq (by decide))
  refine xr_aload_n C dX12_put_60 rfl ?_
  refine xr_get C (Cn := RX12) (T := TX12) (N := 25) (by decide +kernel) a0 rfl 4 (by decide) (C.1.2.2.2.2 (.fieldLink RX12 13 "OssuaryVaultModel" "keys" "[I") (by decide +kernel)) (fun _ h => h) rfl dX12_put_61 ?_
  refine xr_iload C dX12_put_64 rfl ?_
  refine xr_iload_n C dX12_put_66 rfl ?_
  refine xr_iast C a2 mq_tI (by first | omega | (dsimp only; omega)) (by first | omega | (dsimp only; omega)) (by first | omega | (dsimp only; omega)) dX12_put_67 ?_
  refine mq_ren (fun M3 hM3 => ?_)
  have b0 := (show M3 (Mb 0) = M2 (Mb 0) by rw [hM3, mq_up_n (mb_ne hb (by decide) (by decide) (by decide))]).trans a0
  have b3 := (show M3 (Mb 3) = M (Mb 3) by rw [hM3, mq_up_n (mb_ne hb (by decide) (by decide) (by decide)), hM2, mq_up_n (mb_ne hb (by decide) (by decide) (by decide))]).trans d3
  refine xr_aload_n C dX12_put_68 rfl ?_
  refine xr_get C (Cn := RX12) (T := TX12) (N := 25) (by decide +kernel) b0 rfl 5 (by decide) (C.1.2.2.2.2 (.fieldLink RX12 16 "OssuaryVaultModel" "lengths" "[I") (by decide +kernel)) (fun _ h => h) rfl dX12_put_69 ?_
  refine xr_iload C dX12_put_72 rfl ?_
  refine xr_iload_n C dX12_put_74 rfl ?_
  refine xr_iast C b3 mq_tI (by first | omega | (dsimp only; omega)) (by first | omega | (dsimp only; omega)) (by first | omega | (dsimp only; omega)) dX12_put_75 ?_
  refine mq_ren (fun M4 hM4 => ?_)
  have e3 : ∀ i, mbU i = true → i ≠ 0 → i ≠ 2 → i ≠ 3 → M4 (Mb i) = M (Mb i) := fun i hi n0 n2 n3 => by rw [hM4, mq_up_n (mb_ne hb hi (by decide) n3), hM3, mq_up_n (mb_ne hb hi (by decide) n2), hM2, mq_up_n (mb_ne hb hi (by decide) n0)]
  have c0 := (show M4 (Mb 0) = M3 (Mb 0) by rw [hM4, mq_up_n (mb_ne hb (by decide) (by decide) (by decide))]).trans b0
  have c4 := (e3 4 (by decide) (by decide) (by decide) (by decide)).trans d4
  have c1 := (e3 1 (by decide) (by decide) (by decide) (by decide)).trans d1
  have c20 := (e3 20 (by decide) (by decide) (by decide) (by decide)).trans d20
  refine xr_aload_n C dX12_put_76 rfl ?_
  refine xr_iconst (n := 0) C dX12_put_77 (by decide +kernel) ?_
  refine xr_aload_n C dX12_put_78 rfl ?_
  refine xr_get C (Cn := RX12) (T := TX12) (N := 25) (by decide +kernel) c0 rfl 6 (by decide) (C.1.2.2.2.2 (.fieldLink RX12 21 "OssuaryVaultModel" "contents" "[[I") (by decide +kernel)) (fun _ h => h) rfl dX12_put_79 ?_
  refine xr_iload C dX12_put_82 rfl ?_
  refine xr_aaldA C c4 hA.A (by decide) (by decide) (by decide) dX12_put_84 ?_
  rw [show Int.toNat 0 = 0 from rfl, d4b]
  refine mq_rfs ?_
  refine xr_iconst (n := 0) C dX12_put_85 (by decide +kernel) ?_
  refine xr_iload_n C dX12_put_86 rfl ?_
  refine xr_copyI (sp := 0) (dp := 0) (k0 := 0) C (C.1.2.2.2.2 (.methodLink RX12 98 arraycopyName) (by decide +kernel)) (C.1.2.2.2.2 (.native arraycopyName) (by decide +kernel)) (C.1.2.2.2.2 (.static arraycopyName) (by decide +kernel)) (C.1.2.2.2.2 (.initialized "java/lang/System") (by decide +kernel)) c1 c20 mq_tI mq_tI (by decide) (by decide) (by decide) (Nat.le_of_ble_eq_true rfl) (by decide +kernel) dX12_put_87 ?_
  refine mq_ren (fun M5 hM5 => ?_)
  exact xr_vret C hr hlk ⟨rfl, by rw [hM5, mq_up_n (mb_ne hb (by decide) (by decide) (by decide))]; exact c0, by rw [hM5, mq_up_n (mb_ne hb (by decide) (by decide) (by decide))]; exact e3 39 (by decide) (by decide) (by decide) (by decide)⟩ (by omega) (by omega) dX12_put_90
set_option maxHeartbeats 4000000 in
set_option maxRecDepth 100000 in
theorem m_store (l : Launch) (G : mq_G) (hA : pA G) (Mb : Nat → Nat) (hb : mb_inj Mb) (t0 : Int) (M : mq_M) (hD : mdI G M Mb t0) (v : Int) (hvr : -2147483648 ≤ v ∧ v < 2147483648) : mq_T l yX12_store wsX12_store { frames := 2, cells := 0, slots := 0, locals := 46 } G [.ref (Mb 0), .int (zI v)] M (mdR M Mb (if 0 ≤ v ∧ v ≤ 65535 then 0 else 1) (1)) 0 0 := by
  refine mq_Met.of (cc := cX12_store) (maxL := 2) (ret := (some .int)) (by decide) rfl (Nat.le_of_ble_eq_true rfl) rfl rfl ?_
  intro p_ e_ s_ m_ args_ below_ meth_ c_ z_ C hr hlk hname
  refine xr_aload_n C dX12_store_0 rfl ?_
  refine xr_iconst (n := 0) C dX12_store_1 (by decide +kernel) ?_
  refine xr_put C (Cn := RX12) (T := TX12) (N := 25) (by decide +kernel) hD.1 rfl 0 (by decide) tyX12 tyX12_ok nmX12 (C.1.2.2.2.2 (.fieldLink RX12 59 "OssuaryVaultModel" "thrown" "I") (by decide +kernel)) (fun _ h => h) rfl (tyX12_ok 0 (by decide)) rfl rfl (Nat.le_of_ble_eq_true rfl) dX12_store_2 ?_
  refine mq_ren (fun M1 hM1 => ?_)
  have hD1 : mdI G M1 Mb 0 := hD.th hb hM1
  have hO1 : M1 (Mb 39) = M (Mb 39) := by rw [hM1, mq_up_n (mb_ne hb (by decide) (by decide) (by decide))]
  refine xr_iload_n C dX12_store_5 rfl ?_
  refine xr_iconst (n := 0) C dX12_store_6 (by decide +kernel) ?_
  refine xr_ldc (k0 := 65535) C (C.1.2.2.2.2 (.constant RX12 83 (zI 65535)) (by decide +kernel)) dX12_store_7 ?_
  refine xr_callS3i C (m_isIn l G M1 v hvr 0 (by decide) 65535 (by decide)) (cwS 3 C.1.2.2.2.2 gX12_store_X12_isIn rfl rfl rfl (by decide +kernel) ⟨Nat.le_of_ble_eq_true rfl, Nat.le_of_ble_eq_true rfl⟩) (Nat.le_of_ble_eq_true rfl) ⟨by dsimp only; omega, by dsimp only; omega⟩ dX12_store_9 (fun r2 M9 hp9 => ?_)
  obtain ⟨rfl, rfl⟩ := hp9
  by_cases hc0 : 0 ≤ v ∧ v ≤ 65535
  · rw [show (if 0 ≤ v ∧ v ≤ 65535 then (1 : Int) else 0) = 1 from if_pos hc0]
    refine xr_if_ne C dX12_store_12 rfl (by decide) (fun _ => ?_) (fun hq => absurd hq (by decide))
    refine xr_aload_n C dX12_store_21 rfl ?_
    refine xr_get C (Cn := RX12) (T := TX12) (N := 25) (by decide +kernel) hD1.1 rfl 3 (by decide) (C.1.2.2.2.2 (.fieldLink RX12 95 "OssuaryVaultModel" "files" "I") (by decide +kernel)) (fun _ h => h) rfl dX12_store_22 ?_
    refine xr_bipush (n := 16) C dX12_store_25 (by decide +kernel) ?_
    refine xr_icmp_ne C dX12_store_27 rfl (by decide) (by decide) (fun _ => ?_) (fun hq => absurd hq (by decide))
    refine xr_aload_n C dX12_store_45 rfl ?_
    refine xr_iload_n C dX12_store_46 rfl ?_
    refine xr_aload_n C dX12_store_47 rfl ?_
    refine xr_get C (Cn := RX12) (T := TX12) (N := 25) (by decide +kernel) hD1.1 rfl 1 (by decide) (C.1.2.2.2.2 (.fieldLink RX12 9 "OssuaryVaultModel" "sheet" "[I") (by decide +kernel)) (fun _ h => h) rfl dX12_store_48 ?_
    refine xr_aload_n C dX12_store_51 rfl ?_
    refine xr_get C (Cn := RX12) (T := TX12) (N := 25) (by decide +kernel) hD1.1 rfl 2 (by decide) (C.1.2.2.2.2 (.fieldLink RX12 91 "OssuaryVaultModel" "written" "I") (by decide +kernel)) (fun _ h => h) rfl dX12_store_52 ?_
    refine xr_callV3v C (m_put0 l G hA Mb hb 0 M1 hD1 v) (cwV 3 C.1.2.2.2.2 gX12_store_X12_put rfl rfl rfl (by decide +kernel) ⟨Nat.le_of_ble_eq_true rfl, Nat.le_of_ble_eq_true rfl⟩) hD1.1 rfl (Nat.le_of_ble_eq_true rfl) ⟨by dsimp only; omega, by dsimp only; omega⟩ dX12_store_55 (fun M9 hp9 => ?_)
    obtain ⟨k0, k2⟩ := hp9
    refine xr_aload_n C dX12_store_58 rfl ?_
    refine xr_iconst (n := 0) C dX12_store_59 (by decide +kernel) ?_
    refine xr_put C (Cn := RX12) (T := TX12) (N := 25) (by decide +kernel) k0 rfl 2 (by decide) tyX12 tyX12_ok nmX12 (C.1.2.2.2.2 (.fieldLink RX12 91 "OssuaryVaultModel" "written" "I") (by decide +kernel)) (fun _ h => h) rfl (tyX12_ok 2 (by decide)) rfl rfl (Nat.le_of_ble_eq_true rfl) dX12_store_60 ?_
    refine mq_ren (fun M3 hM3 => ?_)
    have j0 : M3 (Mb 0) = some (.inr (11, .int (zI 0) :: mYw Mb 0 1)) := by rw [hM3, mq_up_s]; rfl
    refine xr_aload_n C dX12_store_63 rfl ?_
    refine xr_get C (Cn := RX12) (T := TX12) (N := 25) (by decide +kernel) j0 rfl 3 (by decide) (C.1.2.2.2.2 (.fieldLink RX12 95 "OssuaryVaultModel" "files" "I") (by decide +kernel)) (fun _ h => h) rfl dX12_store_64 ?_
    exact xr_iret C hr hlk ⟨_, rfl, by rw [if_pos hc0]; exact ⟨fun _ => rfl, ⟨_, j0⟩, by rw [hM3, mq_up_n (mb_ne hb (by decide) (by decide) (by decide))]; exact k2.trans hO1⟩⟩ (by omega) (by omega) dX12_store_67
  · rw [show (if 0 ≤ v ∧ v ≤ 65535 then (1 : Int) else 0) = 0 from if_neg hc0]
    refine xr_if_ne C dX12_store_12 rfl (by decide) (fun hq => absurd hq (by decide)) (fun _ => ?_)
    refine xr_aload_n C dX12_store_15 rfl ?_
    refine xr_iconst (n := 1) C dX12_store_16 (by decide +kernel) ?_
    refine xr_callV1i C (m_no l G Mb hb 0 M1 hD1 1) (cwV 1 C.1.2.2.2.2 gX12_store_X12_no rfl rfl rfl (by decide +kernel) ⟨Nat.le_of_ble_eq_true rfl, Nat.le_of_ble_eq_true rfl⟩) hD1.1 rfl (Nat.le_of_ble_eq_true rfl) ⟨by dsimp only; omega, by dsimp only; omega⟩ dX12_store_17 (fun r9 M9 hp9 => ?_)
    obtain ⟨rfl, hD9, hO9⟩ := hp9
    exact xr_iret C hr hlk ⟨_, rfl, by rw [if_neg (by omega)]; exact ⟨fun h => absurd h (by decide), mdQ.of hD9 (hO9.trans hO1)⟩⟩ (by omega) (by omega) dX12_store_20
