set_option maxHeartbeats 4000000 in
set_option maxRecDepth 100000 in
theorem c_choose (l : Launch) (G : mq_G) (La : Nat → Nat) (hI : mq_inj La) (mt : List Nat) (cho : Nat → Nat) (M : mq_M) (hS : rcI G M La mt cho) (pv : Nat → Nat) (h : Nat → Bool) (d : Nat → List Nat) (vd : Nat → Int) (ld mb : Int) (nu ho : Nat → Int) (hP : shP pv h d vd) (hH : shI G M La pv h d vd ld mb nu ho) (hho : ∀ q, -1 ≤ ho q ∧ ho q < 16) (dn : Nat) (hdn : dn ≤ 10) : mq_T l yX8_choose wsX8_choose { frames := 2, cells := 0, slots := 0, locals := 42 } G [.ref (La 16), .ref (La 12), .int (zI (dn : Int))] M (mq_pi (fun r M2 => r = (msC ho dn : Int) ∧ (∃ cho2 : Nat → Nat, rcI G M2 La mt cho2 ∧ ((∀ i, i < 10 → cho i < 100) → ∀ i, i < 10 → cho2 i < 100)) ∧ mq_FR La [19] M M2)) 0 0 := by
  refine mq_Met.of (cc := cX8_choose) (maxL := 6) (ret := (some .int)) (by decide) rfl (Nat.le_of_ble_eq_true rfl) rfl rfl ?_
  intro p_ e_ s_ m_ args_ below_ meth_ c_ z_ C hr hlk hname
  refine xr_iconst (n := 0) C dX8_choose_0 (by decide +kernel) ?_
  refine xr_istore_n C dX8_choose_1 (by decide) rfl ?_
  refine xr_iload_n C dX8_choose_2 rfl ?_
  refine xr_istore C dX8_choose_3 (by decide) rfl ?_
  refine xr_iconst (n := 0) C dX8_choose_5 (by decide +kernel) ?_
  refine xr_istore C dX8_choose_6 (by decide) rfl ?_
  refine mq_loop (σ := Nat × Nat × mq_M × (Nat → Nat)) (fun y => y.1 ≤ dn ∧ y.2.1 ≤ 16 + y.1 ∧ rcI G y.2.2.1 La mt y.2.2.2 ∧ ((∀ i, i < 10 → cho i < 100) → ∀ i, i < 10 → y.2.2.2 i < 100) ∧ mq_FR La [19] M y.2.2.1) (fun y => dn - y.1) (fun y => y.2.2.1) (fun y => [some (.ref (La 16)), some (.ref (La 12)), some (.int (zI (dn : Int))), some (.int (zI (msC ho y.1 : Int))), some (.int (zI (y.2.1 : Int))), some (.int (zI (y.1 : Int)))]) (fun y => []) ?_ (0, dn, M, cho) ⟨Nat.zero_le _, by dsimp only; omega, hS, (fun q => q), mq_F.rf⟩
  rintro ⟨i, pr, M3, ch3⟩ ⟨hi, hpr, hS3, hc3, hF3⟩ ih
  dsimp only at hi hpr hS3 hc3 hF3 ih ⊢
  have hH3 := hH.fr hI hP.1 hF3 (by decide) (fun r h1 => by simp; omega)
  have hmc := msC_le ho i
  have hS3c := hS3
  obtain ⟨q1, q2, fc, q3, q4⟩ := hS3
  refine xr_iload C dX8_choose_8 rfl ?_
  refine xr_iload_n C dX8_choose_10 rfl ?_
  refine xr_icmp_ge C dX8_choose_11 rfl (by first | omega | (dsimp only; omega)) (by first | omega | (dsimp only; omega)) (fun hq1 => ?_) (fun hq1 => ?_)
  · refine xr_iload_n C dX8_choose_85 rfl ?_
    exact xr_iret C hr hlk ⟨_, rfl, by rw [show dn = i by omega], ⟨ch3, hS3c, hc3⟩, hF3⟩ (by omega) (by omega) dX8_choose_86
  · refine xr_iload C dX8_choose_14 rfl ?_
    refine xr_aload_n C dX8_choose_16 rfl ?_
    refine xr_get C (Cn := RX8) (T := TX8) (N := 3) (by decide +kernel) q1 rfl 2 (by decide) (C.1.2.2.2.2 (.fieldLink RX8 20 "OssuaryVault$Recovery" "chosen" "[I") (by decide +kernel)) (fun _ h => h) rfl dX8_choose_17 ?_
    refine xr_alen C q3 mq_tI dX8_choose_20 ?_
    refine xr_icmp_ge C dX8_choose_21 rfl (by first | omega | (dsimp only; omega)) (by first | omega | (dsimp only; omega)) (fun hq => absurd hq (by dsimp only; omega)) (fun _ => ?_)
    have hi10 : i < 10 := by omega
    refine xr_aload_n C dX8_choose_24 rfl ?_
    refine xr_get C (Cn := RX8) (T := TX8) (N := 3) (by decide +kernel) q1 rfl 2 (by decide) (C.1.2.2.2.2 (.fieldLink RX8 20 "OssuaryVault$Recovery" "chosen" "[I") (by decide +kernel)) (fun _ h => h) rfl dX8_choose_25 ?_
    refine xr_iload C dX8_choose_28 rfl ?_
    refine xr_iload C dX8_choose_30 rfl ?_
    refine xr_iast C q3 mq_tI (by first | omega | (dsimp only; omega)) (by first | omega | (dsimp only; omega)) (by first | omega | (dsimp only; omega)) dX8_choose_32 ?_
    refine mq_ren (fun M2 hM2 => ?_)
    rw [Int.toNat_natCast] at hM2
    have hS4 := hS3c.ch hI q3 hM2
    have F4 : mq_FR La [19] M3 M2 := mq_F.up hM2 (by simp)
    have G4 := hF3.tr F4
    have hH4 := hH.fr hI hP.1 G4 (by decide) (fun r h1 => by simp; omega)
    have hsn : msC ho (i + 1) = msC ho i + (if ho i < 0 then 1 else 0) := rfl
    have hc4 : (∀ i, i < 10 → cho i < 100) → ∀ j, j < 10 → fnU ch3 i i j < 100 := fun q j hj => by
      unfold fnU; split
      · omega
      · exact hc3 q j hj
    have hoi := hho i
    refine xr_aload_n C dX8_choose_33 rfl ?_
    refine xr_iload C dX8_choose_34 rfl ?_
    by_cases hmi : 0 ≤ ho i
    · obtain ⟨k, hk⟩ := Int.eq_ofNat_of_zero_le hmi
      change ho i = (k : Int) at hk
      refine xr_callV1a C (c_memberWith l G La hI pv h d vd ld mb nu ho M2 hP hH4 i (by omega) k (by omega) hk) (cwV 1 C.1.2.2.2.2 gX8_choose_X9_memberWith rfl rfl rfl (by decide +kernel) ⟨Nat.le_of_ble_eq_true rfl, Nat.le_of_ble_eq_true rfl⟩) hH4.1 rfl (Nat.le_of_ble_eq_true rfl) ⟨by dsimp only; omega, by dsimp only; omega⟩ dX8_choose_36 (fun r9 M9 hp9 => ?_)
      obtain ⟨rfl, rfl⟩ := hp9
      refine xr_ifnonnull_s C dX8_choose_39 rfl ?_
      refine xr_iinc C dX8_choose_79 rfl (by decide) rfl ?_
      refine xr_goto C dX8_choose_82 rfl ?_
      rw [if_neg (by omega)] at hsn
      rw [show (msC ho i : Int) = (msC ho (i + 1) : Int) by rw [hsn]; omega]
      exact ih (i + 1, pr, M2, _) ⟨by dsimp only; omega, by dsimp only; omega, hS4, hc4, G4⟩ (by dsimp only; omega)
    · refine xr_callV1n C (c_memberWithN l G La hI pv h d vd ld mb nu ho M2 hP hH4 i (by omega) (fun _ => by omega)) (cwV 1 C.1.2.2.2.2 gX8_choose_X9_memberWith rfl rfl rfl (by decide +kernel) ⟨Nat.le_of_ble_eq_true rfl, Nat.le_of_ble_eq_true rfl⟩) hH4.1 rfl (Nat.le_of_ble_eq_true rfl) ⟨by dsimp only; omega, by dsimp only; omega⟩ dX8_choose_36 (fun M9 hp9 => ?_)
      subst hp9
      refine xr_ifnonnull_n C dX8_choose_39 ?_
      rw [if_pos (by omega)] at hsn
      have hprl : pr ≤ 100 := by omega
      refine mq_loop (σ := Nat) (fun y => y ≤ 16 + i) (fun y => 100 - y) (fun y => M2) (fun y => [some (.ref (La 16)), some (.ref (La 12)), some (.int (zI (dn : Int))), some (.int (zI (msC ho i : Int))), some (.int (zI (y : Int))), some (.int (zI (i : Int)))]) (fun y => []) ?_ pr hpr
      rintro pk hpk ih2
      try dsimp only at ih2 ⊢
      refine xr_iload C dX8_choose_42 rfl ?_
      refine xr_bipush (n := 16) C dX8_choose_44 (by decide +kernel) ?_
      refine xr_icmp_ge C dX8_choose_46 rfl (by first | omega | (dsimp only; omega)) (by first | omega | (dsimp only; omega)) (fun hq3 => ?_) (fun hq3 => ?_)
      · have s34 : M2 (La 19) = some (.inl (G.2.1, 10, .inl (upd fc i (zI (i : Int))))) := by rw [hM2, mq_up_s]
        refine xr_aload_n C dX8_choose_64 rfl ?_
        refine xr_get C (Cn := RX8) (T := TX8) (N := 3) (by decide +kernel) hS4.1 rfl 2 (by decide) (C.1.2.2.2.2 (.fieldLink RX8 20 "OssuaryVault$Recovery" "chosen" "[I") (by decide +kernel)) (fun _ h => h) rfl dX8_choose_65 ?_
        refine xr_iload C dX8_choose_68 rfl ?_
        refine xr_iload C dX8_choose_70 rfl ?_
        refine xr_iast C s34 mq_tI (by first | omega | (dsimp only; omega)) (by first | omega | (dsimp only; omega)) (by first | omega | (dsimp only; omega)) dX8_choose_72 ?_
        refine mq_ren (fun M4 hM4 => ?_)
        rw [Int.toNat_natCast] at hM4
        have F5 : mq_FR La [19] M2 M4 := mq_F.up hM4 (by simp)
        have hS5 := hS4.ch hI s34 hM4
        have hc5 : (∀ i, i < 10 → cho i < 100) → ∀ j, j < 10 → fnU (fnU ch3 i i) i pk j < 100 := fun q j hj => by
          unfold fnU; repeat' split
          all_goals first | omega | exact hc3 q j hj
        refine xr_iinc C dX8_choose_73 rfl (by decide) rfl ?_
        refine xr_iinc C dX8_choose_76 rfl (by decide) rfl ?_
        refine xr_iinc C dX8_choose_79 rfl (by decide) rfl ?_
        refine xr_goto C dX8_choose_82 rfl ?_
        rw [show (msC ho i : Int) + 1 = (msC ho (i + 1) : Int) by rw [hsn]; omega, show (pk : Int) + 1 = ((pk + 1 : Nat) : Int) by omega]
        exact ih (i + 1, pk + 1, M4, _) ⟨by dsimp only; omega, by dsimp only; omega, hS5, hc5, G4.tr F5⟩ (by dsimp only; omega)
      · refine xr_aload_n C dX8_choose_49 rfl ?_
        refine xr_iload C dX8_choose_50 rfl ?_
        by_cases hmk : 0 ≤ ho pk
        · obtain ⟨k, hk⟩ := Int.eq_ofNat_of_zero_le hmk
          change ho pk = (k : Int) at hk
          have hok := hho pk
          refine xr_callV1a C (c_memberWith l G La hI pv h d vd ld mb nu ho M2 hP hH4 pk (by omega) k (by omega) hk) (cwV 1 C.1.2.2.2.2 gX8_choose_X9_memberWith rfl rfl rfl (by decide +kernel) ⟨Nat.le_of_ble_eq_true rfl, Nat.le_of_ble_eq_true rfl⟩) hH4.1 rfl (Nat.le_of_ble_eq_true rfl) ⟨by dsimp only; omega, by dsimp only; omega⟩ dX8_choose_52 (fun r9 M9 hp9 => ?_)
          obtain ⟨rfl, rfl⟩ := hp9
          refine xr_ifnonnull_s C dX8_choose_55 rfl ?_
          have s34 : M2 (La 19) = some (.inl (G.2.1, 10, .inl (upd fc i (zI (i : Int))))) := by rw [hM2, mq_up_s]
          refine xr_aload_n C dX8_choose_64 rfl ?_
          refine xr_get C (Cn := RX8) (T := TX8) (N := 3) (by decide +kernel) hS4.1 rfl 2 (by decide) (C.1.2.2.2.2 (.fieldLink RX8 20 "OssuaryVault$Recovery" "chosen" "[I") (by decide +kernel)) (fun _ h => h) rfl dX8_choose_65 ?_
          refine xr_iload C dX8_choose_68 rfl ?_
          refine xr_iload C dX8_choose_70 rfl ?_
          refine xr_iast C s34 mq_tI (by first | omega | (dsimp only; omega)) (by first | omega | (dsimp only; omega)) (by first | omega | (dsimp only; omega)) dX8_choose_72 ?_
          refine mq_ren (fun M5 hM5 => ?_)
          rw [Int.toNat_natCast] at hM5
          have F5 : mq_FR La [19] M2 M5 := mq_F.up hM5 (by simp)
          have hS5 := hS4.ch hI s34 hM5
          have hc5 : (∀ i, i < 10 → cho i < 100) → ∀ j, j < 10 → fnU (fnU ch3 i i) i pk j < 100 := fun q j hj => by
            unfold fnU; repeat' split
            all_goals first | omega | exact hc3 q j hj
          refine xr_iinc C dX8_choose_73 rfl (by decide) rfl ?_
          refine xr_iinc C dX8_choose_76 rfl (by decide) rfl ?_
          refine xr_iinc C dX8_choose_79 rfl (by decide) rfl ?_
          refine xr_goto C dX8_choose_82 rfl ?_
          rw [show (msC ho i : Int) + 1 = (msC ho (i + 1) : Int) by rw [hsn]; omega, show (pk : Int) + 1 = ((pk + 1 : Nat) : Int) by omega]
          exact ih (i + 1, pk + 1, M5, _) ⟨by dsimp only; omega, by dsimp only; omega, hS5, hc5, G4.tr F5⟩ (by dsimp only; omega)
        · refine xr_callV1n C (c_memberWithN l G La hI pv h d vd ld mb nu ho M2 hP hH4 pk (by omega) (fun _ => by have := hho pk; omega)) (cwV 1 C.1.2.2.2.2 gX8_choose_X9_memberWith rfl rfl rfl (by decide +kernel) ⟨Nat.le_of_ble_eq_true rfl, Nat.le_of_ble_eq_true rfl⟩) hH4.1 rfl (Nat.le_of_ble_eq_true rfl) ⟨by dsimp only; omega, by dsimp only; omega⟩ dX8_choose_52 (fun M9 hp9 => ?_)
          subst hp9
          refine xr_ifnonnull_n C dX8_choose_55 ?_
          refine xr_iinc C dX8_choose_58 rfl (by decide) rfl ?_
          refine xr_goto C dX8_choose_61 rfl ?_
          rw [show (pk : Int) + 1 = ((pk + 1 : Nat) : Int) by omega]
          exact ih2 (pk + 1) (by omega) (by omega)
