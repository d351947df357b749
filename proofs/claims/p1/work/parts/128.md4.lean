set_option maxHeartbeats 4000000 in
set_option maxRecDepth 100000 in
theorem m_look (l : Launch) (G : mq_G) (hA : pA G) (Mb : Nat → Nat) (hb : mb_inj Mb) (t0 : Int) (M : mq_M) (hD : mdI G M Mb t0) : mq_T l yX12_look wsX12_look { frames := 4, cells := 0, slots := 0, locals := 94 } G [.ref (Mb 0)] M (mq_pv (fun M2 => M2 (Mb 0) = some (.inr (11, .int (zI t0) :: mYl Mb (-1))) ∧ (∃ fz : Nat → Int32, M2 (Mb 14) = some (.inl (gZ G, 16, .inl fz)) ∧ ∀ i, i < 16 → fz i = zI 0) ∧ (∃ fn : Nat → Int32, M2 (Mb 15) = some (.inl (G.2.1, 16, .inl fn)) ∧ ∀ i, i < 16 → fn i = zI (-1)) ∧ mq_F [Mb 0, Mb 14, Mb 15] M M2)) 0 0 := by
  refine mq_Met.of (cc := cX12_look) (maxL := 7) (ret := none) (by decide) rfl (Nat.le_of_ble_eq_true rfl) rfl rfl ?_
  intro p_ e_ s_ m_ args_ below_ meth_ c_ z_ C hr hlk hname
  obtain ⟨d0, d1, d2, d3, d4, ⟨f5, d5, d5b⟩, ⟨s1, d6, d6b⟩, ⟨fz, d14⟩, ⟨fn, d15⟩, d20⟩ := id hD
  refine xr_aload_n C dX12_look_0 rfl ?_
  refine xr_iconst (n := (-1)) C dX12_look_1 (by decide +kernel) ?_
  refine xr_put C (Cn := RX12) (T := TX12) (N := 25) (by decide +kernel) hD.1 rfl 23 (by decide) tyX12 tyX12_ok nmX12 (C.1.2.2.2.2 (.fieldLink RX12 184 "OssuaryVaultModel" "leader" "I") (by decide +kernel)) (fun _ h => h) rfl (tyX12_ok 23 (by decide)) rfl rfl (Nat.le_of_ble_eq_true rfl) dX12_look_2 ?_
  refine mq_ren (fun M1 hM1 => ?_)
  have a0 : M1 (Mb 0) = some (.inr (11, .int (zI t0) :: mYl Mb (-1))) := by rw [hM1, mq_up_s]; rfl
  refine xr_aload_n C dX12_look_5 rfl ?_
  refine xr_iconst (n := 0) C dX12_look_6 (by decide +kernel) ?_
  refine xr_put C (Cn := RX12) (T := TX12) (N := 25) (by decide +kernel) a0 rfl 24 (by decide) tyX12 tyX12_ok nmX12 (C.1.2.2.2.2 (.fieldLink RX12 187 "OssuaryVaultModel" "present" "I") (by decide +kernel)) (fun _ h => h) rfl (tyX12_ok 24 (by decide)) rfl rfl (Nat.le_of_ble_eq_true rfl) dX12_look_7 ?_
  refine mq_ren (fun M2 hM2 => ?_)
  have b0 : M2 (Mb 0) = some (.inr (11, .int (zI t0) :: mYl Mb (-1))) := by rw [hM2, mq_up_s]; rfl
  have F2 : mq_F [Mb 0, Mb 14, Mb 15] M M2 := (mq_F.up hM1 (by simp)).tr (mq_F.up hM2 (by simp))
  have nf : ∀ i, mbU i = true → i ≠ 0 → i ≠ 14 → i ≠ 15 → Mb i ∉ [Mb 0, Mb 14, Mb 15] := fun i hi n0 n1 n2 hm => by
    simp only [List.mem_cons, List.not_mem_nil, or_false] at hm
    rcases hm with h | h | h
    · exact mb_ne hb hi (by decide) n0 h
    · exact mb_ne hb hi (by decide) n1 h
    · exact mb_ne hb hi (by decide) n2 h
  have b14 := (show M2 (Mb 14) = M (Mb 14) by rw [hM2, mq_up_n (mb_ne hb (by decide) (by decide) (by decide)), hM1, mq_up_n (mb_ne hb (by decide) (by decide) (by decide))]).trans d14
  have b15 := (show M2 (Mb 15) = M (Mb 15) by rw [hM2, mq_up_n (mb_ne hb (by decide) (by decide) (by decide)), hM1, mq_up_n (mb_ne hb (by decide) (by decide) (by decide))]).trans d15
  refine xr_iconst (n := 0) C dX12_look_10 (by decide +kernel) ?_
  refine xr_istore_n C dX12_look_11 (by decide) rfl ?_
  refine xr_iconst (n := 0) C dX12_look_12 (by decide +kernel) ?_
  refine xr_istore_n C dX12_look_13 (by decide) rfl ?_
  refine mq_loop (σ := Nat × mq_M × (Nat → Int32) × (Nat → Int32)) (fun y => y.1 ≤ 16 ∧ y.2.1 (Mb 0) = some (.inr (11, .int (zI t0) :: mYl Mb (-1))) ∧ y.2.1 (Mb 14) = some (.inl (gZ G, 16, .inl y.2.2.1)) ∧ (∀ j, j < y.1 → y.2.2.1 j = zI 0) ∧ y.2.1 (Mb 15) = some (.inl (G.2.1, 16, .inl y.2.2.2)) ∧ (∀ j, j < y.1 → y.2.2.2 j = zI (-1)) ∧ mq_F [Mb 0, Mb 14, Mb 15] M y.2.1) (fun y => 16 - y.1) (fun y => y.2.1) (fun y => [some (.ref (Mb 0)), some (.int (zI 0)), some (.int (zI (y.1 : Int))), none, none, none, none]) (fun y => []) ?_ (0, M2, fz, fn) ⟨Nat.zero_le _, b0, b14, (fun j hj => by omega), b15, (fun j hj => by omega), F2⟩
  rintro ⟨i, M3, gz, gn⟩ ⟨hi, k0, k1, k2, k3, k4, k5⟩ ih
  dsimp only at hi k0 k1 k2 k3 k4 k5 ih ⊢
  refine xr_iload_n C dX12_look_14 rfl ?_
  refine xr_bipush (n := 16) C dX12_look_15 (by decide +kernel) ?_
  refine xr_icmp_ge C dX12_look_17 rfl (by first | omega | (dsimp only; omega)) (by first | omega | (dsimp only; omega)) (fun hq3 => ?_) (fun hq3 => ?_)
  · exact xr_vret C hr hlk ⟨rfl, k0, ⟨gz, k1, fun j hj => k2 j (by omega)⟩, ⟨gn, k3, fun j hj => k4 j (by omega)⟩, k5⟩ (by omega) (by omega) dX12_look_177
  · have hil : i < 16 := by omega
    refine xr_aload_n C dX12_look_20 rfl ?_
    refine xr_get C (Cn := RX12) (T := TX12) (N := 25) (by decide +kernel) k0 rfl 21 (by decide) (C.1.2.2.2.2 (.fieldLink RX12 52 "OssuaryVaultModel" "sound" "[Z") (by decide +kernel)) (fun _ h => h) rfl dX12_look_21 ?_
    refine xr_iload_n C dX12_look_24 rfl ?_
    refine xr_aload_n C dX12_look_25 rfl ?_
    refine xr_iload_n C dX12_look_26 rfl ?_
    refine xr_callV1i C (m_isSoundNow l G hA Mb hb M3 _ k0 rfl rfl f5 ((k5 _ (nf 5 (by decide) (by decide) (by decide) (by decide))).trans d5) d5b s1 ((k5 _ (nf 6 (by decide) (by decide) (by decide) (by decide))).trans d6) d6b i hil) (cwV 1 C.1.2.2.2.2 gX12_look_X12_isSoundNow rfl rfl rfl (by decide +kernel) ⟨Nat.le_of_ble_eq_true rfl, Nat.le_of_ble_eq_true rfl⟩) k0 rfl (Nat.le_of_ble_eq_true rfl) ⟨by dsimp only; omega, by dsimp only; omega⟩ dX12_look_27 (fun r4 M9 hp9 => ?_)
    obtain ⟨rfl, rfl⟩ := hp9
    refine xr_zast C k1 hA.Z (by decide +kernel) (by omega) (by omega) (by decide) dX12_look_30 ?_
    refine mq_ren (fun M5 hM5 => ?_)
    rw [Int.toNat_natCast] at hM5
    have p0 := (show M5 (Mb 0) = M3 (Mb 0) by rw [hM5, mq_up_n (mb_ne hb (by decide) (by decide) (by decide))]).trans k0
    have p14 : M5 (Mb 14) = some (.inl (gZ G, 16, .inl (upd gz i (zI 0)))) := by rw [hM5, mq_up_s]
    have p15 := (show M5 (Mb 15) = M3 (Mb 15) by rw [hM5, mq_up_n (mb_ne hb (by decide) (by decide) (by decide))]).trans k3
    refine xr_aload_n C dX12_look_31 rfl ?_
    refine xr_get C (Cn := RX12) (T := TX12) (N := 25) (by decide +kernel) p0 rfl 22 (by decide) (C.1.2.2.2.2 (.fieldLink RX12 56 "OssuaryVaultModel" "numbers" "[I") (by decide +kernel)) (fun _ h => h) rfl dX12_look_32 ?_
    refine xr_iload_n C dX12_look_35 rfl ?_
    refine xr_iconst (n := (-1)) C dX12_look_36 (by decide +kernel) ?_
    refine xr_iast C p15 mq_tI (by first | omega | (dsimp only; omega)) (by first | omega | (dsimp only; omega)) (by first | omega | (dsimp only; omega)) dX12_look_37 ?_
    refine mq_ren (fun M6 hM6 => ?_)
    rw [Int.toNat_natCast] at hM6
    have q0 := (show M6 (Mb 0) = M5 (Mb 0) by rw [hM6, mq_up_n (mb_ne hb (by decide) (by decide) (by decide))]).trans p0
    have q14 := (show M6 (Mb 14) = M5 (Mb 14) by rw [hM6, mq_up_n (mb_ne hb (by decide) (by decide) (by decide))]).trans p14
    have q15 : M6 (Mb 15) = some (.inl (G.2.1, 16, .inl (upd gn i (zI (-1))))) := by rw [hM6, mq_up_s]
    have q5 : mq_F [Mb 0, Mb 14, Mb 15] M M6 := (k5.tr (mq_F.up hM5 (by simp))).tr (mq_F.up hM6 (by simp))
    refine xr_aload_n C dX12_look_38 rfl ?_
    refine xr_get C (Cn := RX12) (T := TX12) (N := 25) (by decide +kernel) q0 rfl 21 (by decide) (C.1.2.2.2.2 (.fieldLink RX12 52 "OssuaryVaultModel" "sound" "[Z") (by decide +kernel)) (fun _ h => h) rfl dX12_look_39 ?_
    refine xr_iload_n C dX12_look_42 rfl ?_
    refine xr_zald C q14 hA.Z (by omega) (by omega) (by decide) dX12_look_43 ?_
    rw [Int.toNat_natCast, show upd gz i (zI 0) i = zI 0 by simp [upd]]
    refine xr_if_ne C dX12_look_44 rfl (by decide) (fun hq => absurd hq (by decide)) (fun _ => ?_)
    refine xr_goto C dX12_look_47 rfl ?_
    refine xr_iinc C dX12_look_171 rfl (by decide) rfl ?_
    refine xr_goto C dX12_look_174 rfl ?_
    exact ih (i + 1, M6, upd gz i (zI 0), upd gn i (zI (-1))) ⟨by dsimp only; omega, q0, q14, (fun j hj => by dsimp only at hj ⊢; unfold upd; split; rfl; exact k2 j (by omega)), q15, (fun j hj => by dsimp only at hj ⊢; unfold upd; split; rfl; exact k4 j (by omega)), q5⟩ (by dsimp only; omega)
set_option maxHeartbeats 4000000 in
set_option maxRecDepth 100000 in
theorem m_okG (l : Launch) (G : mq_G) (M : mq_M) (y : Nat) (t : Int) (vs : List Value) (hM : M y = some (.inr (11, .int (zI t) :: vs))) (k : Int) : mq_T l yX12_ok wsX12_ok { frames := 0, cells := 0, slots := 0, locals := 0 } G [.ref y, .int (zI k)] M (mq_pi (fun r M2 => r = k ∧ M2 = mq_up M y (.inr (11, .int (zI 0) :: vs)))) 0 0 := by
  refine mq_Met.of (cc := cX12_ok) (maxL := 2) (ret := (some .int)) (by decide) rfl (Nat.le_of_ble_eq_true rfl) rfl rfl ?_
  intro p_ e_ s_ m_ args_ below_ meth_ c_ z_ C hr hlk hname
  refine xr_aload_n C dX12_ok_0 rfl ?_
  refine xr_iconst (n := 0) C dX12_ok_1 (by decide +kernel) ?_
  refine xr_put C (Cn := RX12) (T := TX12) (N := 25) (by decide +kernel) hM rfl 0 (by decide) tyX12 tyX12_ok nmX12 (C.1.2.2.2.2 (.fieldLink RX12 59 "OssuaryVaultModel" "thrown" "I") (by decide +kernel)) (fun _ h => h) rfl (tyX12_ok 0 (by decide)) rfl rfl (Nat.le_of_ble_eq_true rfl) dX12_ok_2 ?_
  refine mq_ren (fun M1 hM1 => ?_)
  refine xr_iload_n C dX12_ok_5 rfl ?_
  exact xr_iret C hr hlk ⟨_, rfl, rfl, hM1⟩ (by omega) (by omega) dX12_ok_6
set_option maxHeartbeats 4000000 in
set_option maxRecDepth 100000 in
theorem m_spareNow (l : Launch) (G : mq_G) (M : mq_M) (y : Nat) (t : Int) (Mb : Nat → Nat) (hM : M y = some (.inr (11, .int (zI t) :: mYl Mb (-1)))) : mq_T l yX12_spareNow wsX12_spareNow { frames := 0, cells := 0, slots := 0, locals := 0 } G [.ref y] M (mq_ri M (-1)) 0 0 := by
  refine mq_Met.of (cc := cX12_spareNow) (maxL := 1) (ret := (some .int)) (by decide) rfl (Nat.le_of_ble_eq_true rfl) rfl rfl ?_
  intro p_ e_ s_ m_ args_ below_ meth_ c_ z_ C hr hlk hname
  refine xr_aload_n C dX12_spareNow_0 rfl ?_
  refine xr_get C (Cn := RX12) (T := TX12) (N := 25) (by decide +kernel) hM rfl 23 (by decide) (C.1.2.2.2.2 (.fieldLink RX12 184 "OssuaryVaultModel" "leader" "I") (by decide +kernel)) (fun _ h => h) rfl dX12_spareNow_1 ?_
  refine xr_iconst (n := (-1)) C dX12_spareNow_4 (by decide +kernel) ?_
  refine xr_icmp_eq C dX12_spareNow_5 rfl (by decide) (by decide) (fun _ => ?_) (fun hq => absurd hq (by decide))
  refine xr_iconst (n := (-1)) C dX12_spareNow_26 (by decide +kernel) ?_
  refine xr_goto C dX12_spareNow_27 rfl ?_
  exact xr_iret C hr hlk ⟨_, rfl, rfl, rfl⟩ (by omega) (by omega) dX12_spareNow_46
set_option maxHeartbeats 4000000 in
set_option maxRecDepth 100000 in
theorem m_leader (l : Launch) (G : mq_G) (hA : pA G) (Mb : Nat → Nat) (hb : mb_inj Mb) (t0 : Int) (M : mq_M) (hD : mdI G M Mb t0)  : mq_T l yX12_leader wsX12_leader { frames := 5, cells := 0, slots := 0, locals := 120 } G [.ref (Mb 0)] M (mdR M Mb (0) (-1)) 0 0 := by
  refine mq_Met.of (cc := cX12_leader) (maxL := 1) (ret := (some .int)) (by decide) rfl (Nat.le_of_ble_eq_true rfl) rfl rfl ?_
  intro p_ e_ s_ m_ args_ below_ meth_ c_ z_ C hr hlk hname
  refine xr_aload_n C dX12_leader_0 rfl ?_
  refine xr_callV0v C (m_look l G hA Mb hb t0 M hD) (cwV 0 C.1.2.2.2.2 gX12_leader_X12_look rfl rfl rfl (by decide +kernel) ⟨Nat.le_of_ble_eq_true rfl, Nat.le_of_ble_eq_true rfl⟩) hD.1 rfl (Nat.le_of_ble_eq_true rfl) ⟨by dsimp only; omega, by dsimp only; omega⟩ dX12_leader_1 (fun M8 hp8 => ?_)
  obtain ⟨k0, k1, k2, k3⟩ := hp8
  have n39 : Mb 39 ∉ [Mb 0, Mb 14, Mb 15] := fun hm => by
    simp only [List.mem_cons, List.not_mem_nil, or_false] at hm
    rcases hm with h | h | h
    · exact mb_ne hb (by decide) (by decide) (by decide) h
    · exact mb_ne hb (by decide) (by decide) (by decide) h
    · exact mb_ne hb (by decide) (by decide) (by decide) h
  refine xr_aload_n C dX12_leader_4 rfl ?_
  refine xr_aload_n C dX12_leader_5 rfl ?_
  refine xr_get C (Cn := RX12) (T := TX12) (N := 25) (by decide +kernel) k0 rfl 23 (by decide) (C.1.2.2.2.2 (.fieldLink RX12 184 "OssuaryVaultModel" "leader" "I") (by decide +kernel)) (fun _ h => h) rfl dX12_leader_6 ?_
  refine xr_callV1i C (m_okG l G M8 (Mb 0) _ _ k0 (-1)) (cwV 1 C.1.2.2.2.2 gX12_leader_X12_ok rfl rfl rfl (by decide +kernel) ⟨Nat.le_of_ble_eq_true rfl, Nat.le_of_ble_eq_true rfl⟩) k0 rfl (Nat.le_of_ble_eq_true rfl) ⟨by dsimp only; omega, by dsimp only; omega⟩ dX12_leader_9 (fun r9 M9 hp9 => ?_)
  obtain ⟨rfl, hM9⟩ := hp9
  exact xr_iret C hr hlk ⟨_, rfl, fun _ => rfl, ⟨_, by rw [hM9, mq_up_s]⟩, by rw [hM9, mq_up_n (mb_ne hb (by decide) (by decide) (by decide))]; exact k3 _ n39⟩ (by omega) (by omega) dX12_leader_12
set_option maxHeartbeats 4000000 in
set_option maxRecDepth 100000 in
theorem m_present (l : Launch) (G : mq_G) (hA : pA G) (Mb : Nat → Nat) (hb : mb_inj Mb) (t0 : Int) (M : mq_M) (hD : mdI G M Mb t0)  : mq_T l yX12_present wsX12_present { frames := 5, cells := 0, slots := 0, locals := 120 } G [.ref (Mb 0)] M (mdR M Mb (0) (0)) 0 0 := by
  refine mq_Met.of (cc := cX12_present) (maxL := 1) (ret := (some .int)) (by decide) rfl (Nat.le_of_ble_eq_true rfl) rfl rfl ?_
  intro p_ e_ s_ m_ args_ below_ meth_ c_ z_ C hr hlk hname
  refine xr_aload_n C dX12_present_0 rfl ?_
  refine xr_callV0v C (m_look l G hA Mb hb t0 M hD) (cwV 0 C.1.2.2.2.2 gX12_present_X12_look rfl rfl rfl (by decide +kernel) ⟨Nat.le_of_ble_eq_true rfl, Nat.le_of_ble_eq_true rfl⟩) hD.1 rfl (Nat.le_of_ble_eq_true rfl) ⟨by dsimp only; omega, by dsimp only; omega⟩ dX12_present_1 (fun M8 hp8 => ?_)
  obtain ⟨k0, k1, k2, k3⟩ := hp8
  have n39 : Mb 39 ∉ [Mb 0, Mb 14, Mb 15] := fun hm => by
    simp only [List.mem_cons, List.not_mem_nil, or_false] at hm
    rcases hm with h | h | h
    · exact mb_ne hb (by decide) (by decide) (by decide) h
    · exact mb_ne hb (by decide) (by decide) (by decide) h
    · exact mb_ne hb (by decide) (by decide) (by decide) h
  refine xr_aload_n C dX12_present_4 rfl ?_
  refine xr_aload_n C dX12_present_5 rfl ?_
  refine xr_get C (Cn := RX12) (T := TX12) (N := 25) (by decide +kernel) k0 rfl 24 (by decide) (C.1.2.2.2.2 (.fieldLink RX12 187 "OssuaryVaultModel" "present" "I") (by decide +kernel)) (fun _ h => h) rfl dX12_present_6 ?_
  refine xr_callV1i C (m_okG l G M8 (Mb 0) _ _ k0 (0)) (cwV 1 C.1.2.2.2.2 gX12_present_X12_ok rfl rfl rfl (by decide +kernel) ⟨Nat.le_of_ble_eq_true rfl, Nat.le_of_ble_eq_true rfl⟩) k0 rfl (Nat.le_of_ble_eq_true rfl) ⟨by dsimp only; omega, by dsimp only; omega⟩ dX12_present_9 (fun r9 M9 hp9 => ?_)
  obtain ⟨rfl, hM9⟩ := hp9
  exact xr_iret C hr hlk ⟨_, rfl, fun _ => rfl, ⟨_, by rw [hM9, mq_up_s]⟩, by rw [hM9, mq_up_n (mb_ne hb (by decide) (by decide) (by decide))]; exact k3 _ n39⟩ (by omega) (by omega) dX12_present_12
set_option maxHeartbeats 4000000 in
set_option maxRecDepth 100000 in
theorem m_spare (l : Launch) (G : mq_G) (hA : pA G) (Mb : Nat → Nat) (hb : mb_inj Mb) (t0 : Int) (M : mq_M) (hD : mdI G M Mb t0)  : mq_T l yX12_spare wsX12_spare { frames := 5, cells := 0, slots := 0, locals := 120 } G [.ref (Mb 0)] M (mdR M Mb (0) (-1)) 0 0 := by
  refine mq_Met.of (cc := cX12_spare) (maxL := 1) (ret := (some .int)) (by decide) rfl (Nat.le_of_ble_eq_true rfl) rfl rfl ?_
  intro p_ e_ s_ m_ args_ below_ meth_ c_ z_ C hr hlk hname
  refine xr_aload_n C dX12_spare_0 rfl ?_
  refine xr_callV0v C (m_look l G hA Mb hb t0 M hD) (cwV 0 C.1.2.2.2.2 gX12_spare_X12_look rfl rfl rfl (by decide +kernel) ⟨Nat.le_of_ble_eq_true rfl, Nat.le_of_ble_eq_true rfl⟩) hD.1 rfl (Nat.le_of_ble_eq_true rfl) ⟨by dsimp only; omega, by dsimp only; omega⟩ dX12_spare_1 (fun M8 hp8 => ?_)
  obtain ⟨k0, k1, k2, k3⟩ := hp8
  have n39 : Mb 39 ∉ [Mb 0, Mb 14, Mb 15] := fun hm => by
    simp only [List.mem_cons, List.not_mem_nil, or_false] at hm
    rcases hm with h | h | h
    · exact mb_ne hb (by decide) (by decide) (by decide) h
    · exact mb_ne hb (by decide) (by decide) (by decide) h
    · exact mb_ne hb (by decide) (by decide) (by decide) h
  refine xr_aload_n C dX12_spare_4 rfl ?_
  refine xr_aload_n C dX12_spare_5 rfl ?_
  refine xr_callV0i C (m_spareNow l G M8 (Mb 0) _ Mb k0) (cwV 0 C.1.2.2.2.2 gX12_spare_X12_spareNow rfl rfl rfl (by decide +kernel) ⟨Nat.le_of_ble_eq_true rfl, Nat.le_of_ble_eq_true rfl⟩) k0 rfl (Nat.le_of_ble_eq_true rfl) ⟨by dsimp only; omega, by dsimp only; omega⟩ dX12_spare_6 (fun r1 M9 hp9 => ?_)
  obtain ⟨rfl, rfl⟩ := hp9
  refine xr_callV1i C (m_okG l G M8 (Mb 0) _ _ k0 (-1)) (cwV 1 C.1.2.2.2.2 gX12_spare_X12_ok rfl rfl rfl (by decide +kernel) ⟨Nat.le_of_ble_eq_true rfl, Nat.le_of_ble_eq_true rfl⟩) k0 rfl (Nat.le_of_ble_eq_true rfl) ⟨by dsimp only; omega, by dsimp only; omega⟩ dX12_spare_9 (fun r9 M9 hp9 => ?_)
  obtain ⟨rfl, hM9⟩ := hp9
  exact xr_iret C hr hlk ⟨_, rfl, fun _ => rfl, ⟨_, by rw [hM9, mq_up_s]⟩, by rw [hM9, mq_up_n (mb_ne hb (by decide) (by decide) (by decide))]; exact k3 _ n39⟩ (by omega) (by omega) dX12_spare_12
set_option maxHeartbeats 4000000 in
set_option maxRecDepth 100000 in
theorem m_open (l : Launch) (G : mq_G) (hA : pA G) (Mb : Nat → Nat) (hb : mb_inj Mb) (t0 : Int) (M : mq_M) (hD : mdI G M Mb t0)  : mq_T l yX12_open wsX12_open { frames := 5, cells := 0, slots := 0, locals := 120 } G [.ref (Mb 0)] M (mdR M Mb (0) (-1)) 0 0 := by
  refine mq_Met.of (cc := cX12_open) (maxL := 7) (ret := (some .int)) (by decide) rfl (Nat.le_of_ble_eq_true rfl) rfl rfl ?_
  intro p_ e_ s_ m_ args_ below_ meth_ c_ z_ C hr hlk hname
  refine xr_aload_n C dX12_open_0 rfl ?_
  refine xr_iconst (n := 0) C dX12_open_1 (by decide +kernel) ?_
  refine xr_put C (Cn := RX12) (T := TX12) (N := 25) (by decide +kernel) hD.1 rfl 0 (by decide) tyX12 tyX12_ok nmX12 (C.1.2.2.2.2 (.fieldLink RX12 59 "OssuaryVaultModel" "thrown" "I") (by decide +kernel)) (fun _ h => h) rfl (tyX12_ok 0 (by decide)) rfl rfl (Nat.le_of_ble_eq_true rfl) dX12_open_2 ?_
  refine mq_ren (fun M1 hM1 => ?_)
  have hD1 : mdI G M1 Mb 0 := hD.th hb hM1
  have hO1 : M1 (Mb 39) = M (Mb 39) := by rw [hM1, mq_up_n (mb_ne hb (by decide) (by decide) (by decide))]
  refine xr_aload_n C dX12_open_5 rfl ?_
  refine xr_iconst (n := 0) C dX12_open_6 (by decide +kernel) ?_
  refine xr_put C (Cn := RX12) (T := TX12) (N := 25) (by decide +kernel) hD1.1 rfl 9 (by decide) tyX12 tyX12_ok nmX12 (C.1.2.2.2.2 (.fieldLink RX12 164 "OssuaryVaultModel" "isOpen" "Z") (by decide +kernel)) (fun _ h => h) rfl (tyX12_ok 9 (by decide)) rfl rfl (Nat.le_of_ble_eq_true rfl) dX12_open_7 ?_
  refine mq_ren (fun M2 hM2 => ?_)
  have hD2 : mdI G M2 Mb 0 := hD1.th hb (hM2.trans rfl)
  have hO2 : M2 (Mb 39) = M (Mb 39) := by rw [hM2, mq_up_n (mb_ne hb (by decide) (by decide) (by decide))]; exact hO1
  refine xr_aload_n C dX12_open_10 rfl ?_
  refine xr_callV0v C (m_look l G hA Mb hb 0 M2 hD2) (cwV 0 C.1.2.2.2.2 gX12_open_X12_look rfl rfl rfl (by decide +kernel) ⟨Nat.le_of_ble_eq_true rfl, Nat.le_of_ble_eq_true rfl⟩) hD2.1 rfl (Nat.le_of_ble_eq_true rfl) ⟨by dsimp only; omega, by dsimp only; omega⟩ dX12_open_11 (fun M8 hp8 => ?_)
  obtain ⟨k0, k1, k2, k3⟩ := hp8
  have n39 : Mb 39 ∉ [Mb 0, Mb 14, Mb 15] := fun hm => by
    simp only [List.mem_cons, List.not_mem_nil, or_false] at hm
    rcases hm with h | h | h
    · exact mb_ne hb (by decide) (by decide) (by decide) h
    · exact mb_ne hb (by decide) (by decide) (by decide) h
    · exact mb_ne hb (by decide) (by decide) (by decide) h
  refine xr_aload_n C dX12_open_14 rfl ?_
  refine xr_callV0i C (m_spareNow l G M8 (Mb 0) _ Mb k0) (cwV 0 C.1.2.2.2.2 gX12_open_X12_spareNow rfl rfl rfl (by decide +kernel) ⟨Nat.le_of_ble_eq_true rfl, Nat.le_of_ble_eq_true rfl⟩) k0 rfl (Nat.le_of_ble_eq_true rfl) ⟨by dsimp only; omega, by dsimp only; omega⟩ dX12_open_15 (fun r3 M9 hp9 => ?_)
  obtain ⟨rfl, rfl⟩ := hp9
  refine xr_iconst (n := (-1)) C dX12_open_18 (by decide +kernel) ?_
  refine xr_icmp_ne C dX12_open_19 rfl (by decide) (by decide) (fun hq => absurd hq (by decide)) (fun _ => ?_)
  refine xr_iconst (n := (-1)) C dX12_open_22 (by decide +kernel) ?_
  exact xr_iret C hr hlk ⟨_, rfl, fun _ => rfl, ⟨_, k0⟩, (k3 _ n39).trans hO2⟩ (by omega) (by omega) dX12_open_23
set_option maxHeartbeats 4000000 in
set_option maxRecDepth 100000 in
theorem m_numberOf (l : Launch) (G : mq_G) (hA : pA G) (Mb : Nat → Nat) (hb : mb_inj Mb) (t0 : Int) (M : mq_M) (hD : mdI G M Mb t0) (i : Int) (hir : -2147483648 ≤ i ∧ i < 2147483648) : mq_T l yX12_numberOf wsX12_numberOf { frames := 5, cells := 0, slots := 0, locals := 120 } G [.ref (Mb 0), .int (zI i)] M (mdR M Mb (if 0 ≤ i ∧ i ≤ 15 then 0 else 1) (-1)) 0 0 := by
  refine mq_Met.of (cc := cX12_numberOf) (maxL := 2) (ret := (some .int)) (by decide) rfl (Nat.le_of_ble_eq_true rfl) rfl rfl ?_
  intro p_ e_ s_ m_ args_ below_ meth_ c_ z_ C hr hlk hname
  refine xr_aload_n C dX12_numberOf_0 rfl ?_
  refine xr_iconst (n := 0) C dX12_numberOf_1 (by decide +kernel) ?_
  refine xr_put C (Cn := RX12) (T := TX12) (N := 25) (by decide +kernel) hD.1 rfl 0 (by decide) tyX12 tyX12_ok nmX12 (C.1.2.2.2.2 (.fieldLink RX12 59 "OssuaryVaultModel" "thrown" "I") (by decide +kernel)) (fun _ h => h) rfl (tyX12_ok 0 (by decide)) rfl rfl (Nat.le_of_ble_eq_true rfl) dX12_numberOf_2 ?_
  refine mq_ren (fun M1 hM1 => ?_)
  have hD1 : mdI G M1 Mb 0 := hD.th hb hM1
  have hO1 : M1 (Mb 39) = M (Mb 39) := by rw [hM1, mq_up_n (mb_ne hb (by decide) (by decide) (by decide))]
  refine xr_iload_n C dX12_numberOf_5 rfl ?_
  refine xr_callS1i C (m_isPlace l G M1 i hir) (cwS 1 C.1.2.2.2.2 gX12_numberOf_X12_isPlace rfl rfl rfl (by decide +kernel) ⟨Nat.le_of_ble_eq_true rfl, Nat.le_of_ble_eq_true rfl⟩) (Nat.le_of_ble_eq_true rfl) ⟨by dsimp only; omega, by dsimp only; omega⟩ dX12_numberOf_6 (fun r2 M9 hp9 => ?_)
  obtain ⟨rfl, rfl⟩ := hp9
  by_cases hc0 : 0 ≤ i ∧ i ≤ 15
  · rw [show (if 0 ≤ i ∧ i ≤ 15 then (1 : Int) else 0) = 1 from if_pos hc0]
    refine xr_if_ne C dX12_numberOf_9 rfl (by decide) (fun _ => ?_) (fun hq => absurd hq (by decide))
    obtain ⟨i, rfl⟩ := Int.eq_ofNat_of_zero_le (show 0 ≤ i by omega)
    refine xr_aload_n C dX12_numberOf_18 rfl ?_
    refine xr_callV0v C (m_look l G hA Mb hb 0 M1 hD1) (cwV 0 C.1.2.2.2.2 gX12_numberOf_X12_look rfl rfl rfl (by decide +kernel) ⟨Nat.le_of_ble_eq_true rfl, Nat.le_of_ble_eq_true rfl⟩) hD1.1 rfl (Nat.le_of_ble_eq_true rfl) ⟨by dsimp only; omega, by dsimp only; omega⟩ dX12_numberOf_19 (fun M8 hp8 => ?_)
    obtain ⟨k0, k1, k2, k3⟩ := hp8
    have n39 : Mb 39 ∉ [Mb 0, Mb 14, Mb 15] := fun hm => by
      simp only [List.mem_cons, List.not_mem_nil, or_false] at hm
      rcases hm with h | h | h
      · exact mb_ne hb (by decide) (by decide) (by decide) h
      · exact mb_ne hb (by decide) (by decide) (by decide) h
      · exact mb_ne hb (by decide) (by decide) (by decide) h
    obtain ⟨gn, k2a, k2b⟩ := k2
    refine xr_aload_n C dX12_numberOf_22 rfl ?_
    refine xr_get C (Cn := RX12) (T := TX12) (N := 25) (by decide +kernel) k0 rfl 22 (by decide) (C.1.2.2.2.2 (.fieldLink RX12 56 "OssuaryVaultModel" "numbers" "[I") (by decide +kernel)) (fun _ h => h) rfl dX12_numberOf_23 ?_
    refine xr_iload_n C dX12_numberOf_26 rfl ?_
    refine xr_iald C k2a mq_tI (by omega) (by show (i : Int) < (16 : Int); omega) (by first | omega | (dsimp only; omega)) dX12_numberOf_27 ?_
    rw [Int.toNat_natCast, k2b i (by omega)]
    exact xr_iret C hr hlk ⟨_, rfl, by rw [if_pos hc0]; exact ⟨fun _ => rfl, ⟨_, k0⟩, (k3 _ n39).trans hO1⟩⟩ (by omega) (by omega) dX12_numberOf_28
  · rw [show (if 0 ≤ i ∧ i ≤ 15 then (1 : Int) else 0) = 0 from if_neg hc0]
    refine xr_if_ne C dX12_numberOf_9 rfl (by decide) (fun hq => absurd hq (by decide)) (fun _ => ?_)
    refine xr_aload_n C dX12_numberOf_12 rfl ?_
    refine xr_iconst (n := 1) C dX12_numberOf_13 (by decide +kernel) ?_
    refine xr_callV1i C (m_no l G Mb hb 0 M1 hD1 1) (cwV 1 C.1.2.2.2.2 gX12_numberOf_X12_no rfl rfl rfl (by decide +kernel) ⟨Nat.le_of_ble_eq_true rfl, Nat.le_of_ble_eq_true rfl⟩) hD1.1 rfl (Nat.le_of_ble_eq_true rfl) ⟨by dsimp only; omega, by dsimp only; omega⟩ dX12_numberOf_14 (fun r9 M9 hp9 => ?_)
    obtain ⟨rfl, hD9, hO9⟩ := hp9
    exact xr_iret C hr hlk ⟨_, rfl, by rw [if_neg (by omega)]; exact ⟨fun h => absurd h (by decide), mdQ.of hD9 (hO9.trans hO1)⟩⟩ (by omega) (by omega) dX12_numberOf_17
set_option maxHeartbeats 4000000 in
set_option maxRecDepth 100000 in
theorem m_exchange (l : Launch) (G : mq_G) (hA : pA G) (Mb : Nat → Nat) (hb : mb_inj Mb) (t0 : Int) (M : mq_M) (hD : mdI G M Mb t0) (i : Int) (hir : -2147483648 ≤ i ∧ i < 2147483648) (q : Int) (hqr : -2147483648 ≤ q ∧ q < 2147483648) : mq_T l yX12_exchange wsX12_exchange { frames := 2, cells := 0, slots := 0, locals := 42 } G [.ref (Mb 0), .int (zI i), .int (zI q)] M (mdR M Mb (if (0 ≤ i ∧ i ≤ 15) ∧ (0 ≤ q ∧ q ≤ 15) then 0 else 1) (0)) 0 0 := by
  refine mq_Met.of (cc := cX12_exchange) (maxL := 5) (ret := (some .int)) (by decide) rfl (Nat.le_of_ble_eq_true rfl) rfl rfl ?_
  intro p_ e_ s_ m_ args_ below_ meth_ c_ z_ C hr hlk hname
  refine xr_aload_n C dX12_exchange_0 rfl ?_
  refine xr_iconst (n := 0) C dX12_exchange_1 (by decide +kernel) ?_
  refine xr_put C (Cn := RX12) (T := TX12) (N := 25) (by decide +kernel) hD.1 rfl 0 (by decide) tyX12 tyX12_ok nmX12 (C.1.2.2.2.2 (.fieldLink RX12 59 "OssuaryVaultModel" "thrown" "I") (by decide +kernel)) (fun _ h => h) rfl (tyX12_ok 0 (by decide)) rfl rfl (Nat.le_of_ble_eq_true rfl) dX12_exchange_2 ?_
  refine mq_ren (fun M1 hM1 => ?_)
  have hD1 : mdI G M1 Mb 0 := hD.th hb hM1
  have hO1 : M1 (Mb 39) = M (Mb 39) := by rw [hM1, mq_up_n (mb_ne hb (by decide) (by decide) (by decide))]
  refine xr_iload_n C dX12_exchange_5 rfl ?_
  refine xr_callS1i C (m_isPlace l G M1 i hir) (cwS 1 C.1.2.2.2.2 gX12_exchange_X12_isPlace rfl rfl rfl (by decide +kernel) ⟨Nat.le_of_ble_eq_true rfl, Nat.le_of_ble_eq_true rfl⟩) (Nat.le_of_ble_eq_true rfl) ⟨by dsimp only; omega, by dsimp only; omega⟩ dX12_exchange_6 (fun r2 M9 hp9 => ?_)
  obtain ⟨rfl, rfl⟩ := hp9
  by_cases hc0 : 0 ≤ i ∧ i ≤ 15
  · rw [show (if 0 ≤ i ∧ i ≤ 15 then (1 : Int) else 0) = 1 from if_pos hc0]
    refine xr_if_eq C dX12_exchange_9 rfl (by decide) (fun hq => absurd hq (by decide)) (fun _ => ?_)
    refine xr_iload_n C dX12_exchange_12 rfl ?_
    refine xr_callS1i C (m_isPlace l G M1 q hqr) (cwS 1 C.1.2.2.2.2 gX12_exchange_X12_isPlace rfl rfl rfl (by decide +kernel) ⟨Nat.le_of_ble_eq_true rfl, Nat.le_of_ble_eq_true rfl⟩) (Nat.le_of_ble_eq_true rfl) ⟨by dsimp only; omega, by dsimp only; omega⟩ dX12_exchange_13 (fun r3 M9 hp9 => ?_)
    obtain ⟨rfl, rfl⟩ := hp9
    by_cases hc1 : 0 ≤ q ∧ q ≤ 15
    · rw [show (if 0 ≤ q ∧ q ≤ 15 then (1 : Int) else 0) = 1 from if_pos hc1]
      refine xr_if_ne C dX12_exchange_16 rfl (by decide) (fun _ => ?_) (fun hq => absurd hq (by decide))
      obtain ⟨i, rfl⟩ := Int.eq_ofNat_of_zero_le (show 0 ≤ i by omega)
      obtain ⟨q, rfl⟩ := Int.eq_ofNat_of_zero_le (show 0 ≤ q by omega)
      obtain ⟨e0, e1, e2, e3, e4, ⟨f5, e5, e5b⟩, ⟨s1, e6, e6b⟩, e14⟩ := id hD1
      refine xr_aload_n C dX12_exchange_25 rfl ?_
      refine xr_get C (Cn := RX12) (T := TX12) (N := 25) (by decide +kernel) hD1.1 rfl 7 (by decide) (C.1.2.2.2.2 (.fieldLink RX12 25 "OssuaryVaultModel" "volumes" "[[I") (by decide +kernel)) (fun _ h => h) rfl dX12_exchange_26 ?_
      refine xr_iload_n C dX12_exchange_29 rfl ?_
      refine xr_aaldA C e5 hA.A (by omega) (by show (i : Int) < (16 : Int); omega) (by decide) dX12_exchange_30 ?_
      rw [Int.toNat_natCast, e5b i (by omega), show va_rf none = Value.null from rfl]
      refine xr_nstore_n C dX12_exchange_31 (by decide) rfl ?_
      refine xr_aload_n C dX12_exchange_32 rfl ?_
      refine xr_get C (Cn := RX12) (T := TX12) (N := 25) (by decide +kernel) hD1.1 rfl 8 (by decide) (C.1.2.2.2.2 (.fieldLink RX12 28 "OssuaryVaultModel" "sizes" "[I") (by decide +kernel)) (fun _ h => h) rfl dX12_exchange_33 ?_
      refine xr_iload_n C dX12_exchange_36 rfl ?_
      refine xr_iald C e6 mq_tI (by omega) (by show (i : Int) < (16 : Int); omega) (by first | omega | (dsimp only; omega)) dX12_exchange_37 ?_
      rw [Int.toNat_natCast, e6b i (by omega)]
      refine xr_istore C dX12_exchange_38 (by decide) rfl ?_
      refine xr_aload_n C dX12_exchange_40 rfl ?_
      refine xr_get C (Cn := RX12) (T := TX12) (N := 25) (by decide +kernel) hD1.1 rfl 7 (by decide) (C.1.2.2.2.2 (.fieldLink RX12 25 "OssuaryVaultModel" "volumes" "[[I") (by decide +kernel)) (fun _ h => h) rfl dX12_exchange_41 ?_
      refine xr_iload_n C dX12_exchange_44 rfl ?_
      refine xr_aload_n C dX12_exchange_45 rfl ?_
      refine xr_get C (Cn := RX12) (T := TX12) (N := 25) (by decide +kernel) hD1.1 rfl 7 (by decide) (C.1.2.2.2.2 (.fieldLink RX12 25 "OssuaryVaultModel" "volumes" "[[I") (by decide +kernel)) (fun _ h => h) rfl dX12_exchange_46 ?_
      refine xr_iload_n C dX12_exchange_49 rfl ?_
      refine xr_aaldA C e5 hA.A (by omega) (by show (q : Int) < (16 : Int); omega) (by decide) dX12_exchange_50 ?_
      rw [Int.toNat_natCast, e5b q (by omega), show va_rf none = Value.null from rfl]
      refine xr_aastN C e5 hA.A rfl (by omega) (by show (i : Int) < (16 : Int); omega) (by decide) dX12_exchange_51 ?_
      refine mq_ren (fun M4 hM4 => ?_)
      rw [Int.toNat_natCast] at hM4
      have a0 := (show M4 (Mb 0) = M1 (Mb 0) by rw [hM4, mq_up_n (mb_ne hb (by decide) (by decide) (by decide))]).trans e0
      have a5 : M4 (Mb 5) = some (.inl (gA G, 16, .inr (.inr (.inr (.inr (va_up f5 i none)))))) := by rw [hM4, mq_up_s]
      have a6 := (show M4 (Mb 6) = M1 (Mb 6) by rw [hM4, mq_up_n (mb_ne hb (by decide) (by decide) (by decide))]).trans e6
      refine xr_aload_n C dX12_exchange_52 rfl ?_
      refine xr_get C (Cn := RX12) (T := TX12) (N := 25) (by decide +kernel) a0 rfl 8 (by decide) (C.1.2.2.2.2 (.fieldLink RX12 28 "OssuaryVaultModel" "sizes" "[I") (by decide +kernel)) (fun _ h => h) rfl dX12_exchange_53 ?_
      refine xr_iload_n C dX12_exchange_56 rfl ?_
      refine xr_aload_n C dX12_exchange_57 rfl ?_
      refine xr_get C (Cn := RX12) (T := TX12) (N := 25) (by decide +kernel) a0 rfl 8 (by decide) (C.1.2.2.2.2 (.fieldLink RX12 28 "OssuaryVaultModel" "sizes" "[I") (by decide +kernel)) (fun _ h => h) rfl dX12_exchange_58 ?_
      refine xr_iload_n C dX12_exchange_61 rfl ?_
      refine xr_iald C a6 mq_tI (by omega) (by show (q : Int) < (16 : Int); omega) (by first | omega | (dsimp only; omega)) dX12_exchange_62 ?_
      rw [Int.toNat_natCast, e6b q (by omega)]
      refine xr_iast C a6 mq_tI (by omega) (by show (i : Int) < (16 : Int); omega) (by first | omega | (dsimp only; omega)) dX12_exchange_63 ?_
      refine mq_ren (fun M5 hM5 => ?_)
      rw [Int.toNat_natCast] at hM5
      have b0 := (show M5 (Mb 0) = M4 (Mb 0) by rw [hM5, mq_up_n (mb_ne hb (by decide) (by decide) (by decide))]).trans a0
      have b5 := (show M5 (Mb 5) = M4 (Mb 5) by rw [hM5, mq_up_n (mb_ne hb (by decide) (by decide) (by decide))]).trans a5
      refine xr_aload_n C dX12_exchange_64 rfl ?_
      refine xr_get C (Cn := RX12) (T := TX12) (N := 25) (by decide +kernel) b0 rfl 7 (by decide) (C.1.2.2.2.2 (.fieldLink RX12 25 "OssuaryVaultModel" "volumes" "[[I") (by decide +kernel)) (fun _ h => h) rfl dX12_exchange_65 ?_
      refine xr_iload_n C dX12_exchange_68 rfl ?_
      refine xr_nload_n C dX12_exchange_69 rfl ?_
      refine xr_aastN C b5 hA.A rfl (by omega) (by show (q : Int) < (16 : Int); omega) (by decide) dX12_exchange_70 ?_
      refine mq_ren (fun M6 hM6 => ?_)
      rw [Int.toNat_natCast] at hM6
      have c0 := (show M6 (Mb 0) = M5 (Mb 0) by rw [hM6, mq_up_n (mb_ne hb (by decide) (by decide) (by decide))]).trans b0
      have c6 : M6 (Mb 6) = some (.inl (G.2.1, 16, .inl (upd s1 i (zI (-1))))) := by rw [hM6, mq_up_n (mb_ne hb (by decide) (by decide) (by decide)), hM5, mq_up_s]
      refine xr_aload_n C dX12_exchange_71 rfl ?_
      refine xr_get C (Cn := RX12) (T := TX12) (N := 25) (by decide +kernel) c0 rfl 8 (by decide) (C.1.2.2.2.2 (.fieldLink RX12 28 "OssuaryVaultModel" "sizes" "[I") (by decide +kernel)) (fun _ h => h) rfl dX12_exchange_72 ?_
      refine xr_iload_n C dX12_exchange_75 rfl ?_
      refine xr_iload C dX12_exchange_76 rfl ?_
      refine xr_iast C c6 mq_tI (by omega) (by show (q : Int) < (16 : Int); omega) (by first | omega | (dsimp only; omega)) dX12_exchange_78 ?_
      refine mq_ren (fun M7 hM7 => ?_)
      rw [Int.toNat_natCast] at hM7
      have g0 := (show M7 (Mb 0) = M6 (Mb 0) by rw [hM7, mq_up_n (mb_ne hb (by decide) (by decide) (by decide))]).trans c0
      have g6 : M7 (Mb 6) = some (.inl (G.2.1, 16, .inl (upd (upd s1 i (zI (-1))) q (zI (-1))))) := by rw [hM7, mq_up_s]
      have g7 : ∀ j, j < 16 → upd (upd s1 i (zI (-1))) q (zI (-1)) j = zI (-1) := fun j hj => by
        unfold upd
        split
        · rfl
        · split
          · rfl
          · exact e6b j hj
      have g39 : M7 (Mb 39) = M (Mb 39) := by rw [hM7, mq_up_n (mb_ne hb (by decide) (by decide) (by decide)), hM6, mq_up_n (mb_ne hb (by decide) (by decide) (by decide)), hM5, mq_up_n (mb_ne hb (by decide) (by decide) (by decide)), hM4, mq_up_n (mb_ne hb (by decide) (by decide) (by decide))]; exact hO1
      refine xr_aload_n C dX12_exchange_79 rfl ?_
      refine xr_get C (Cn := RX12) (T := TX12) (N := 25) (by decide +kernel) g0 rfl 8 (by decide) (C.1.2.2.2.2 (.fieldLink RX12 28 "OssuaryVaultModel" "sizes" "[I") (by decide +kernel)) (fun _ h => h) rfl dX12_exchange_80 ?_
      refine xr_iload_n C dX12_exchange_83 rfl ?_
      refine xr_iald C g6 mq_tI (by omega) (by show (i : Int) < (16 : Int); omega) (by first | omega | (dsimp only; omega)) dX12_exchange_84 ?_
      rw [Int.toNat_natCast, g7 i (by omega)]
      refine xr_iconst (n := (-1)) C dX12_exchange_85 (by decide +kernel) ?_
      refine xr_icmp_ne C dX12_exchange_86 rfl (by decide) (by decide) (fun hq => absurd hq (by decide)) (fun _ => ?_)
      refine xr_iconst (n := 0) C dX12_exchange_89 (by decide +kernel) ?_
      refine xr_goto C dX12_exchange_90 rfl ?_
      refine xr_aload_n C dX12_exchange_94 rfl ?_
      refine xr_get C (Cn := RX12) (T := TX12) (N := 25) (by decide +kernel) g0 rfl 8 (by decide) (C.1.2.2.2.2 (.fieldLink RX12 28 "OssuaryVaultModel" "sizes" "[I") (by decide +kernel)) (fun _ h => h) rfl dX12_exchange_95 ?_
      refine xr_iload_n C dX12_exchange_98 rfl ?_
      refine xr_iald C g6 mq_tI (by omega) (by show (q : Int) < (16 : Int); omega) (by first | omega | (dsimp only; omega)) dX12_exchange_99 ?_
      rw [Int.toNat_natCast, g7 q (by omega)]
      refine xr_iconst (n := (-1)) C dX12_exchange_100 (by decide +kernel) ?_
      refine xr_icmp_ne C dX12_exchange_101 rfl (by decide) (by decide) (fun hq => absurd hq (by decide)) (fun _ => ?_)
      refine xr_iconst (n := 0) C dX12_exchange_104 (by decide +kernel) ?_
      refine xr_goto C dX12_exchange_105 rfl ?_
      refine xr_iadd C dX12_exchange_109 ?_
      exact xr_iret C hr hlk ⟨_, rfl, by rw [if_pos (by omega)]; exact ⟨fun _ => rfl, ⟨_, g0⟩, g39⟩⟩ (by omega) (by omega) dX12_exchange_110
    · rw [show (if 0 ≤ q ∧ q ≤ 15 then (1 : Int) else 0) = 0 from if_neg hc1]
      refine xr_if_ne C dX12_exchange_16 rfl (by decide) (fun hq => absurd hq (by decide)) (fun _ => ?_)
      refine xr_aload_n C dX12_exchange_19 rfl ?_
      refine xr_iconst (n := 1) C dX12_exchange_20 (by decide +kernel) ?_
      refine xr_callV1i C (m_no l G Mb hb 0 M1 hD1 1) (cwV 1 C.1.2.2.2.2 gX12_exchange_X12_no rfl rfl rfl (by decide +kernel) ⟨Nat.le_of_ble_eq_true rfl, Nat.le_of_ble_eq_true rfl⟩) hD1.1 rfl (Nat.le_of_ble_eq_true rfl) ⟨by dsimp only; omega, by dsimp only; omega⟩ dX12_exchange_21 (fun r9 M9 hp9 => ?_)
      obtain ⟨rfl, hD9, hO9⟩ := hp9
      exact xr_iret C hr hlk ⟨_, rfl, by rw [if_neg (by omega)]; exact ⟨fun h => absurd h (by decide), mdQ.of hD9 (hO9.trans hO1)⟩⟩ (by omega) (by omega) dX12_exchange_24
  · rw [show (if 0 ≤ i ∧ i ≤ 15 then (1 : Int) else 0) = 0 from if_neg hc0]
    refine xr_if_eq C dX12_exchange_9 rfl (by decide) (fun _ => ?_) (fun hq => absurd hq (by decide))
    refine xr_aload_n C dX12_exchange_19 rfl ?_
    refine xr_iconst (n := 1) C dX12_exchange_20 (by decide +kernel) ?_
    refine xr_callV1i C (m_no l G Mb hb 0 M1 hD1 1) (cwV 1 C.1.2.2.2.2 gX12_exchange_X12_no rfl rfl rfl (by decide +kernel) ⟨Nat.le_of_ble_eq_true rfl, Nat.le_of_ble_eq_true rfl⟩) hD1.1 rfl (Nat.le_of_ble_eq_true rfl) ⟨by dsimp only; omega, by dsimp only; omega⟩ dX12_exchange_21 (fun r9 M9 hp9 => ?_)
    obtain ⟨rfl, hD9, hO9⟩ := hp9
    exact xr_iret C hr hlk ⟨_, rfl, by rw [if_neg (by omega)]; exact ⟨fun h => absurd h (by decide), mdQ.of hD9 (hO9.trans hO1)⟩⟩ (by omega) (by omega) dX12_exchange_24
set_option maxHeartbeats 4000000 in
set_option maxRecDepth 100000 in
theorem m_cost (l : Launch) (G : mq_G) (hA : pA G) (Mb : Nat → Nat) (hb : mb_inj Mb) (t0 : Int) (M : mq_M) (hD : mdI G M Mb t0) : mq_T l yX12_cost wsX12_cost { frames := 1, cells := 0, slots := 0, locals := 21 } G [.ref (Mb 0)] M (mq_pd (fun r M2 => r = FP.dconst0 ∧ mdQ M M2 Mb 0)) 0 0 := by
  refine mq_Met.of (cc := cX12_cost) (maxL := 4) (ret := (some .double)) (by decide) rfl (Nat.le_of_ble_eq_true rfl) rfl rfl ?_
  intro p_ e_ s_ m_ args_ below_ meth_ c_ z_ C hr hlk hname
  refine xr_aload_n C dX12_cost_0 rfl ?_
  refine xr_iconst (n := 0) C dX12_cost_1 (by decide +kernel) ?_
  refine xr_put C (Cn := RX12) (T := TX12) (N := 25) (by decide +kernel) hD.1 rfl 0 (by decide) tyX12 tyX12_ok nmX12 (C.1.2.2.2.2 (.fieldLink RX12 59 "OssuaryVaultModel" "thrown" "I") (by decide +kernel)) (fun _ h => h) rfl (tyX12_ok 0 (by decide)) rfl rfl (Nat.le_of_ble_eq_true rfl) dX12_cost_2 ?_
  refine mq_ren (fun M1 hM1 => ?_)
  have hD1 : mdI G M1 Mb 0 := hD.th hb hM1
  have hO1 : M1 (Mb 39) = M (Mb 39) := by rw [hM1, mq_up_n (mb_ne hb (by decide) (by decide) (by decide))]
  obtain ⟨s1, e6, e6b⟩ := hD1.2.2.2.2.2.2.1
  refine xr_iconst (n := 0) C dX12_cost_5 (by decide +kernel) ?_
  refine xr_istore_n C dX12_cost_6 (by decide) rfl ?_
  refine xr_iconst (n := 0) C dX12_cost_7 (by decide +kernel) ?_
  refine xr_istore_n C dX12_cost_8 (by decide) rfl ?_
  refine xr_iconst (n := 0) C dX12_cost_9 (by decide +kernel) ?_
  refine xr_istore_n C dX12_cost_10 (by decide) rfl ?_
  refine mq_loop (σ := Nat) (fun y => y ≤ 16) (fun y => 16 - y) (fun y => M1) (fun y => [some (.ref (Mb 0)), some (.int (zI 0)), some (.int (zI 0)), some (.int (zI (y : Int)))]) (fun y => []) ?_ 0 (by decide)
  rintro i hi ih
  try dsimp only at ih ⊢
  refine xr_iload_n C dX12_cost_11 rfl ?_
  refine xr_bipush (n := 16) C dX12_cost_12 (by decide +kernel) ?_
  refine xr_icmp_ge C dX12_cost_14 rfl (by first | omega | (dsimp only; omega)) (by first | omega | (dsimp only; omega)) (fun hq2 => ?_) (fun hq2 => ?_)
  · refine xr_iconst (n := 0) C dX12_cost_36 (by decide +kernel) ?_
    refine xr_istore_n C dX12_cost_37 (by decide) rfl ?_
    refine xr_iload_n C dX12_cost_38 rfl ?_
    refine xr_aload_n C dX12_cost_39 rfl ?_
    refine xr_get C (Cn := RX12) (T := TX12) (N := 25) (by decide +kernel) hD1.1 rfl 3 (by decide) (C.1.2.2.2.2 (.fieldLink RX12 95 "OssuaryVaultModel" "files" "I") (by decide +kernel)) (fun _ h => h) rfl dX12_cost_40 ?_
    refine xr_icmp_ge C dX12_cost_43 rfl (by decide) (by decide) (fun _ => ?_) (fun hq => absurd hq (by decide))
    refine xr_iload_n C dX12_cost_61 rfl ?_
    refine xr_if_ne C dX12_cost_62 rfl (by decide) (fun hq => absurd hq (by decide)) (fun _ => ?_)
    refine xr_dconst0 C dX12_cost_65 ?_
    refine xr_goto C dX12_cost_66 rfl ?_
    exact xr_dret C hr hlk ⟨_, rfl, rfl, mdQ.of hD1 hO1⟩ (by omega) (by omega) dX12_cost_74
  · refine xr_iload_n C dX12_cost_17 rfl ?_
    refine xr_iconst (n := 0) C dX12_cost_18 (by decide +kernel) ?_
    refine xr_aload_n C dX12_cost_19 rfl ?_
    refine xr_get C (Cn := RX12) (T := TX12) (N := 25) (by decide +kernel) hD1.1 rfl 8 (by decide) (C.1.2.2.2.2 (.fieldLink RX12 28 "OssuaryVaultModel" "sizes" "[I") (by decide +kernel)) (fun _ h => h) rfl dX12_cost_20 ?_
    refine xr_iload_n C dX12_cost_23 rfl ?_
    refine xr_iald C e6 mq_tI (by omega) (by show (i : Int) < (16 : Int); omega) (by first | omega | (dsimp only; omega)) dX12_cost_24 ?_
    rw [Int.toNat_natCast, e6b i (by omega)]
    refine xr_max C (by first | omega | (dsimp only; omega)) (by first | omega | (dsimp only; omega)) (C.1.2.2.2.2 (.methodLink RX12 254 Lib.Math.max.name) (by decide +kernel)) (C.1.2.2.2.2 (.static Lib.Math.max.name) (by decide +kernel)) (C.1.2.2.2.2 (.initialized "java/lang/Math") (by decide +kernel)) (C.1.2.2.2.2 (.code Lib.Math.max.name Lib.Math.max.code 2 (some .int)) (by decide +kernel)) (Nat.le_of_ble_eq_true rfl) (Nat.le_of_ble_eq_true rfl) (by dsimp only; omega) (by dsimp only; omega) dX12_cost_25 ?_
    rw [show max (0 : Int) (-1) = 0 from rfl]
    refine xr_iadd C dX12_cost_28 ?_
    refine xr_istore_n C dX12_cost_29 (by decide) rfl ?_
    refine xr_iinc C dX12_cost_30 rfl (by decide) rfl ?_
    refine xr_goto C dX12_cost_33 rfl ?_
    exact ih (i + 1) (by omega) (by omega)
def mdg : Nat → Int64
  | 0 => (76663 + (zI 0).toInt64) * 31 + (zI 6).toInt64
  | i + 1 => ((mdg i * 31 + (zI (-1)).toInt64) * 31 + (zI 0).toInt64) * 31 + (zI (-1)).toInt64
def mdg9 : Int64 := (((mdg 16 * 31 + (zI (-1)).toInt64) * 31 + (zI 0).toInt64) * 31 + (zI (-1)).toInt64) * 31 + (zI 0).toInt64
theorem mdg_class : dgA vk0 (fun _ => false) (fun _ => []) vr0 = mdg9 := by decide +kernel
set_option maxHeartbeats 4000000 in
set_option maxRecDepth 100000 in
theorem m_digest (l : Launch) (G : mq_G) (hA : pA G) (Mb : Nat → Nat) (hb : mb_inj Mb) (t0 : Int) (M : mq_M) (hD : mdI G M Mb t0) : mq_T l yX12_digest wsX12_digest { frames := 5, cells := 0, slots := 0, locals := 120 } G [.ref (Mb 0)] M (mq_pl (fun r M2 => r = mdg9 ∧ mdQ M M2 Mb 0)) 0 0 := by
  refine mq_Met.of (cc := cX12_digest) (maxL := 5) (ret := (some .long)) (by decide) rfl (Nat.le_of_ble_eq_true rfl) rfl rfl ?_
  intro p_ e_ s_ m_ args_ below_ meth_ c_ z_ C hr hlk hname
  refine xr_aload_n C dX12_digest_0 rfl ?_
  refine xr_iconst (n := 0) C dX12_digest_1 (by decide +kernel) ?_
  refine xr_put C (Cn := RX12) (T := TX12) (N := 25) (by decide +kernel) hD.1 rfl 0 (by decide) tyX12 tyX12_ok nmX12 (C.1.2.2.2.2 (.fieldLink RX12 59 "OssuaryVaultModel" "thrown" "I") (by decide +kernel)) (fun _ h => h) rfl (tyX12_ok 0 (by decide)) rfl rfl (Nat.le_of_ble_eq_true rfl) dX12_digest_2 ?_
  refine mq_ren (fun M1 hM1 => ?_)
  have hD1 : mdI G M1 Mb 0 := hD.th hb hM1
  have hO1 : M1 (Mb 39) = M (Mb 39) := by rw [hM1, mq_up_n (mb_ne hb (by decide) (by decide) (by decide))]
  obtain ⟨d0, d1, d2, d3, d4, ⟨f5, d5, d5b⟩, ⟨s1, d6, d6b⟩, d14⟩ := id hD1
  refine xr_ldc2 (k0 := (76663)) C (C.1.2.2.2.2 (.constantLong RX12 257 (76663)) (by decide +kernel)) dX12_digest_5 ?_
  refine xr_aload_n C dX12_digest_8 rfl ?_
  refine xr_get C (Cn := RX12) (T := TX12) (N := 25) (by decide +kernel) hD1.1 rfl 3 (by decide) (C.1.2.2.2.2 (.fieldLink RX12 95 "OssuaryVaultModel" "files" "I") (by decide +kernel)) (fun _ h => h) rfl dX12_digest_9 ?_
  refine xr_i2l C dX12_digest_12 ?_
  refine xr_ladd C dX12_digest_13 ?_
  refine xr_ldc2 (k0 := (31)) C (C.1.2.2.2.2 (.constantLong RX12 259 (31)) (by decide +kernel)) dX12_digest_14 ?_
  refine xr_lmul C dX12_digest_17 ?_
  refine xr_aload_n C dX12_digest_18 rfl ?_
  refine xr_callV0i C (m_streamSize l G Mb hb 0 M1 hD1) (cwV 0 C.1.2.2.2.2 gX12_digest_X12_streamSize rfl rfl rfl (by decide +kernel) ⟨Nat.le_of_ble_eq_true rfl, Nat.le_of_ble_eq_true rfl⟩) hD1.1 rfl (Nat.le_of_ble_eq_true rfl) ⟨by dsimp only; omega, by dsimp only; omega⟩ dX12_digest_19 (fun r2 M9 hp9 => ?_)
  obtain ⟨rfl, rfl⟩ := hp9
  refine xr_i2l C dX12_digest_22 ?_
  refine xr_ladd C dX12_digest_23 ?_
  refine xr_lstore_n C dX12_digest_24 (by decide) rfl ?_
  refine xr_iconst (n := 0) C dX12_digest_25 (by decide +kernel) ?_
  refine xr_istore_n C dX12_digest_26 (by decide) rfl ?_
  refine xr_iload_n C dX12_digest_27 rfl ?_
  refine xr_aload_n C dX12_digest_28 rfl ?_
  refine xr_get C (Cn := RX12) (T := TX12) (N := 25) (by decide +kernel) hD1.1 rfl 3 (by decide) (C.1.2.2.2.2 (.fieldLink RX12 95 "OssuaryVaultModel" "files" "I") (by decide +kernel)) (fun _ h => h) rfl dX12_digest_29 ?_
  refine xr_icmp_ge C dX12_digest_32 rfl (by first | omega | (dsimp only; omega)) (by first | omega | (dsimp only; omega)) (fun _ => ?_) (fun hq => absurd hq (by omega))
  refine xr_aload_n C dX12_digest_111 rfl ?_
  refine xr_callV0v C (m_look l G hA Mb hb 0 M1 hD1) (cwV 0 C.1.2.2.2.2 gX12_digest_X12_look rfl rfl rfl (by decide +kernel) ⟨Nat.le_of_ble_eq_true rfl, Nat.le_of_ble_eq_true rfl⟩) hD1.1 rfl (Nat.le_of_ble_eq_true rfl) ⟨by dsimp only; omega, by dsimp only; omega⟩ dX12_digest_112 (fun M8 hp8 => ?_)
  obtain ⟨k0, k1, k2, k3⟩ := hp8
  have n39 : Mb 39 ∉ [Mb 0, Mb 14, Mb 15] := fun hm => by
    simp only [List.mem_cons, List.not_mem_nil, or_false] at hm
    rcases hm with h | h | h
    · exact mb_ne hb (by decide) (by decide) (by decide) h
    · exact mb_ne hb (by decide) (by decide) (by decide) h
    · exact mb_ne hb (by decide) (by decide) (by decide) h
  obtain ⟨gz, k1a, k1b⟩ := k1
  obtain ⟨gn, k2a, k2b⟩ := k2
  have nf : ∀ i, mbU i = true → i ≠ 0 → i ≠ 14 → i ≠ 15 → Mb i ∉ [Mb 0, Mb 14, Mb 15] := fun i hi n0 n1 n2 hm => by
    simp only [List.mem_cons, List.not_mem_nil, or_false] at hm
    rcases hm with h | h | h
    · exact mb_ne hb hi (by decide) n0 h
    · exact mb_ne hb hi (by decide) n1 h
    · exact mb_ne hb hi (by decide) n2 h
  have k6 := (k3 _ (nf 6 (by decide) (by decide) (by decide) (by decide))).trans d6
  refine xr_iconst (n := 0) C dX12_digest_115 (by decide +kernel) ?_
  refine xr_istore_n C dX12_digest_116 (by decide) rfl ?_
  refine mq_loop (σ := Nat) (fun y => y ≤ 16) (fun y => 16 - y) (fun y => M8) (fun y => [some (.ref (Mb 0)), some (.long (mdg y)), none, some (.int (zI (y : Int))), none]) (fun y => []) ?_ 0 (by decide)
  rintro i hi ih
  try dsimp only at ih ⊢
  refine xr_iload_n C dX12_digest_117 rfl ?_
  refine xr_bipush (n := 16) C dX12_digest_118 (by decide +kernel) ?_
  refine xr_icmp_ge C dX12_digest_120 rfl (by first | omega | (dsimp only; omega)) (by first | omega | (dsimp only; omega)) (fun hq3 => ?_) (fun hq3 => ?_)
  · have hi16 : i = 16 := by omega
    subst hi16
    refine xr_lload_n C dX12_digest_212 rfl ?_
    refine xr_ldc2 (k0 := (31)) C (C.1.2.2.2.2 (.constantLong RX12 259 (31)) (by decide +kernel)) dX12_digest_213 ?_
    refine xr_lmul C dX12_digest_216 ?_
    refine xr_aload_n C dX12_digest_217 rfl ?_
    refine xr_get C (Cn := RX12) (T := TX12) (N := 25) (by decide +kernel) k0 rfl 23 (by decide) (C.1.2.2.2.2 (.fieldLink RX12 184 "OssuaryVaultModel" "leader" "I") (by decide +kernel)) (fun _ h => h) rfl dX12_digest_218 ?_
    refine xr_i2l C dX12_digest_221 ?_
    refine xr_ladd C dX12_digest_222 ?_
    refine xr_ldc2 (k0 := (31)) C (C.1.2.2.2.2 (.constantLong RX12 259 (31)) (by decide +kernel)) dX12_digest_223 ?_
    refine xr_lmul C dX12_digest_226 ?_
    refine xr_aload_n C dX12_digest_227 rfl ?_
    refine xr_get C (Cn := RX12) (T := TX12) (N := 25) (by decide +kernel) k0 rfl 24 (by decide) (C.1.2.2.2.2 (.fieldLink RX12 187 "OssuaryVaultModel" "present" "I") (by decide +kernel)) (fun _ h => h) rfl dX12_digest_228 ?_
    refine xr_i2l C dX12_digest_231 ?_
    refine xr_ladd C dX12_digest_232 ?_
    refine xr_ldc2 (k0 := (31)) C (C.1.2.2.2.2 (.constantLong RX12 259 (31)) (by decide +kernel)) dX12_digest_233 ?_
    refine xr_lmul C dX12_digest_236 ?_
    refine xr_aload_n C dX12_digest_237 rfl ?_
    refine xr_callV0i C (m_spareNow l G M8 (Mb 0) _ Mb k0) (cwV 0 C.1.2.2.2.2 gX12_digest_X12_spareNow rfl rfl rfl (by decide +kernel) ⟨Nat.le_of_ble_eq_true rfl, Nat.le_of_ble_eq_true rfl⟩) k0 rfl (Nat.le_of_ble_eq_true rfl) ⟨by dsimp only; omega, by dsimp only; omega⟩ dX12_digest_238 (fun r4 M9 hp9 => ?_)
    obtain ⟨rfl, rfl⟩ := hp9
    refine xr_i2l C dX12_digest_241 ?_
    refine xr_ladd C dX12_digest_242 ?_
    refine xr_ldc2 (k0 := (31)) C (C.1.2.2.2.2 (.constantLong RX12 259 (31)) (by decide +kernel)) dX12_digest_243 ?_
    refine xr_lmul C dX12_digest_246 ?_
    refine xr_aload_n C dX12_digest_247 rfl ?_
    refine xr_get C (Cn := RX12) (T := TX12) (N := 25) (by decide +kernel) k0 rfl 9 (by decide) (C.1.2.2.2.2 (.fieldLink RX12 164 "OssuaryVaultModel" "isOpen" "Z") (by decide +kernel)) (fun _ h => h) rfl dX12_digest_248 ?_
    refine xr_if_eq C dX12_digest_251 rfl (by decide) (fun _ => ?_) (fun hq => absurd hq (by decide))
    refine xr_iconst (n := 0) C dX12_digest_258 (by decide +kernel) ?_
    refine xr_i2l C dX12_digest_259 ?_
    refine xr_ladd C dX12_digest_260 ?_
    refine xr_lstore_n C dX12_digest_261 (by decide) rfl ?_
    refine xr_aload_n C dX12_digest_262 rfl ?_
    refine xr_get C (Cn := RX12) (T := TX12) (N := 25) (by decide +kernel) k0 rfl 9 (by decide) (C.1.2.2.2.2 (.fieldLink RX12 164 "OssuaryVaultModel" "isOpen" "Z") (by decide +kernel)) (fun _ h => h) rfl dX12_digest_263 ?_
    refine xr_if_ne C dX12_digest_266 rfl (by decide) (fun hq => absurd hq (by decide)) (fun _ => ?_)
    refine xr_lload_n C dX12_digest_269 rfl ?_
    exact xr_lret C hr hlk ⟨_, rfl, rfl, ⟨_, k0⟩, (k3 _ n39).trans hO1⟩ (by omega) (by omega) dX12_digest_270
  · have hil : i < 16 := by omega
    refine xr_lload_n C dX12_digest_123 rfl ?_
    refine xr_ldc2 (k0 := (31)) C (C.1.2.2.2.2 (.constantLong RX12 259 (31)) (by decide +kernel)) dX12_digest_124 ?_
    refine xr_lmul C dX12_digest_127 ?_
    refine xr_aload_n C dX12_digest_128 rfl ?_
    refine xr_get C (Cn := RX12) (T := TX12) (N := 25) (by decide +kernel) k0 rfl 8 (by decide) (C.1.2.2.2.2 (.fieldLink RX12 28 "OssuaryVaultModel" "sizes" "[I") (by decide +kernel)) (fun _ h => h) rfl dX12_digest_129 ?_
    refine xr_iload_n C dX12_digest_132 rfl ?_
    refine xr_iald C k6 mq_tI (by omega) (by show (i : Int) < (16 : Int); omega) (by first | omega | (dsimp only; omega)) dX12_digest_133 ?_
    rw [Int.toNat_natCast, d6b i hil]
    refine xr_i2l C dX12_digest_134 ?_
    refine xr_ladd C dX12_digest_135 ?_
    refine xr_ldc2 (k0 := (31)) C (C.1.2.2.2.2 (.constantLong RX12 259 (31)) (by decide +kernel)) dX12_digest_136 ?_
    refine xr_lmul C dX12_digest_139 ?_
    refine xr_aload_n C dX12_digest_140 rfl ?_
    refine xr_get C (Cn := RX12) (T := TX12) (N := 25) (by decide +kernel) k0 rfl 21 (by decide) (C.1.2.2.2.2 (.fieldLink RX12 52 "OssuaryVaultModel" "sound" "[Z") (by decide +kernel)) (fun _ h => h) rfl dX12_digest_141 ?_
    refine xr_iload_n C dX12_digest_144 rfl ?_
    refine xr_zald C k1a hA.Z (by omega) (by omega) (by decide) dX12_digest_145 ?_
    rw [Int.toNat_natCast, k1b i hil]
    refine xr_if_eq C dX12_digest_146 rfl (by decide) (fun _ => ?_) (fun hq => absurd hq (by decide))
    refine xr_iconst (n := 0) C dX12_digest_153 (by decide +kernel) ?_
    refine xr_i2l C dX12_digest_154 ?_
    refine xr_ladd C dX12_digest_155 ?_
    refine xr_ldc2 (k0 := (31)) C (C.1.2.2.2.2 (.constantLong RX12 259 (31)) (by decide +kernel)) dX12_digest_156 ?_
    refine xr_lmul C dX12_digest_159 ?_
    refine xr_aload_n C dX12_digest_160 rfl ?_
    refine xr_get C (Cn := RX12) (T := TX12) (N := 25) (by decide +kernel) k0 rfl 22 (by decide) (C.1.2.2.2.2 (.fieldLink RX12 56 "OssuaryVaultModel" "numbers" "[I") (by decide +kernel)) (fun _ h => h) rfl dX12_digest_161 ?_
    refine xr_iload_n C dX12_digest_164 rfl ?_
    refine xr_iald C k2a mq_tI (by omega) (by show (i : Int) < (16 : Int); omega) (by first | omega | (dsimp only; omega)) dX12_digest_165 ?_
    rw [Int.toNat_natCast, k2b i hil]
    refine xr_i2l C dX12_digest_166 ?_
    refine xr_ladd C dX12_digest_167 ?_
    refine xr_lstore_n C dX12_digest_168 (by decide) rfl ?_
    refine xr_iconst (n := 0) C dX12_digest_169 (by decide +kernel) ?_
    refine xr_istore C dX12_digest_170 (by decide) rfl ?_
    refine xr_iload C dX12_digest_172 rfl ?_
    refine xr_aload_n C dX12_digest_174 rfl ?_
    refine xr_get C (Cn := RX12) (T := TX12) (N := 25) (by decide +kernel) k0 rfl 8 (by decide) (C.1.2.2.2.2 (.fieldLink RX12 28 "OssuaryVaultModel" "sizes" "[I") (by decide +kernel)) (fun _ h => h) rfl dX12_digest_175 ?_
    refine xr_iload_n C dX12_digest_178 rfl ?_
    refine xr_iald C k6 mq_tI (by omega) (by show (i : Int) < (16 : Int); omega) (by first | omega | (dsimp only; omega)) dX12_digest_179 ?_
    rw [Int.toNat_natCast, d6b i hil]
    refine xr_icmp_ge C dX12_digest_180 rfl (by decide) (by decide) (fun _ => ?_) (fun hq => absurd hq (by decide))
    refine xr_iinc C dX12_digest_206 rfl (by decide) rfl ?_
    refine xr_goto C dX12_digest_209 rfl ?_
    refine mq_drop 4 ?_
    exact ih (i + 1) (by omega) (by omega)
