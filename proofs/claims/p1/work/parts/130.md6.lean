set_option maxHeartbeats 4000000 in
set_option maxRecDepth 100000 in
theorem m_makeStream (l : Launch) (G : mq_G) (Mb : Nat → Nat) (hb : mb_inj Mb) (t0 : Int) (M : mq_M) (hD : mdI G M Mb t0) : mq_T l yX12_makeStream wsX12_makeStream { frames := 3, cells := 2, slots := 22, locals := 70 } G [.ref (Mb 0)] M (mq_pa (fun r M2 => M r = none ∧ (∃ f, rB G M2 r 6 f) ∧ ∀ z, M z ≠ none → M2 z = M z)) 2 22 := by
  refine mq_Met.of (cc := cX12_makeStream) (maxL := 7) (ret := (some (.array .int))) (by decide) rfl (Nat.le_of_ble_eq_true rfl) rfl rfl ?_
  intro p_ e_ s_ m_ args_ below_ meth_ c_ z_ C hr hlk hname
  refine xr_aload_n C dX12_makeStream_0 rfl ?_
  refine xr_callV0i C (m_streamSize l G Mb hb t0 M hD) (cwV 0 C.1.2.2.2.2 gX12_makeStream_X12_streamSize rfl rfl rfl (by decide +kernel) ⟨Nat.le_of_ble_eq_true rfl, Nat.le_of_ble_eq_true rfl⟩) hD.1 rfl (Nat.le_of_ble_eq_true rfl) ⟨by dsimp only; omega, by dsimp only; omega⟩ dX12_makeStream_1 (fun r1 M9 hp9 => ?_)
  obtain ⟨rfl, rfl⟩ := hp9
  refine xr_newI C (C.1.2.2.2.2 (.arrayClass .int) (by decide +kernel)) mq_tI (by omega) (by dsimp only; omega) (by dsimp only; omega) dX12_makeStream_4 (fun q2 hq2 => ?_)
  refine mq_ren (fun M3 hM3 => ?_)
  rw [show Int.toNat 6 = 6 from rfl] at hM3
  have r1 : rB G M3 q2 6 (fun _ => 0) := rB.new hM3
  have o1 : ∀ z, M z ≠ none → M3 z = M z := fun z hz => by rw [hM3, mq_up_n (fun e => hz (by rw [e]; exact hq2))]
  refine xr_astore_n C dX12_makeStream_6 (by decide) rfl ?_
  refine xr_bipush (n := 16) C dX12_makeStream_7 (by decide +kernel) ?_
  refine xr_newI C (C.1.2.2.2.2 (.arrayClass .int) (by decide +kernel)) mq_tI (by omega) (by dsimp only; omega) (by dsimp only; omega) dX12_makeStream_9 (fun q4 hq4 => ?_)
  refine mq_ren (fun M5 hM5 => ?_)
  have hab : q2 ≠ q4 := fun e => by rw [← e, r1.2] at hq4; cases hq4
  have r2 := r1.eq (M1 := M5) (by rw [hM5, mq_up_n hab])
  have o2 : ∀ z, M z ≠ none → M5 z = M z := fun z hz => by rw [hM5, mq_up_n (fun e => hz (by rw [← o1 z hz, e]; exact hq4))]; exact o1 z hz
  have y2 := (o2 (Mb 0) (by rw [hD.1]; simp)).trans hD.1
  refine xr_astore_n C dX12_makeStream_11 (by decide) rfl ?_
  refine xr_iconst (n := 0) C dX12_makeStream_12 (by decide +kernel) ?_
  refine xr_istore_n C dX12_makeStream_13 (by decide) rfl ?_
  refine xr_iconst (n := 0) C dX12_makeStream_14 (by decide +kernel) ?_
  refine xr_istore C dX12_makeStream_15 (by decide) rfl ?_
  refine xr_iload C dX12_makeStream_17 rfl ?_
  refine xr_aload_n C dX12_makeStream_19 rfl ?_
  refine xr_get C (Cn := RX12) (T := TX12) (N := 25) (by decide +kernel) y2 rfl 3 (by decide) (C.1.2.2.2.2 (.fieldLink RX12 95 "OssuaryVaultModel" "files" "I") (by decide +kernel)) (fun _ h => h) rfl dX12_makeStream_20 ?_
  refine xr_icmp_ge C dX12_makeStream_23 rfl (by first | omega | (dsimp only; omega)) (by first | omega | (dsimp only; omega)) (fun _ => ?_) (fun hq => absurd hq (by omega))
  refine xr_iload_n C dX12_makeStream_197 rfl ?_
  refine xr_istore C dX12_makeStream_198 (by decide) rfl ?_
  refine xr_iconst (n := 0) C dX12_makeStream_200 (by decide +kernel) ?_
  refine xr_istore C dX12_makeStream_201 (by decide) rfl ?_
  refine xr_iload C dX12_makeStream_203 rfl ?_
  refine xr_aload_n C dX12_makeStream_205 rfl ?_
  refine xr_get C (Cn := RX12) (T := TX12) (N := 25) (by decide +kernel) y2 rfl 3 (by decide) (C.1.2.2.2.2 (.fieldLink RX12 95 "OssuaryVaultModel" "files" "I") (by decide +kernel)) (fun _ h => h) rfl dX12_makeStream_206 ?_
  refine xr_icmp_ge C dX12_makeStream_209 rfl (by first | omega | (dsimp only; omega)) (by first | omega | (dsimp only; omega)) (fun _ => ?_) (fun hq => absurd hq (by omega))
  refine xr_aload_n C dX12_makeStream_258 rfl ?_
  refine xr_iload_n C dX12_makeStream_259 rfl ?_
  refine xr_bipush (n := 88) C dX12_makeStream_260 (by decide +kernel) ?_
  refine xr_iast C r2.2 mq_tI (by decide) (by decide) (by decide) dX12_makeStream_262 ?_
  refine mq_ren (fun M6 hM6 => ?_)
  rw [show Int.toNat 0 = 0 from rfl] at hM6
  have r3 := r2.set (v := 88) (by decide) hM6
  have na : ∀ z, M z ≠ none → z ≠ q2 := fun z hz e => hz (by rw [e]; exact hq2)
  have o3 : ∀ z, M z ≠ none → M6 z = M z := fun z hz => by rw [hM6, mq_up_n (na z hz)]; exact o2 z hz
  have y3 := (o3 (Mb 0) (by rw [hD.1]; simp)).trans hD.1
  refine xr_aload_n C dX12_makeStream_263 rfl ?_
  refine xr_iload_n C dX12_makeStream_264 rfl ?_
  refine xr_iconst (n := 1) C dX12_makeStream_265 (by decide +kernel) ?_
  refine xr_iadd C dX12_makeStream_266 ?_
  refine xr_aload_n C dX12_makeStream_267 rfl ?_
  refine xr_get C (Cn := RX12) (T := TX12) (N := 25) (by decide +kernel) y3 rfl 3 (by decide) (C.1.2.2.2.2 (.fieldLink RX12 95 "OssuaryVaultModel" "files" "I") (by decide +kernel)) (fun _ h => h) rfl dX12_makeStream_268 ?_
  refine xr_iast C r3.2 mq_tI (by decide) (by decide) (by decide) dX12_makeStream_271 ?_
  refine mq_ren (fun M7 hM7 => ?_)
  rw [show Int.toNat (0 + 1) = 1 from rfl] at hM7
  have r4 := r3.set (v := 0) (by decide) hM7
  have o4 : ∀ z, M z ≠ none → M7 z = M z := fun z hz => by rw [hM7, mq_up_n (na z hz)]; exact o3 z hz
  refine xr_aload_n C dX12_makeStream_272 rfl ?_
  refine xr_iload_n C dX12_makeStream_273 rfl ?_
  refine xr_iconst (n := 2) C dX12_makeStream_274 (by decide +kernel) ?_
  refine xr_iadd C dX12_makeStream_275 ?_
  refine xr_iload C dX12_makeStream_276 rfl ?_
  refine xr_callS3v C (m_setWord l G M7 q2 6 _ r4 (by decide) 2 0 (by decide) (by decide)) (cwS 3 C.1.2.2.2.2 gX12_makeStream_X12_setWord rfl rfl rfl (by decide +kernel) ⟨Nat.le_of_ble_eq_true rfl, Nat.le_of_ble_eq_true rfl⟩) (Nat.le_of_ble_eq_true rfl) ⟨by dsimp only; omega, by dsimp only; omega⟩ dX12_makeStream_278 (fun M31 hp9 => ?_)
  obtain ⟨⟨f5, r5⟩, hF5⟩ := hp9
  have o5 : ∀ z, M z ≠ none → M31 z = M z := fun z hz => (hF5 z (by simp [na z hz])).trans (o4 z hz)
  refine xr_aload_n C dX12_makeStream_281 rfl ?_
  refine xr_iload_n C dX12_makeStream_282 rfl ?_
  refine xr_iconst (n := 4) C dX12_makeStream_283 (by decide +kernel) ?_
  refine xr_iadd C dX12_makeStream_284 ?_
  refine xr_aload_n C dX12_makeStream_285 rfl ?_
  refine xr_iload C dX12_makeStream_286 rfl ?_
  refine xr_iload_n C dX12_makeStream_288 rfl ?_
  refine xr_callS3i C (m_check l G M31 q2 6 f5 r5 (by decide) 0 0 (by decide)) (cwS 3 C.1.2.2.2.2 gX12_makeStream_X12_check rfl rfl rfl (by decide +kernel) ⟨Nat.le_of_ble_eq_true rfl, Nat.le_of_ble_eq_true rfl⟩) (Nat.le_of_ble_eq_true rfl) ⟨by dsimp only; omega, by dsimp only; omega⟩ dX12_makeStream_289 (fun r9 M9 hp9 => ?_)
  obtain ⟨⟨t9, rfl, ht9⟩, rfl⟩ := hp9
  refine xr_callS3v C (m_setWord l G M31 q2 6 f5 r5 (by decide) 4 t9 (by decide) ht9) (cwS 3 C.1.2.2.2.2 gX12_makeStream_X12_setWord rfl rfl rfl (by decide +kernel) ⟨Nat.le_of_ble_eq_true rfl, Nat.le_of_ble_eq_true rfl⟩) (Nat.le_of_ble_eq_true rfl) ⟨by dsimp only; omega, by dsimp only; omega⟩ dX12_makeStream_292 (fun M32 hp9 => ?_)
  obtain ⟨⟨f6, r6⟩, hF6⟩ := hp9
  have o6 : ∀ z, M z ≠ none → M32 z = M z := fun z hz => (hF6 z (by simp [na z hz])).trans (o5 z hz)
  refine xr_aload_n C dX12_makeStream_295 rfl ?_
  exact xr_aret (v := some q2) C hr (Or.inr ⟨_, rfl⟩) hlk ⟨_, rfl, hq2, ⟨f6, r6⟩, o6⟩ (by omega) (by omega) dX12_makeStream_296
set_option maxHeartbeats 4000000 in
set_option maxRecDepth 100000 in
theorem m_isAs (l : Launch) (G : mq_G) (Mb : Nat → Nat) (M : mq_M) (t : Int) (hY : M (Mb 0) = some (.inr (11, .int (zI t) :: mYt Mb))) (s1 : Nat → Int32) (hs : M (Mb 6) = some (.inl (G.2.1, 16, .inl s1))) (i : Nat) (hi : i < 16) (he : s1 i = zI (-1)) (x n : Nat) (f : Nat → Nat) (hB : rB G M x n f) (hn : n < 100000) : mq_T l yX12_isAs wsX12_isAs { frames := 0, cells := 0, slots := 0, locals := 0 } G [.ref (Mb 0), .int (zI (i : Int)), .ref x] M (mq_ri M 0) 0 0 := by
  refine mq_Met.of (cc := cX12_isAs) (maxL := 4) (ret := (some .boolean)) (by decide) rfl (Nat.le_of_ble_eq_true rfl) rfl rfl ?_
  intro p_ e_ s_ m_ args_ below_ meth_ c_ z_ C hr hlk hname
  refine xr_aload_n C dX12_isAs_0 rfl ?_
  refine xr_get C (Cn := RX12) (T := TX12) (N := 25) (by decide +kernel) hY rfl 8 (by decide) (C.1.2.2.2.2 (.fieldLink RX12 28 "OssuaryVaultModel" "sizes" "[I") (by decide +kernel)) (fun _ h => h) rfl dX12_isAs_1 ?_
  refine xr_iload_n C dX12_isAs_4 rfl ?_
  refine xr_iald C hs mq_tI (by omega) (by show (i : Int) < (16 : Int); omega) (by first | omega | (dsimp only; omega)) dX12_isAs_5 ?_
  rw [Int.toNat_natCast, he]
  refine xr_aload_n C dX12_isAs_6 rfl ?_
  refine xr_alen C hB.2 mq_tI dX12_isAs_7 ?_
  refine xr_icmp_eq C dX12_isAs_8 rfl (by first | omega | (dsimp only; omega)) (by first | omega | (dsimp only; omega)) (fun hq => absurd hq (by dsimp only at hq; omega)) (fun _ => ?_)
  refine xr_iconst (n := 0) C dX12_isAs_11 (by decide +kernel) ?_
  exact xr_zret C hr (by decide +kernel) hlk ⟨_, rfl, rfl, rfl⟩ (by omega) (by omega) dX12_isAs_12
set_option maxHeartbeats 4000000 in
set_option maxRecDepth 100000 in
theorem m_putVolumes (l : Launch) (G : mq_G) (sb sn : Nat) (sx : Nat → Int32) (hG : pG G sb sn sx) (hA : pA G) (Mb : Nat → Nat) (hb : mb_inj Mb) (t0 : Int) (M : mq_M) (hD : mdI G M Mb t0) (a : Nat) (f : Nat → Nat) (hB : rB G M a 6 f) (ha : ∀ i, i < 7 → a ≠ Mb i) (h39 : M (Mb 39) ≠ none) (dn pn : Nat) (hdn : 1 ≤ dn ∧ dn ≤ 10) (hpn : pn ≤ 6) : mq_T l yX12_putVolumes wsX12_putVolumes { frames := 4, cells := 16, slots := 256, locals := 98 } G [.ref (Mb 0), .ref a, .int (zI (dn : Int)), .int (zI (pn : Int))] M (mq_pi (fun r M2 => M2 (Mb 0) = some (.inr (11, .int (zI t0) :: mYt Mb)) ∧ rB G M2 a 6 f ∧ M2 (Mb 39) = M (Mb 39))) 16 256 := by
  refine mq_Met.of (cc := cX12_putVolumes) (maxL := 7) (ret := (some .int)) (by decide) rfl (Nat.le_of_ble_eq_true rfl) rfl rfl ?_
  intro p_ e_ s_ m_ args_ below_ meth_ c_ z_ C hr hlk hname
  obtain ⟨d0, d1, d2, d3, d4, ⟨f5, d5, d5b⟩, ⟨s1, d6, d6b⟩, d14⟩ := id hD
  have hold := hG.old C
  refine xr_iconst (n := 0) C dX12_putVolumes_0 (by decide +kernel) ?_
  refine xr_istore C dX12_putVolumes_1 (by decide) rfl ?_
  refine xr_iconst (n := 0) C dX12_putVolumes_3 (by decide +kernel) ?_
  refine xr_istore C dX12_putVolumes_4 (by decide) rfl ?_
  refine mq_loopK (σ := Nat × Int × mq_M × (Nat → Option Nat) × (Nat → Int32)) (fun y => y.1 ≤ 16 ∧ 0 ≤ y.2.1 ∧ y.2.1 ≤ y.1 ∧ y.2.2.1 (Mb 0) = some (.inr (11, .int (zI t0) :: mYt Mb)) ∧ y.2.2.1 (Mb 5) = some (.inl (gA G, 16, .inr (.inr (.inr (.inr y.2.2.2.1))))) ∧ y.2.2.1 (Mb 6) = some (.inl (G.2.1, 16, .inl y.2.2.2.2)) ∧ (∀ j, y.1 ≤ j → j < 16 → y.2.2.2.2 j = zI (-1)) ∧ rB G y.2.2.1 a 6 f ∧ y.2.2.1 (Mb 39) = M (Mb 39)) (fun y => 16 - y.1) (fun y => y.1) (fun y => 16 * y.1) (fun y => y.2.2.1) (fun y => [some (.ref (Mb 0)), some (.ref a), some (.int (zI (dn : Int))), some (.int (zI (pn : Int))), some (.int (zI y.2.1)), some (.int (zI (y.1 : Int))), none]) (fun y => []) ?_ (0, 0, M, f5, s1) ⟨Nat.zero_le _, Int.le_refl _, Int.le_refl _, d0, d5, d6, (fun j _ hj => d6b j hj), hB, rfl⟩
  rintro ⟨i, ch, M3, g5, g6⟩ ⟨hi, hc0, hc1, k0, k5, k6, k7, k8, k9⟩ ih
  dsimp only at hi hc0 hc1 k0 k5 k6 k7 k8 k9 ih ⊢
  refine xr_iload C dX12_putVolumes_6 rfl ?_
  refine xr_bipush (n := 16) C dX12_putVolumes_8 (by decide +kernel) ?_
  refine xr_icmp_ge C dX12_putVolumes_10 rfl (by first | omega | (dsimp only; omega)) (by first | omega | (dsimp only; omega)) (fun hq1 => ?_) (fun hq1 => ?_)
  · refine xr_iload C dX12_putVolumes_109 rfl ?_
    exact xr_iret C hr hlk ⟨_, rfl, k0, k8, k9⟩ (by omega) (by omega) dX12_putVolumes_111
  · have hil : i < 16 := by omega
    refine xr_iload C dX12_putVolumes_13 rfl ?_
    refine xr_iload_n C dX12_putVolumes_15 rfl ?_
    refine xr_iload_n C dX12_putVolumes_16 rfl ?_
    refine xr_iadd C dX12_putVolumes_17 ?_
    refine xr_icmp_lt C dX12_putVolumes_18 rfl (by first | omega | (dsimp only; omega)) (by first | omega | (dsimp only; omega)) (fun hq2 => ?_) (fun hq2 => ?_)
    · refine xr_aload_n C dX12_putVolumes_53 rfl ?_
      refine xr_iload C dX12_putVolumes_54 rfl ?_
      refine xr_iload_n C dX12_putVolumes_56 rfl ?_
      refine xr_iload_n C dX12_putVolumes_57 rfl ?_
      refine xr_callS4a C (m_makeVolume l G M3 a f k8 i dn pn (by omega) hdn hpn) (cwS 4 C.1.2.2.2.2 gX12_putVolumes_X12_makeVolume rfl rfl rfl (by decide +kernel) ⟨Nat.le_of_ble_eq_true rfl, Nat.le_of_ble_eq_true rfl⟩) (Nat.le_of_ble_eq_true rfl) ⟨by dsimp only; omega, by dsimp only; omega⟩ dX12_putVolumes_58 (fun r9 M9 hp9 => ?_)
      obtain ⟨hr9, ⟨f9, q9⟩, o9⟩ := hp9
      obtain ⟨hn1, hn6⟩ := bdS_6 dn hdn.1 hdn.2
      have n9 : ∀ z, M3 z ≠ none → z ≠ r9 := fun z hz e => hz (by rw [e]; exact hr9)
      have p0 := (o9 _ (n9 _ (by rw [k0]; simp))).trans k0
      have p5 := (o9 _ (n9 _ (by rw [k5]; simp))).trans k5
      have p6 := (o9 _ (n9 _ (by rw [k6]; simp))).trans k6
      have p8 := k8.eq (o9 _ (n9 _ (by rw [k8.2]; simp)))
      have n5 : r9 ≠ Mb 5 := (n9 (Mb 5) (by rw [k5]; simp)).symm
      have n6 : r9 ≠ Mb 6 := (n9 (Mb 6) (by rw [k6]; simp)).symm
      have p39 : M9 (Mb 39) = M (Mb 39) := (o9 _ (n9 _ (by rw [k9]; exact h39))).trans k9
      refine xr_astore C dX12_putVolumes_61 (by decide) rfl ?_
      refine xr_iload C dX12_putVolumes_63 rfl ?_
      refine xr_aload_n C dX12_putVolumes_65 rfl ?_
      refine xr_iload C dX12_putVolumes_66 rfl ?_
      refine xr_aload C dX12_putVolumes_68 rfl ?_
      refine xr_callV2i C (m_isAs l G Mb M9 t0 p0 g6 p6 i hil (k7 i (Nat.le_refl _) hil) r9 _ f9 q9 (by omega)) (cwV 2 C.1.2.2.2.2 gX12_putVolumes_X12_isAs rfl rfl rfl (by decide +kernel) ⟨Nat.le_of_ble_eq_true rfl, Nat.le_of_ble_eq_true rfl⟩) p0 rfl (Nat.le_of_ble_eq_true rfl) ⟨by dsimp only; omega, by dsimp only; omega⟩ dX12_putVolumes_70 (fun r4 M9 hp9 => ?_)
      obtain ⟨rfl, rfl⟩ := hp9
      refine xr_if_eq C dX12_putVolumes_73 rfl (by decide) (fun _ => ?_) (fun hq => absurd hq (by decide))
      refine xr_iconst (n := 1) C dX12_putVolumes_80 (by decide +kernel) ?_
      refine xr_iadd C dX12_putVolumes_81 ?_
      refine xr_istore C dX12_putVolumes_82 (by decide) rfl ?_
      refine xr_aload_n C dX12_putVolumes_84 rfl ?_
      refine xr_get C (Cn := RX12) (T := TX12) (N := 25) (by decide +kernel) p0 rfl 7 (by decide) (C.1.2.2.2.2 (.fieldLink RX12 25 "OssuaryVaultModel" "volumes" "[[I") (by decide +kernel)) (fun _ h => h) rfl dX12_putVolumes_85 ?_
      refine xr_iload C dX12_putVolumes_88 rfl ?_
      refine xr_aload C dX12_putVolumes_90 rfl ?_
      refine xr_aastA C p5 hA.A hold.2.1 q9.2 mq_tI (by omega) (by show (i : Int) < (16 : Int); omega) (by decide) dX12_putVolumes_92 ?_
      refine mq_ren (fun M5 hM5 => ?_)
      rw [Int.toNat_natCast] at hM5
      have u0 := (show M5 (Mb 0) = M9 (Mb 0) by rw [hM5, mq_up_n (mb_ne hb (by decide) (by decide) (by decide))]).trans p0
      have u6 := (show M5 (Mb 6) = M9 (Mb 6) by rw [hM5, mq_up_n (mb_ne hb (by decide) (by decide) (by decide))]).trans p6
      have u9 := q9.eq (M1 := M5) (by rw [hM5, mq_up_n n5])
      refine xr_aload_n C dX12_putVolumes_93 rfl ?_
      refine xr_get C (Cn := RX12) (T := TX12) (N := 25) (by decide +kernel) u0 rfl 8 (by decide) (C.1.2.2.2.2 (.fieldLink RX12 28 "OssuaryVaultModel" "sizes" "[I") (by decide +kernel)) (fun _ h => h) rfl dX12_putVolumes_94 ?_
      refine xr_iload C dX12_putVolumes_97 rfl ?_
      refine xr_aload C dX12_putVolumes_99 rfl ?_
      refine xr_alen C u9.2 mq_tI dX12_putVolumes_101 ?_
      refine xr_iast C u6 mq_tI (by omega) (by show (i : Int) < (16 : Int); omega) (by first | omega | (dsimp only; omega)) dX12_putVolumes_102 ?_
      refine mq_ren (fun M6 hM6 => ?_)
      refine xr_iinc C dX12_putVolumes_103 rfl (by decide) rfl ?_
      refine xr_goto C dX12_putVolumes_106 rfl ?_
      rw [Int.toNat_natCast] at hM6
      refine mq_drop 6 ?_
      refine mq_widen (k := i + 1) (n := 16 * (i + 1)) (by omega) (by omega) ?_
      exact ih (i + 1, ch + 1, M6, va_up g5 i (some r9), upd g6 i (zI ((10 + bdS 6 dn : Nat) : Int))) ⟨by dsimp only; omega, by dsimp only; omega, by dsimp only; omega, (by dsimp only; rw [hM6, mq_up_n (mb_ne hb (by decide) (by decide) (by decide))]; exact u0), (by dsimp only; rw [hM6, mq_up_n (mb_ne hb (by decide) (by decide) (by decide)), hM5, mq_up_s]), (by dsimp only; rw [hM6, mq_up_s]), (fun j h1 h2 => by dsimp only at h1 ⊢; unfold upd; rw [if_neg (by omega)]; exact k7 j (by omega) h2), p8.eq (by dsimp only; rw [hM6, mq_up_n (ha 6 (by decide)), hM5, mq_up_n (ha 5 (by decide))]), (by dsimp only; rw [hM6, mq_up_n (mb_ne hb (by decide) (by decide) (by decide)), hM5, mq_up_n (mb_ne hb (by decide) (by decide) (by decide))]; exact p39)⟩ (by dsimp only; omega)
    · refine xr_iload C dX12_putVolumes_21 rfl ?_
      refine xr_aload_n C dX12_putVolumes_23 rfl ?_
      refine xr_get C (Cn := RX12) (T := TX12) (N := 25) (by decide +kernel) k0 rfl 8 (by decide) (C.1.2.2.2.2 (.fieldLink RX12 28 "OssuaryVaultModel" "sizes" "[I") (by decide +kernel)) (fun _ h => h) rfl dX12_putVolumes_24 ?_
      refine xr_iload C dX12_putVolumes_27 rfl ?_
      refine xr_iald C k6 mq_tI (by omega) (by show (i : Int) < (16 : Int); omega) (by first | omega | (dsimp only; omega)) dX12_putVolumes_29 ?_
      rw [Int.toNat_natCast, k7 i (Nat.le_refl _) hil]
      refine xr_iconst (n := (-1)) C dX12_putVolumes_30 (by decide +kernel) ?_
      refine xr_icmp_ne C dX12_putVolumes_31 rfl (by decide) (by decide) (fun hq => absurd hq (by decide)) (fun _ => ?_)
      refine xr_iconst (n := 0) C dX12_putVolumes_34 (by decide +kernel) ?_
      refine xr_goto C dX12_putVolumes_35 rfl ?_
      refine xr_iadd C dX12_putVolumes_39 ?_
      refine xr_istore C dX12_putVolumes_40 (by decide) rfl ?_
      refine xr_aload_n C dX12_putVolumes_42 rfl ?_
      refine xr_get C (Cn := RX12) (T := TX12) (N := 25) (by decide +kernel) k0 rfl 8 (by decide) (C.1.2.2.2.2 (.fieldLink RX12 28 "OssuaryVaultModel" "sizes" "[I") (by decide +kernel)) (fun _ h => h) rfl dX12_putVolumes_43 ?_
      refine xr_iload C dX12_putVolumes_46 rfl ?_
      refine xr_iconst (n := (-1)) C dX12_putVolumes_48 (by decide +kernel) ?_
      refine xr_iast C k6 mq_tI (by omega) (by show (i : Int) < (16 : Int); omega) (by first | omega | (dsimp only; omega)) dX12_putVolumes_49 ?_
      refine mq_ren (fun M3 hM3 => ?_)
      refine xr_goto C dX12_putVolumes_50 rfl ?_
      refine xr_iinc C dX12_putVolumes_103 rfl (by decide) rfl ?_
      refine xr_goto C dX12_putVolumes_106 rfl ?_
      rw [Int.toNat_natCast] at hM3
      refine mq_widen (k := i + 1) (n := 16 * (i + 1)) (by omega) (by omega) ?_
      exact ih (i + 1, ch + 0, M3, g5, upd g6 i (zI (-1))) ⟨by dsimp only; omega, by dsimp only; omega, by dsimp only; omega, (by dsimp only; rw [hM3, mq_up_n (mb_ne hb (by decide) (by decide) (by decide))]; exact k0), (by dsimp only; rw [hM3, mq_up_n (mb_ne hb (by decide) (by decide) (by decide))]; exact k5), (by dsimp only; rw [hM3, mq_up_s]), (fun j h1 h2 => by dsimp only at h1 ⊢; unfold upd; split; rfl; exact k7 j (by omega) h2), k8.eq (by dsimp only; rw [hM3, mq_up_n (ha 6 (by decide))]), (by dsimp only; rw [hM3, mq_up_n (mb_ne hb (by decide) (by decide) (by decide))]; exact k9)⟩ (by dsimp only; omega)
set_option maxHeartbeats 4000000 in
set_option maxRecDepth 100000 in
theorem m_build (l : Launch) (G : mq_G) (sb sn : Nat) (sx : Nat → Int32) (hG : pG G sb sn sx) (hA : pA G) (Mb : Nat → Nat) (hb : mb_inj Mb) (t0 : Int) (M : mq_M) (hD : mdI G M Mb t0) (h39 : M (Mb 39) ≠ none) (d : Int) (hdr : -2147483648 ≤ d ∧ d < 2147483648) (p : Int) (hpr : -2147483648 ≤ p ∧ p < 2147483648) : mq_T l yX12_build wsX12_build { frames := 5, cells := 18, slots := 278, locals := 124 } G [.ref (Mb 0), .int (zI d), .int (zI p)] M (mdR M Mb (if (1 ≤ d ∧ d ≤ 10) ∧ (0 ≤ p ∧ p ≤ 6) then 0 else 1) ((bdS 6 d.toNat : Nat))) 18 278 := by
  refine mq_Met.of (cc := cX12_build) (maxL := 4) (ret := (some .int)) (by decide) rfl (Nat.le_of_ble_eq_true rfl) rfl rfl ?_
  intro p_ e_ s_ m_ args_ below_ meth_ c_ z_ C hr hlk hname
  refine xr_aload_n C dX12_build_0 rfl ?_
  refine xr_iconst (n := 0) C dX12_build_1 (by decide +kernel) ?_
  refine xr_put C (Cn := RX12) (T := TX12) (N := 25) (by decide +kernel) hD.1 rfl 0 (by decide) tyX12 tyX12_ok nmX12 (C.1.2.2.2.2 (.fieldLink RX12 59 "OssuaryVaultModel" "thrown" "I") (by decide +kernel)) (fun _ h => h) rfl (tyX12_ok 0 (by decide)) rfl rfl (Nat.le_of_ble_eq_true rfl) dX12_build_2 ?_
  refine mq_ren (fun M1 hM1 => ?_)
  have hD1 : mdI G M1 Mb 0 := hD.th hb hM1
  have hO1 : M1 (Mb 39) = M (Mb 39) := by rw [hM1, mq_up_n (mb_ne hb (by decide) (by decide) (by decide))]
  refine xr_iload_n C dX12_build_5 rfl ?_
  refine xr_iconst (n := 1) C dX12_build_6 (by decide +kernel) ?_
  refine xr_bipush (n := 10) C dX12_build_7 (by decide +kernel) ?_
  refine xr_callS3i C (m_isIn l G M1 d hdr 1 (by decide) 10 (by decide)) (cwS 3 C.1.2.2.2.2 gX12_build_X12_isIn rfl rfl rfl (by decide +kernel) ⟨Nat.le_of_ble_eq_true rfl, Nat.le_of_ble_eq_true rfl⟩) (Nat.le_of_ble_eq_true rfl) ⟨by dsimp only; omega, by dsimp only; omega⟩ dX12_build_9 (fun r2 M9 hp9 => ?_)
  obtain ⟨rfl, rfl⟩ := hp9
  by_cases hc0 : 1 ≤ d ∧ d ≤ 10
  · rw [show (if 1 ≤ d ∧ d ≤ 10 then (1 : Int) else 0) = 1 from if_pos hc0]
    refine xr_if_eq C dX12_build_12 rfl (by decide) (fun hq => absurd hq (by decide)) (fun _ => ?_)
    refine xr_iload_n C dX12_build_15 rfl ?_
    refine xr_iconst (n := 0) C dX12_build_16 (by decide +kernel) ?_
    refine xr_bipush (n := 6) C dX12_build_17 (by decide +kernel) ?_
    refine xr_callS3i C (m_isIn l G M1 p hpr 0 (by decide) 6 (by decide)) (cwS 3 C.1.2.2.2.2 gX12_build_X12_isIn rfl rfl rfl (by decide +kernel) ⟨Nat.le_of_ble_eq_true rfl, Nat.le_of_ble_eq_true rfl⟩) (Nat.le_of_ble_eq_true rfl) ⟨by dsimp only; omega, by dsimp only; omega⟩ dX12_build_19 (fun r3 M9 hp9 => ?_)
    obtain ⟨rfl, rfl⟩ := hp9
    by_cases hc1 : 0 ≤ p ∧ p ≤ 6
    · rw [show (if 0 ≤ p ∧ p ≤ 6 then (1 : Int) else 0) = 1 from if_pos hc1]
      refine xr_if_ne C dX12_build_22 rfl (by decide) (fun _ => ?_) (fun hq => absurd hq (by decide))
      obtain ⟨d, rfl⟩ := Int.eq_ofNat_of_zero_le (show 0 ≤ d by omega)
      obtain ⟨p, rfl⟩ := Int.eq_ofNat_of_zero_le (show 0 ≤ p by omega)
      refine xr_aload_n C dX12_build_31 rfl ?_
      refine xr_callV0a C (m_makeStream l G Mb hb 0 M1 hD1) (cwV 0 C.1.2.2.2.2 gX12_build_X12_makeStream rfl rfl rfl (by decide +kernel) ⟨Nat.le_of_ble_eq_true rfl, Nat.le_of_ble_eq_true rfl⟩) hD1.1 rfl (Nat.le_of_ble_eq_true rfl) ⟨by dsimp only; omega, by dsimp only; omega⟩ dX12_build_32 (fun r3 M3 hp3 => ?_)
      obtain ⟨hr3, ⟨f3, q3⟩, o3⟩ := hp3
      have nn : ∀ i, i < 21 → i ≠ 7 → i ≠ 8 → i ≠ 9 → i ≠ 10 → i ≠ 11 → i ≠ 12 → i ≠ 13 → i ≠ 16 → i ≠ 17 → i ≠ 18 → i ≠ 19 → M1 (Mb i) ≠ none := fun i hi a1 a2 a3 a4 a5 a6 a7 a8 a9 a10 a11 => by
        obtain ⟨e0, ⟨_, e1⟩, ⟨_, e2⟩, ⟨_, e3⟩, ⟨_, e4, _⟩, ⟨_, e5, _⟩, ⟨_, e6, _⟩, ⟨_, e14⟩, ⟨_, e15⟩, ⟨_, e20⟩⟩ := id hD1
        have hc : i = 0 ∨ i = 1 ∨ i = 2 ∨ i = 3 ∨ i = 4 ∨ i = 5 ∨ i = 6 ∨ i = 14 ∨ i = 15 ∨ i = 20 := by omega
        rcases hc with h | h | h | h | h | h | h | h | h | h <;> subst h
        · rw [e0]; simp
        · rw [e1]; simp
        · rw [e2]; simp
        · rw [e3]; simp
        · rw [e4]; simp
        · rw [e5]; simp
        · rw [e6]; simp
        · rw [e14]; simp
        · rw [e15]; simp
        · rw [e20]; simp
      have h39a : M1 (Mb 39) ≠ none := by rw [hO1]; exact h39
      have hD3 : mdI G M3 Mb 0 := by
        unfold mdI
        rw [o3 _ (nn 0 (by decide) (by decide) (by decide) (by decide) (by decide) (by decide) (by decide) (by decide) (by decide) (by decide) (by decide) (by decide)), o3 _ (nn 1 (by decide) (by decide) (by decide) (by decide) (by decide) (by decide) (by decide) (by decide) (by decide) (by decide) (by decide) (by decide)), o3 _ (nn 2 (by decide) (by decide) (by decide) (by decide) (by decide) (by decide) (by decide) (by decide) (by decide) (by decide) (by decide) (by decide)), o3 _ (nn 3 (by decide) (by decide) (by decide) (by decide) (by decide) (by decide) (by decide) (by decide) (by decide) (by decide) (by decide) (by decide)), o3 _ (nn 4 (by decide) (by decide) (by decide) (by decide) (by decide) (by decide) (by decide) (by decide) (by decide) (by decide) (by decide) (by decide)), o3 _ (nn 5 (by decide) (by decide) (by decide) (by decide) (by decide) (by decide) (by decide) (by decide) (by decide) (by decide) (by decide) (by decide)), o3 _ (nn 6 (by decide) (by decide) (by decide) (by decide) (by decide) (by decide) (by decide) (by decide) (by decide) (by decide) (by decide) (by decide)), o3 _ (nn 14 (by decide) (by decide) (by decide) (by decide) (by decide) (by decide) (by decide) (by decide) (by decide) (by decide) (by decide) (by decide)), o3 _ (nn 15 (by decide) (by decide) (by decide) (by decide) (by decide) (by decide) (by decide) (by decide) (by decide) (by decide) (by decide) (by decide)), o3 _ (nn 20 (by decide) (by decide) (by decide) (by decide) (by decide) (by decide) (by decide) (by decide) (by decide) (by decide) (by decide) (by decide))]
        exact hD1
      have hO3 : M3 (Mb 39) = M (Mb 39) := (o3 _ h39a).trans hO1
      have hr40 : ∀ i, i < 7 → r3 ≠ Mb i := fun i hi e => nn i (by omega) (by omega) (by omega) (by omega) (by omega) (by omega) (by omega) (by omega) (by omega) (by omega) (by omega) (by omega) (by rw [← e]; exact hr3)
      refine xr_astore_n C dX12_build_35 (by decide) rfl ?_
      refine xr_aload_n C dX12_build_36 rfl ?_
      refine xr_aload_n C dX12_build_37 rfl ?_
      refine xr_iload_n C dX12_build_38 rfl ?_
      refine xr_iload_n C dX12_build_39 rfl ?_
      refine xr_callV3i C (m_putVolumes l G sb sn sx hG hA Mb hb 0 M3 hD3 r3 f3 q3 hr40 (by rw [hO3]; exact h39) d p (by omega) (by omega)) (cwV 3 C.1.2.2.2.2 gX12_build_X12_putVolumes rfl rfl rfl (by decide +kernel) ⟨Nat.le_of_ble_eq_true rfl, Nat.le_of_ble_eq_true rfl⟩) hD3.1 rfl (Nat.le_of_ble_eq_true rfl) ⟨by dsimp only; omega, by dsimp only; omega⟩ dX12_build_40 (fun r4 M4 hp4 => ?_)
      obtain ⟨k0, k8, k9⟩ := hp4
      refine xr_pop C dX12_build_43 rfl ?_
      refine xr_aload_n C dX12_build_44 rfl ?_
      refine xr_iconst (n := 0) C dX12_build_45 (by decide +kernel) ?_
      refine xr_put C (Cn := RX12) (T := TX12) (N := 25) (by decide +kernel) k0 rfl 9 (by decide) tyX12 tyX12_ok nmX12 (C.1.2.2.2.2 (.fieldLink RX12 164 "OssuaryVaultModel" "isOpen" "Z") (by decide +kernel)) (fun _ h => h) rfl (tyX12_ok 9 (by decide)) rfl rfl (Nat.le_of_ble_eq_true rfl) dX12_build_46 ?_
      refine mq_ren (fun M4 hM4 => ?_)
      have u8 := k8.eq (M1 := M4) (by rw [hM4, mq_up_n (hr40 0 (by decide))])
      refine xr_aload_n C dX12_build_49 rfl ?_
      refine xr_alen C u8.2 mq_tI dX12_build_50 ?_
      refine xr_iload_n C dX12_build_51 rfl ?_
      refine xr_callS2i C (m_bodySize l G M4 6 d (by decide) (by omega)) (cwS 2 C.1.2.2.2.2 gX12_build_X12_bodySize rfl rfl rfl (by decide +kernel) ⟨Nat.le_of_ble_eq_true rfl, Nat.le_of_ble_eq_true rfl⟩) (Nat.le_of_ble_eq_true rfl) ⟨by dsimp only; omega, by dsimp only; omega⟩ dX12_build_52 (fun r5 M9 hp9 => ?_)
      obtain ⟨rfl, rfl⟩ := hp9
      exact xr_iret C hr hlk ⟨_, rfl, by rw [if_pos (by omega)]; exact ⟨fun _ => by simp, ⟨_, by rw [hM4, mq_up_s]; rfl⟩, by rw [hM4, mq_up_n (mb_ne hb (by decide) (by decide) (by decide))]; exact k9.trans hO3⟩⟩ (by omega) (by omega) dX12_build_55
    · rw [show (if 0 ≤ p ∧ p ≤ 6 then (1 : Int) else 0) = 0 from if_neg hc1]
      refine xr_if_ne C dX12_build_22 rfl (by decide) (fun hq => absurd hq (by decide)) (fun _ => ?_)
      refine xr_aload_n C dX12_build_25 rfl ?_
      refine xr_iconst (n := 1) C dX12_build_26 (by decide +kernel) ?_
      refine xr_callV1i C (m_no l G Mb hb 0 M1 hD1 1) (cwV 1 C.1.2.2.2.2 gX12_build_X12_no rfl rfl rfl (by decide +kernel) ⟨Nat.le_of_ble_eq_true rfl, Nat.le_of_ble_eq_true rfl⟩) hD1.1 rfl (Nat.le_of_ble_eq_true rfl) ⟨by dsimp only; omega, by dsimp only; omega⟩ dX12_build_27 (fun r9 M9 hp9 => ?_)
      obtain ⟨rfl, hD9, hO9⟩ := hp9
      exact xr_iret C hr hlk ⟨_, rfl, by rw [if_neg (by omega)]; exact ⟨fun h => absurd h (by decide), mdQ.of hD9 (hO9.trans hO1)⟩⟩ (by omega) (by omega) dX12_build_30
  · rw [show (if 1 ≤ d ∧ d ≤ 10 then (1 : Int) else 0) = 0 from if_neg hc0]
    refine xr_if_eq C dX12_build_12 rfl (by decide) (fun _ => ?_) (fun hq => absurd hq (by decide))
    refine xr_aload_n C dX12_build_25 rfl ?_
    refine xr_iconst (n := 1) C dX12_build_26 (by decide +kernel) ?_
    refine xr_callV1i C (m_no l G Mb hb 0 M1 hD1 1) (cwV 1 C.1.2.2.2.2 gX12_build_X12_no rfl rfl rfl (by decide +kernel) ⟨Nat.le_of_ble_eq_true rfl, Nat.le_of_ble_eq_true rfl⟩) hD1.1 rfl (Nat.le_of_ble_eq_true rfl) ⟨by dsimp only; omega, by dsimp only; omega⟩ dX12_build_27 (fun r9 M9 hp9 => ?_)
    obtain ⟨rfl, hD9, hO9⟩ := hp9
    exact xr_iret C hr hlk ⟨_, rfl, by rw [if_neg (by omega)]; exact ⟨fun h => absurd h (by decide), mdQ.of hD9 (hO9.trans hO1)⟩⟩ (by omega) (by omega) dX12_build_30
