/-! ===== p1: the reference's constructor ===== -/
def mdP (i : Nat) : Nat := if i = 0 then 0 else if i = 20 then 13 else if 4 ≤ i then 16 - i else 17 - i
/-- the places of the reference that its constructor fills -/
def mdU (i : Nat) : Bool := decide (i < 16) || i == 20
theorem mdP_inj : ∀ i, i < 21 → ∀ j, j < 21 → mdU i = true → mdU j = true → mdP i = mdP j → i = j := by decide +kernel
theorem mdP_lt : ∀ i, i < 21 → mdU i = true → mdP i < 17 := by decide +kernel
theorem mdU_lt {i : Nat} (h : mdU i = true) : i < 21 := by
  unfold mdU at h
  simp at h
  omega
theorem getD_inj {l : List Nat} (hn : l.Nodup) {i j : Nat} (hi : i < l.length) (hj : j < l.length) (h : l.getD i 0 = l.getD j 0) : i = j := by
  rw [List.getD_eq_getElem?_getD, List.getD_eq_getElem?_getD, List.getElem?_eq_getElem hi, List.getElem?_eq_getElem hj] at h
  have hp := List.pairwise_iff_getElem.mp hn
  rcases Nat.lt_trichotomy i j with h1 | h1 | h1
  · exact absurd (show l[i] = l[j] from h) (hp i j hi hj h1)
  · exact h1
  · exact absurd (show l[j] = l[i] from h.symm) (hp j i hj hi h1)
/-- a new reference, its cells by g -/
def mdN (G : mq_G) (M M2 : mq_M) (x : Nat) (g : Nat → Nat) : Prop :=
  g 0 = x ∧ (∀ Mb : Nat → Nat, (∀ i, mdU i = true → Mb i = g i) → mdI G M2 Mb 0) ∧ (∀ i j, mdU i = true → mdU j = true → g i = g j → i = j) ∧ (∀ i, mdU i = true → M2 (g i) ≠ none) ∧ (∀ i, mdU i = true → i ≠ 0 → M (g i) = none) ∧ iq_K x M M2
set_option maxHeartbeats 4000000 in
set_option maxRecDepth 100000 in
theorem c_minit (l : Launch) (G : mq_G) (sb sn : Nat) (sx : Nat → Int32) (hG : pG G sb sn sx) (hA : pA G) (x : Nat) (M : mq_M) (hM : M x = some (.inr (11, [.int 0, .null, .int 0, .int 0, .null, .null, .null, .null, .null, .int 0, .int 0, .int 0, .null, .int 0, .int 0, .null, .null, .null, .null, .null, .null, .null, .null, .int 0, .int 0]))) : mq_T l yX12_init wsX12_init { frames := 1, cells := 33, slots := 5500, locals := 12 } G [.ref x] M (mq_pv (fun M2 => ∃ g : Nat → Nat, mdN G M M2 x g)) 33 5500 := by
  refine mq_Met.of (cc := cX12_init) (maxL := 2) (ret := none) (by decide) rfl (Nat.le_of_ble_eq_true rfl) rfl rfl ?_
  intro p_ e_ s_ m_ args_ below_ meth_ c_ z_ C hr hlk hname
  have hold := hG.old C
  have l0 : mkL M x [] := ⟨by rw [hM]; simp, (fun p hp => by cases hp), by simp⟩
  have k0 : iq_K x M M := fun _ _ _ => rfl
  refine xr_aload_n C dX12_init_0 rfl ?_
  refine xr_objI C (C.1.2.2.2.2 (.methodLink RX12 1 objectInit) (by decide +kernel)) (C.1.2.2.2.2 (.instanceMethod objectInit) (by decide +kernel)) (C.1.2.2.2.2 (.code objectInit ⟨#[0xb1]⟩ 1 none) (by decide +kernel)) (Nat.le_of_ble_eq_true rfl) (Nat.le_of_ble_eq_true rfl) dX12_init_1 ?_
  refine xr_aload_n C dX12_init_4 rfl ?_
  refine xr_sipush (n := 240) C dX12_init_5 (by decide +kernel) ?_
  refine xr_newI C (C.1.2.2.2.2 (.arrayClass .int) (by decide +kernel)) mq_tI (by omega) (by dsimp only; omega) (by dsimp only; omega) dX12_init_8 (fun q1 hq1 => ?_)
  refine mq_ren (fun M2 hM2 => ?_)
  have n1 : M q1 = none := k0.nil (iq_some hM) hq1
  have l1 := l0.new hq1 hM2
  have k1 : iq_K x M M2 := k0.new hq1 hM2
  have z1 : M2 x = M x := by rw [hM2, mq_up_n (fun e => by rw [← e, hM] at hq1; cases hq1)]
  have y1 := z1.trans hM
  refine xr_putF C (Cn := RX12) (T := TX12) (N := 25) (by decide +kernel) y1 rfl 1 (by decide) tyX12 tyX12_ok nmX12 (C.1.2.2.2.2 (.fieldLink RX12 9 "OssuaryVaultModel" "sheet" "[I") (by decide +kernel)) (fun _ h => h) rfl hname rfl (tyX12_ok 1 (by decide)) rfl rfl (Nat.le_of_ble_eq_true rfl) dX12_init_10 ?_
  refine mq_ren (fun M3 hM3 => ?_)
  have x1 : M3 x = some (.inr (11, [.int 0, .ref q1, .int 0, .int 0, .null, .null, .null, .null, .null, .int 0, .int 0, .int 0, .null, .int 0, .int 0, .null, .null, .null, .null, .null, .null, .null, .null, .int 0, .int 0])) := by rw [hM3, mq_up_s]; rfl
  have l1b := l1.put hM3
  have k1b : iq_K x M M3 := k1.up hM3
  refine xr_aload_n C dX12_init_13 rfl ?_
  refine xr_bipush (n := 17) C dX12_init_14 (by decide +kernel) ?_
  refine xr_newI C (C.1.2.2.2.2 (.arrayClass .int) (by decide +kernel)) mq_tI (by omega) (by dsimp only; omega) (by dsimp only; omega) dX12_init_16 (fun q4 hq4 => ?_)
  refine mq_ren (fun M5 hM5 => ?_)
  have n2 : M q4 = none := k1b.nil (iq_some x1) hq4
  have l2 := l1b.new hq4 hM5
  have k2 : iq_K x M M5 := k1b.new hq4 hM5
  have z2 : M5 x = M3 x := by rw [hM5, mq_up_n (fun e => by rw [← e, x1] at hq4; cases hq4)]
  have y2 := z2.trans x1
  refine xr_putF C (Cn := RX12) (T := TX12) (N := 25) (by decide +kernel) y2 rfl 4 (by decide) tyX12 tyX12_ok nmX12 (C.1.2.2.2.2 (.fieldLink RX12 13 "OssuaryVaultModel" "keys" "[I") (by decide +kernel)) (fun _ h => h) rfl hname rfl (tyX12_ok 4 (by decide)) rfl rfl (Nat.le_of_ble_eq_true rfl) dX12_init_18 ?_
  refine mq_ren (fun M6 hM6 => ?_)
  have x2 : M6 x = some (.inr (11, [.int 0, .ref q1, .int 0, .int 0, .ref q4, .null, .null, .null, .null, .int 0, .int 0, .int 0, .null, .int 0, .int 0, .null, .null, .null, .null, .null, .null, .null, .null, .int 0, .int 0])) := by rw [hM6, mq_up_s]; rfl
  have l2b := l2.put hM6
  have k2b : iq_K x M M6 := k2.up hM6
  refine xr_aload_n C dX12_init_21 rfl ?_
  refine xr_bipush (n := 17) C dX12_init_22 (by decide +kernel) ?_
  refine xr_newI C (C.1.2.2.2.2 (.arrayClass .int) (by decide +kernel)) mq_tI (by omega) (by dsimp only; omega) (by dsimp only; omega) dX12_init_24 (fun q7 hq7 => ?_)
  refine mq_ren (fun M8 hM8 => ?_)
  have n3 : M q7 = none := k2b.nil (iq_some x2) hq7
  have l3 := l2b.new hq7 hM8
  have k3 : iq_K x M M8 := k2b.new hq7 hM8
  have z3 : M8 x = M6 x := by rw [hM8, mq_up_n (fun e => by rw [← e, x2] at hq7; cases hq7)]
  have y3 := z3.trans x2
  refine xr_putF C (Cn := RX12) (T := TX12) (N := 25) (by decide +kernel) y3 rfl 5 (by decide) tyX12 tyX12_ok nmX12 (C.1.2.2.2.2 (.fieldLink RX12 16 "OssuaryVaultModel" "lengths" "[I") (by decide +kernel)) (fun _ h => h) rfl hname rfl (tyX12_ok 5 (by decide)) rfl rfl (Nat.le_of_ble_eq_true rfl) dX12_init_26 ?_
  refine mq_ren (fun M9 hM9 => ?_)
  have x3 : M9 x = some (.inr (11, [.int 0, .ref q1, .int 0, .int 0, .ref q4, .ref q7, .null, .null, .null, .int 0, .int 0, .int 0, .null, .int 0, .int 0, .null, .null, .null, .null, .null, .null, .null, .null, .int 0, .int 0])) := by rw [hM9, mq_up_s]; rfl
  have l3b := l3.put hM9
  have k3b : iq_K x M M9 := k3.up hM9
  refine xr_aload_n C dX12_init_29 rfl ?_
  refine xr_bipush (n := 17) C dX12_init_30 (by decide +kernel) ?_
  refine xr_sipush (n := 240) C dX12_init_32 (by decide +kernel) ?_
  refine xr_mnaI (n := 17) (k0 := 240) C (C.1.2.2.2.2 (.classLink RX12 19 "[[I") (by decide +kernel)) hold.2.1 (C.1.2.2.2.2 (.arrayClass .int) (by decide +kernel)) hA.A mq_tI (by decide) (by decide) (by decide) (by dsimp only; omega) (by dsimp only; omega) dX12_init_35 (fun qc qr fc Mc hqc hqr hqcr hfc hc1 hc2 hck => ?_)
  have n4 : M qc = none := k3b.nil (iq_some x3) hqc
  have nr : M qr = none := k3b.nil (iq_some x3) hqr
  have l4 := l3b.two hqc hqr hqcr hc1 hc2 hck
  have k4 : iq_K x M Mc := k3b.keep hck
  have y4 := (hck x (by rw [x3]; simp)).trans x3
  refine xr_putF C (Cn := RX12) (T := TX12) (N := 25) (by decide +kernel) y4 rfl 6 (by decide) tyX12 tyX12_ok nmX12 (C.1.2.2.2.2 (.fieldLink RX12 21 "OssuaryVaultModel" "contents" "[[I") (by decide +kernel)) (fun _ h => h) rfl hname rfl (tyX12_ok 6 (by decide)) rfl rfl (Nat.le_of_ble_eq_true rfl) dX12_init_39 ?_
  refine mq_ren (fun M10 hM10 => ?_)
  have x4 : M10 x = some (.inr (11, [.int 0, .ref q1, .int 0, .int 0, .ref q4, .ref q7, .ref qc, .null, .null, .int 0, .int 0, .int 0, .null, .int 0, .int 0, .null, .null, .null, .null, .null, .null, .null, .null, .int 0, .int 0])) := by rw [hM10, mq_up_s]; rfl
  have l4b := l4.put hM10
  have k4b : iq_K x M M10 := k4.up hM10
  refine xr_aload_n C dX12_init_42 rfl ?_
  refine xr_bipush (n := 16) C dX12_init_43 (by decide +kernel) ?_
  refine xr_newA (t := .int) C (C.1.2.2.2.2 (.classLink RX12 24 "[I") (by decide +kernel)) hold.2.1 hA.A (by omega) (by dsimp only; omega) (by dsimp only; omega) dX12_init_45 (fun q11 hq11 => ?_)
  refine mq_ren (fun M12 hM12 => ?_)
  have n5 : M q11 = none := k4b.nil (iq_some x4) hq11
  have l5 := l4b.new hq11 hM12
  have k5 : iq_K x M M12 := k4b.new hq11 hM12
  have z5 : M12 x = M10 x := by rw [hM12, mq_up_n (fun e => by rw [← e, x4] at hq11; cases hq11)]
  have y5 := z5.trans x4
  refine xr_putF C (Cn := RX12) (T := TX12) (N := 25) (by decide +kernel) y5 rfl 7 (by decide) tyX12 tyX12_ok nmX12 (C.1.2.2.2.2 (.fieldLink RX12 25 "OssuaryVaultModel" "volumes" "[[I") (by decide +kernel)) (fun _ h => h) rfl hname rfl (tyX12_ok 7 (by decide)) rfl rfl (Nat.le_of_ble_eq_true rfl) dX12_init_48 ?_
  refine mq_ren (fun M13 hM13 => ?_)
  have x5 : M13 x = some (.inr (11, [.int 0, .ref q1, .int 0, .int 0, .ref q4, .ref q7, .ref qc, .ref q11, .null, .int 0, .int 0, .int 0, .null, .int 0, .int 0, .null, .null, .null, .null, .null, .null, .null, .null, .int 0, .int 0])) := by rw [hM13, mq_up_s]; rfl
  have l5b := l5.put hM13
  have k5b : iq_K x M M13 := k5.up hM13
  refine xr_aload_n C dX12_init_51 rfl ?_
  refine xr_bipush (n := 16) C dX12_init_52 (by decide +kernel) ?_
  refine xr_newI C (C.1.2.2.2.2 (.arrayClass .int) (by decide +kernel)) mq_tI (by omega) (by dsimp only; omega) (by dsimp only; omega) dX12_init_54 (fun q14 hq14 => ?_)
  refine mq_ren (fun M15 hM15 => ?_)
  have n6 : M q14 = none := k5b.nil (iq_some x5) hq14
  have l6 := l5b.new hq14 hM15
  have k6 : iq_K x M M15 := k5b.new hq14 hM15
  have z6 : M15 x = M13 x := by rw [hM15, mq_up_n (fun e => by rw [← e, x5] at hq14; cases hq14)]
  have y6 := z6.trans x5
  refine xr_putF C (Cn := RX12) (T := TX12) (N := 25) (by decide +kernel) y6 rfl 8 (by decide) tyX12 tyX12_ok nmX12 (C.1.2.2.2.2 (.fieldLink RX12 28 "OssuaryVaultModel" "sizes" "[I") (by decide +kernel)) (fun _ h => h) rfl hname rfl (tyX12_ok 8 (by decide)) rfl rfl (Nat.le_of_ble_eq_true rfl) dX12_init_56 ?_
  refine mq_ren (fun M16 hM16 => ?_)
  have x6 : M16 x = some (.inr (11, [.int 0, .ref q1, .int 0, .int 0, .ref q4, .ref q7, .ref qc, .ref q11, .ref q14, .int 0, .int 0, .int 0, .null, .int 0, .int 0, .null, .null, .null, .null, .null, .null, .null, .null, .int 0, .int 0])) := by rw [hM16, mq_up_s]; rfl
  have l6b := l6.put hM16
  have k6b : iq_K x M M16 := k6.up hM16
  refine xr_aload_n C dX12_init_59 rfl ?_
  refine xr_iconst (n := 0) C dX12_init_60 (by decide +kernel) ?_
  refine xr_newI C (C.1.2.2.2.2 (.arrayClass .int) (by decide +kernel)) mq_tI (by omega) (by dsimp only; omega) (by dsimp only; omega) dX12_init_61 (fun q17 hq17 => ?_)
  refine mq_ren (fun M18 hM18 => ?_)
  have n7 : M q17 = none := k6b.nil (iq_some x6) hq17
  have l7 := l6b.new hq17 hM18
  have k7 : iq_K x M M18 := k6b.new hq17 hM18
  have z7 : M18 x = M16 x := by rw [hM18, mq_up_n (fun e => by rw [← e, x6] at hq17; cases hq17)]
  have y7 := z7.trans x6
  refine xr_put C (Cn := RX12) (T := TX12) (N := 25) (by decide +kernel) y7 rfl 12 (by decide) tyX12 tyX12_ok nmX12 (C.1.2.2.2.2 (.fieldLink RX12 31 "OssuaryVaultModel" "stream" "[I") (by decide +kernel)) (fun _ h => h) rfl (tyX12_ok 12 (by decide)) rfl rfl (Nat.le_of_ble_eq_true rfl) dX12_init_63 ?_
  refine mq_ren (fun M19 hM19 => ?_)
  have x7 : M19 x = some (.inr (11, [.int 0, .ref q1, .int 0, .int 0, .ref q4, .ref q7, .ref qc, .ref q11, .ref q14, .int 0, .int 0, .int 0, .ref q17, .int 0, .int 0, .null, .null, .null, .null, .null, .null, .null, .null, .int 0, .int 0])) := by rw [hM19, mq_up_s]; rfl
  have l7b := l7.put hM19
  have k7b : iq_K x M M19 := k7.up hM19
  refine xr_aload_n C dX12_init_66 rfl ?_
  refine xr_bipush (n := 40) C dX12_init_67 (by decide +kernel) ?_
  refine xr_newI C (C.1.2.2.2.2 (.arrayClass .int) (by decide +kernel)) mq_tI (by omega) (by dsimp only; omega) (by dsimp only; omega) dX12_init_69 (fun q20 hq20 => ?_)
  refine mq_ren (fun M21 hM21 => ?_)
  have n8 : M q20 = none := k7b.nil (iq_some x7) hq20
  have l8 := l7b.new hq20 hM21
  have k8 : iq_K x M M21 := k7b.new hq20 hM21
  have z8 : M21 x = M19 x := by rw [hM21, mq_up_n (fun e => by rw [← e, x7] at hq20; cases hq20)]
  have y8 := z8.trans x7
  refine xr_putF C (Cn := RX12) (T := TX12) (N := 25) (by decide +kernel) y8 rfl 15 (by decide) tyX12 tyX12_ok nmX12 (C.1.2.2.2.2 (.fieldLink RX12 34 "OssuaryVaultModel" "keysFound" "[I") (by decide +kernel)) (fun _ h => h) rfl hname rfl (tyX12_ok 15 (by decide)) rfl rfl (Nat.le_of_ble_eq_true rfl) dX12_init_71 ?_
  refine mq_ren (fun M22 hM22 => ?_)
  have x8 : M22 x = some (.inr (11, [.int 0, .ref q1, .int 0, .int 0, .ref q4, .ref q7, .ref qc, .ref q11, .ref q14, .int 0, .int 0, .int 0, .ref q17, .int 0, .int 0, .ref q20, .null, .null, .null, .null, .null, .null, .null, .int 0, .int 0])) := by rw [hM22, mq_up_s]; rfl
  have l8b := l8.put hM22
  have k8b : iq_K x M M22 := k8.up hM22
  refine xr_aload_n C dX12_init_74 rfl ?_
  refine xr_bipush (n := 40) C dX12_init_75 (by decide +kernel) ?_
  refine xr_newI C (C.1.2.2.2.2 (.arrayClass .int) (by decide +kernel)) mq_tI (by omega) (by dsimp only; omega) (by dsimp only; omega) dX12_init_77 (fun q23 hq23 => ?_)
  refine mq_ren (fun M24 hM24 => ?_)
  have n9 : M q23 = none := k8b.nil (iq_some x8) hq23
  have l9 := l8b.new hq23 hM24
  have k9 : iq_K x M M24 := k8b.new hq23 hM24
  have z9 : M24 x = M22 x := by rw [hM24, mq_up_n (fun e => by rw [← e, x8] at hq23; cases hq23)]
  have y9 := z9.trans x8
  refine xr_putF C (Cn := RX12) (T := TX12) (N := 25) (by decide +kernel) y9 rfl 16 (by decide) tyX12 tyX12_ok nmX12 (C.1.2.2.2.2 (.fieldLink RX12 37 "OssuaryVaultModel" "placesFound" "[I") (by decide +kernel)) (fun _ h => h) rfl hname rfl (tyX12_ok 16 (by decide)) rfl rfl (Nat.le_of_ble_eq_true rfl) dX12_init_79 ?_
  refine mq_ren (fun M25 hM25 => ?_)
  have x9 : M25 x = some (.inr (11, [.int 0, .ref q1, .int 0, .int 0, .ref q4, .ref q7, .ref qc, .ref q11, .ref q14, .int 0, .int 0, .int 0, .ref q17, .int 0, .int 0, .ref q20, .ref q23, .null, .null, .null, .null, .null, .null, .int 0, .int 0])) := by rw [hM25, mq_up_s]; rfl
  have l9b := l9.put hM25
  have k9b : iq_K x M M25 := k9.up hM25
  refine xr_aload_n C dX12_init_82 rfl ?_
  refine xr_bipush (n := 40) C dX12_init_83 (by decide +kernel) ?_
  refine xr_newI C (C.1.2.2.2.2 (.arrayClass .int) (by decide +kernel)) mq_tI (by omega) (by dsimp only; omega) (by dsimp only; omega) dX12_init_85 (fun q26 hq26 => ?_)
  refine mq_ren (fun M27 hM27 => ?_)
  have n10 : M q26 = none := k9b.nil (iq_some x9) hq26
  have l10 := l9b.new hq26 hM27
  have k10 : iq_K x M M27 := k9b.new hq26 hM27
  have z10 : M27 x = M25 x := by rw [hM27, mq_up_n (fun e => by rw [← e, x9] at hq26; cases hq26)]
  have y10 := z10.trans x9
  refine xr_putF C (Cn := RX12) (T := TX12) (N := 25) (by decide +kernel) y10 rfl 17 (by decide) tyX12 tyX12_ok nmX12 (C.1.2.2.2.2 (.fieldLink RX12 40 "OssuaryVaultModel" "lengthsTold" "[I") (by decide +kernel)) (fun _ h => h) rfl hname rfl (tyX12_ok 17 (by decide)) rfl rfl (Nat.le_of_ble_eq_true rfl) dX12_init_87 ?_
  refine mq_ren (fun M28 hM28 => ?_)
  have x10 : M28 x = some (.inr (11, [.int 0, .ref q1, .int 0, .int 0, .ref q4, .ref q7, .ref qc, .ref q11, .ref q14, .int 0, .int 0, .int 0, .ref q17, .int 0, .int 0, .ref q20, .ref q23, .ref q26, .null, .null, .null, .null, .null, .int 0, .int 0])) := by rw [hM28, mq_up_s]; rfl
  have l10b := l10.put hM28
  have k10b : iq_K x M M28 := k10.up hM28
  refine xr_aload_n C dX12_init_90 rfl ?_
  refine xr_bipush (n := 40) C dX12_init_91 (by decide +kernel) ?_
  refine xr_newI C (C.1.2.2.2.2 (.arrayClass .int) (by decide +kernel)) mq_tI (by omega) (by dsimp only; omega) (by dsimp only; omega) dX12_init_93 (fun q29 hq29 => ?_)
  refine mq_ren (fun M30 hM30 => ?_)
  have n11 : M q29 = none := k10b.nil (iq_some x10) hq29
  have l11 := l10b.new hq29 hM30
  have k11 : iq_K x M M30 := k10b.new hq29 hM30
  have z11 : M30 x = M28 x := by rw [hM30, mq_up_n (fun e => by rw [← e, x10] at hq29; cases hq29)]
  have y11 := z11.trans x10
  refine xr_putF C (Cn := RX12) (T := TX12) (N := 25) (by decide +kernel) y11 rfl 18 (by decide) tyX12 tyX12_ok nmX12 (C.1.2.2.2.2 (.fieldLink RX12 43 "OssuaryVaultModel" "lengthsFound" "[I") (by decide +kernel)) (fun _ h => h) rfl hname rfl (tyX12_ok 18 (by decide)) rfl rfl (Nat.le_of_ble_eq_true rfl) dX12_init_95 ?_
  refine mq_ren (fun M31 hM31 => ?_)
  have x11 : M31 x = some (.inr (11, [.int 0, .ref q1, .int 0, .int 0, .ref q4, .ref q7, .ref qc, .ref q11, .ref q14, .int 0, .int 0, .int 0, .ref q17, .int 0, .int 0, .ref q20, .ref q23, .ref q26, .ref q29, .null, .null, .null, .null, .int 0, .int 0])) := by rw [hM31, mq_up_s]; rfl
  have l11b := l11.put hM31
  have k11b : iq_K x M M31 := k11.up hM31
  refine xr_aload_n C dX12_init_98 rfl ?_
  refine xr_sipush (n := 490) C dX12_init_99 (by decide +kernel) ?_
  refine xr_newI C (C.1.2.2.2.2 (.arrayClass .int) (by decide +kernel)) mq_tI (by omega) (by dsimp only; omega) (by dsimp only; omega) dX12_init_102 (fun q32 hq32 => ?_)
  refine mq_ren (fun M33 hM33 => ?_)
  have n12 : M q32 = none := k11b.nil (iq_some x11) hq32
  have l12 := l11b.new hq32 hM33
  have k12 : iq_K x M M33 := k11b.new hq32 hM33
  have z12 : M33 x = M31 x := by rw [hM33, mq_up_n (fun e => by rw [← e, x11] at hq32; cases hq32)]
  have y12 := z12.trans x11
  refine xr_putF C (Cn := RX12) (T := TX12) (N := 25) (by decide +kernel) y12 rfl 19 (by decide) tyX12 tyX12_ok nmX12 (C.1.2.2.2.2 (.fieldLink RX12 46 "OssuaryVaultModel" "packed" "[I") (by decide +kernel)) (fun _ h => h) rfl hname rfl (tyX12_ok 19 (by decide)) rfl rfl (Nat.le_of_ble_eq_true rfl) dX12_init_104 ?_
  refine mq_ren (fun M34 hM34 => ?_)
  have x12 : M34 x = some (.inr (11, [.int 0, .ref q1, .int 0, .int 0, .ref q4, .ref q7, .ref qc, .ref q11, .ref q14, .int 0, .int 0, .int 0, .ref q17, .int 0, .int 0, .ref q20, .ref q23, .ref q26, .ref q29, .ref q32, .null, .null, .null, .int 0, .int 0])) := by rw [hM34, mq_up_s]; rfl
  have l12b := l12.put hM34
  have k12b : iq_K x M M34 := k12.up hM34
  refine xr_aload_n C dX12_init_107 rfl ?_
  refine xr_sipush (n := 240) C dX12_init_108 (by decide +kernel) ?_
  refine xr_newI C (C.1.2.2.2.2 (.arrayClass .int) (by decide +kernel)) mq_tI (by omega) (by dsimp only; omega) (by dsimp only; omega) dX12_init_111 (fun q35 hq35 => ?_)
  refine mq_ren (fun M36 hM36 => ?_)
  have n13 : M q35 = none := k12b.nil (iq_some x12) hq35
  have l13 := l12b.new hq35 hM36
  have k13 : iq_K x M M36 := k12b.new hq35 hM36
  have z13 : M36 x = M34 x := by rw [hM36, mq_up_n (fun e => by rw [← e, x12] at hq35; cases hq35)]
  have y13 := z13.trans x12
  refine xr_putF C (Cn := RX12) (T := TX12) (N := 25) (by decide +kernel) y13 rfl 20 (by decide) tyX12 tyX12_ok nmX12 (C.1.2.2.2.2 (.fieldLink RX12 49 "OssuaryVaultModel" "content" "[I") (by decide +kernel)) (fun _ h => h) rfl hname rfl (tyX12_ok 20 (by decide)) rfl rfl (Nat.le_of_ble_eq_true rfl) dX12_init_113 ?_
  refine mq_ren (fun M37 hM37 => ?_)
  have x13 : M37 x = some (.inr (11, [.int 0, .ref q1, .int 0, .int 0, .ref q4, .ref q7, .ref qc, .ref q11, .ref q14, .int 0, .int 0, .int 0, .ref q17, .int 0, .int 0, .ref q20, .ref q23, .ref q26, .ref q29, .ref q32, .ref q35, .null, .null, .int 0, .int 0])) := by rw [hM37, mq_up_s]; rfl
  have l13b := l13.put hM37
  have k13b : iq_K x M M37 := k13.up hM37
  refine xr_aload_n C dX12_init_116 rfl ?_
  refine xr_bipush (n := 16) C dX12_init_117 (by decide +kernel) ?_
  refine xr_newZ C (C.1.2.2.2.2 (.arrayClass .boolean) (by decide +kernel)) hA.Z (by omega) (by dsimp only; omega) (by dsimp only; omega) dX12_init_119 (fun q38 hq38 => ?_)
  refine mq_ren (fun M39 hM39 => ?_)
  have n14 : M q38 = none := k13b.nil (iq_some x13) hq38
  have l14 := l13b.new hq38 hM39
  have k14 : iq_K x M M39 := k13b.new hq38 hM39
  have z14 : M39 x = M37 x := by rw [hM39, mq_up_n (fun e => by rw [← e, x13] at hq38; cases hq38)]
  have y14 := z14.trans x13
  refine xr_putF C (Cn := RX12) (T := TX12) (N := 25) (by decide +kernel) y14 rfl 21 (by decide) tyX12 tyX12_ok nmX12 (C.1.2.2.2.2 (.fieldLink RX12 52 "OssuaryVaultModel" "sound" "[Z") (by decide +kernel)) (fun _ h => h) rfl hname rfl (tyX12_ok 21 (by decide)) rfl rfl (Nat.le_of_ble_eq_true rfl) dX12_init_121 ?_
  refine mq_ren (fun M40 hM40 => ?_)
  have x14 : M40 x = some (.inr (11, [.int 0, .ref q1, .int 0, .int 0, .ref q4, .ref q7, .ref qc, .ref q11, .ref q14, .int 0, .int 0, .int 0, .ref q17, .int 0, .int 0, .ref q20, .ref q23, .ref q26, .ref q29, .ref q32, .ref q35, .ref q38, .null, .int 0, .int 0])) := by rw [hM40, mq_up_s]; rfl
  have l14b := l14.put hM40
  have k14b : iq_K x M M40 := k14.up hM40
  refine xr_aload_n C dX12_init_124 rfl ?_
  refine xr_bipush (n := 16) C dX12_init_125 (by decide +kernel) ?_
  refine xr_newI C (C.1.2.2.2.2 (.arrayClass .int) (by decide +kernel)) mq_tI (by omega) (by dsimp only; omega) (by dsimp only; omega) dX12_init_127 (fun q41 hq41 => ?_)
  refine mq_ren (fun M42 hM42 => ?_)
  have n15 : M q41 = none := k14b.nil (iq_some x14) hq41
  have l15 := l14b.new hq41 hM42
  have k15 : iq_K x M M42 := k14b.new hq41 hM42
  have z15 : M42 x = M40 x := by rw [hM42, mq_up_n (fun e => by rw [← e, x14] at hq41; cases hq41)]
  have y15 := z15.trans x14
  refine xr_putF C (Cn := RX12) (T := TX12) (N := 25) (by decide +kernel) y15 rfl 22 (by decide) tyX12 tyX12_ok nmX12 (C.1.2.2.2.2 (.fieldLink RX12 56 "OssuaryVaultModel" "numbers" "[I") (by decide +kernel)) (fun _ h => h) rfl hname rfl (tyX12_ok 22 (by decide)) rfl rfl (Nat.le_of_ble_eq_true rfl) dX12_init_129 ?_
  refine mq_ren (fun M43 hM43 => ?_)
  have x15 : M43 x = some (.inr (11, [.int 0, .ref q1, .int 0, .int 0, .ref q4, .ref q7, .ref qc, .ref q11, .ref q14, .int 0, .int 0, .int 0, .ref q17, .int 0, .int 0, .ref q20, .ref q23, .ref q26, .ref q29, .ref q32, .ref q35, .ref q38, .ref q41, .int 0, .int 0])) := by rw [hM43, mq_up_s]; rfl
  have l15b := l15.put hM43
  have k15b : iq_K x M M43 := k15.up hM43
  have lx := l15b
  have kx := k15b
  have hxx := x15
  refine xr_iconst (n := 0) C dX12_init_132 (by decide +kernel) ?_
  refine xr_istore_n C dX12_init_133 (by decide) rfl ?_
  refine mq_loop (σ := Nat × mq_M × (Nat → Int32)) (fun y => y.1 ≤ 16 ∧ mkL y.2.1 x ([(q41, .inl (G.2.1, Int.toNat 16, .inl (fun _ => 0))), (q38, .inl (gZ G, Int.toNat 16, .inl (fun _ => 0))), (q35, .inl (G.2.1, Int.toNat 240, .inl (fun _ => 0))), (q32, .inl (G.2.1, Int.toNat 490, .inl (fun _ => 0))), (q29, .inl (G.2.1, Int.toNat 40, .inl (fun _ => 0))), (q26, .inl (G.2.1, Int.toNat 40, .inl (fun _ => 0))), (q23, .inl (G.2.1, Int.toNat 40, .inl (fun _ => 0))), (q20, .inl (G.2.1, Int.toNat 40, .inl (fun _ => 0))), (q17, .inl (G.2.1, Int.toNat 0, .inl (fun _ => 0)))] ++ (q14, .inl (G.2.1, 16, .inl y.2.2)) :: [(q11, .inl (gA G, Int.toNat 16, .inr (.inr (.inr (.inr (fun _ => none)))))), (qc, .inl (gA G, 17, .inr (.inr (.inr (.inr fc))))), (qr, .inl (G.2.1, 240, .inl (fun _ => 0))), (q7, .inl (G.2.1, Int.toNat 17, .inl (fun _ => 0))), (q4, .inl (G.2.1, Int.toNat 17, .inl (fun _ => 0))), (q1, .inl (G.2.1, Int.toNat 240, .inl (fun _ => 0)))]) ∧ (∀ j, j < y.1 → y.2.2 j = zI (-1)) ∧ y.2.1 x = M43 x ∧ iq_K x M y.2.1) (fun y => 16 - y.1) (fun y => y.2.1) (fun y => [some (.ref x), some (.int (zI (y.1 : Int)))]) (fun y => []) ?_ (0, M43, fun _ => 0) ⟨Nat.zero_le _, lx, (fun j hj => by omega), rfl, kx⟩
  rintro ⟨i, M9, f9⟩ ⟨hi, s1, s2, s3, s4⟩ ih
  dsimp only at hi s1 s2 s3 s4 ih ⊢
  have s3b := s3.trans hxx
  have s6 : M9 q14 = some (.inl (G.2.1, 16, .inl f9)) := s1.2.1 (q14, _) (List.mem_append_right _ List.mem_cons_self)
  refine xr_iload_n C dX12_init_134 rfl ?_
  refine xr_bipush (n := 16) C dX12_init_135 (by decide +kernel) ?_
  refine xr_icmp_ge C dX12_init_137 rfl (by first | omega | (dsimp only; omega)) (by first | omega | (dsimp only; omega)) (fun hq44 => ?_) (fun hq44 => ?_)
  · have hi16 : i = 16 := by omega
    have hnd : (x :: [q41, q38, q35, q32, q29, q26, q23, q20, q17, q14, q11, qc, qr, q7, q4, q1]).Nodup := s1.2.2
    have hmem := s1.2.1
    have hg : mdN G M M9 x (fun i => (x :: [q41, q38, q35, q32, q29, q26, q23, q20, q17, q14, q11, qc, qr, q7, q4, q1]).getD (mdP i) 0) := by
      refine ⟨rfl, fun Mb hMb => ?_, fun i j hi9 hj9 he => ?_, fun i hi9 => ?_, fun i hi9 h0 => ?_, s4⟩
      · have b0 : Mb 0 = x := hMb 0 (by decide)
        have b1 : Mb 1 = q1 := hMb 1 (by decide)
        have b2 : Mb 2 = q4 := hMb 2 (by decide)
        have b3 : Mb 3 = q7 := hMb 3 (by decide)
        have b4 : Mb 4 = qc := hMb 4 (by decide)
        have b5 : Mb 5 = q11 := hMb 5 (by decide)
        have b6 : Mb 6 = q14 := hMb 6 (by decide)
        have b7 : Mb 7 = q17 := hMb 7 (by decide)
        have b8 : Mb 8 = q20 := hMb 8 (by decide)
        have b9 : Mb 9 = q23 := hMb 9 (by decide)
        have b10 : Mb 10 = q26 := hMb 10 (by decide)
        have b11 : Mb 11 = q29 := hMb 11 (by decide)
        have b12 : Mb 12 = q32 := hMb 12 (by decide)
        have b13 : Mb 13 = q35 := hMb 13 (by decide)
        have b14 : Mb 14 = q38 := hMb 14 (by decide)
        have b15 : Mb 15 = q41 := hMb 15 (by decide)
        have b20 : Mb 20 = qr := hMb 20 (by decide)
        refine ⟨?_, ⟨fun _ => 0, ?_⟩, ⟨fun _ => 0, ?_⟩, ⟨fun _ => 0, ?_⟩, ⟨fc, ?_, hfc.trans (congrArg some b20.symm)⟩, ⟨fun _ => none, ?_, fun _ _ => rfl⟩, ⟨f9, ?_, fun j hj => s2 j (by omega)⟩, ⟨fun _ => 0, ?_⟩, ⟨fun _ => 0, ?_⟩, ⟨fun _ => 0, ?_⟩⟩
        · unfold mYt
          rw [b0, s3b, b1, b2, b3, b4, b5, b6, b7, b8, b9, b10, b11, b12, b13, b14, b15]
          rfl
        · rw [b1]; exact hmem (q1, .inl (G.2.1, Int.toNat 240, .inl (fun _ => 0))) (by simp only [List.mem_append, List.mem_cons, true_or, or_true])
        · rw [b2]; exact hmem (q4, .inl (G.2.1, Int.toNat 17, .inl (fun _ => 0))) (by simp only [List.mem_append, List.mem_cons, true_or, or_true])
        · rw [b3]; exact hmem (q7, .inl (G.2.1, Int.toNat 17, .inl (fun _ => 0))) (by simp only [List.mem_append, List.mem_cons, true_or, or_true])
        · rw [b4]; exact hmem (qc, .inl (gA G, 17, .inr (.inr (.inr (.inr fc))))) (by simp only [List.mem_append, List.mem_cons, true_or, or_true])
        · rw [b5]; exact hmem (q11, .inl (gA G, Int.toNat 16, .inr (.inr (.inr (.inr (fun _ => none)))))) (by simp only [List.mem_append, List.mem_cons, true_or, or_true])
        · rw [b6]; exact hmem (q14, .inl (G.2.1, 16, .inl f9)) (by simp only [List.mem_append, List.mem_cons, true_or, or_true])
        · rw [b14]; exact hmem (q38, .inl (gZ G, Int.toNat 16, .inl (fun _ => 0))) (by simp only [List.mem_append, List.mem_cons, true_or, or_true])
        · rw [b15]; exact hmem (q41, .inl (G.2.1, Int.toNat 16, .inl (fun _ => 0))) (by simp only [List.mem_append, List.mem_cons, true_or, or_true])
        · rw [b20]; exact hmem (qr, .inl (G.2.1, 240, .inl (fun _ => 0))) (by simp only [List.mem_append, List.mem_cons, true_or, or_true])
      · exact mdP_inj i (mdU_lt hi9) j (mdU_lt hj9) hi9 hj9 (getD_inj hnd (mdP_lt i (mdU_lt hi9) hi9) (mdP_lt j (mdU_lt hj9) hj9) he)
      · have hk := mdU_lt hi9
        have hc : ∀ q, q ∈ (x :: [q41, q38, q35, q32, q29, q26, q23, q20, q17, q14, q11, qc, qr, q7, q4, q1]) → M9 q ≠ none := fun q hq => by
          rcases List.mem_cons.mp hq with rfl | hq
          · exact s1.1
          · obtain ⟨p9, hp9, rfl⟩ := List.mem_map.mp (show q ∈ (([(q41, .inl (G.2.1, Int.toNat 16, .inl (fun _ => 0))), (q38, .inl (gZ G, Int.toNat 16, .inl (fun _ => 0))), (q35, .inl (G.2.1, Int.toNat 240, .inl (fun _ => 0))), (q32, .inl (G.2.1, Int.toNat 490, .inl (fun _ => 0))), (q29, .inl (G.2.1, Int.toNat 40, .inl (fun _ => 0))), (q26, .inl (G.2.1, Int.toNat 40, .inl (fun _ => 0))), (q23, .inl (G.2.1, Int.toNat 40, .inl (fun _ => 0))), (q20, .inl (G.2.1, Int.toNat 40, .inl (fun _ => 0))), (q17, .inl (G.2.1, Int.toNat 0, .inl (fun _ => 0)))] ++ (q14, .inl (G.2.1, 16, .inl f9)) :: [(q11, .inl (gA G, Int.toNat 16, .inr (.inr (.inr (.inr (fun _ => none)))))), (qc, .inl (gA G, 17, .inr (.inr (.inr (.inr fc))))), (qr, .inl (G.2.1, 240, .inl (fun _ => 0))), (q7, .inl (G.2.1, Int.toNat 17, .inl (fun _ => 0))), (q4, .inl (G.2.1, Int.toNat 17, .inl (fun _ => 0))), (q1, .inl (G.2.1, Int.toNat 240, .inl (fun _ => 0)))]) : List (Nat × va_E)).map (fun p => p.1) from hq)
            rw [hmem p9 hp9]; simp
        refine hc _ ?_
        show (x :: [q41, q38, q35, q32, q29, q26, q23, q20, q17, q14, q11, qc, qr, q7, q4, q1]).getD (mdP i) 0 ∈ (x :: [q41, q38, q35, q32, q29, q26, q23, q20, q17, q14, q11, qc, qr, q7, q4, q1])
        rw [List.getD_eq_getElem?_getD, List.getElem?_eq_getElem (mdP_lt i hk hi9)]
        exact List.getElem_mem _
      · have hk := mdU_lt hi9
        have hc : i = 1 ∨ i = 2 ∨ i = 3 ∨ i = 4 ∨ i = 5 ∨ i = 6 ∨ i = 7 ∨ i = 8 ∨ i = 9 ∨ i = 10 ∨ i = 11 ∨ i = 12 ∨ i = 13 ∨ i = 14 ∨ i = 15 ∨ i = 20 := by
          unfold mdU at hi9
          simp at hi9
          omega
        rcases hc with rfl | rfl | rfl | rfl | rfl | rfl | rfl | rfl | rfl | rfl | rfl | rfl | rfl | rfl | rfl | rfl
        · exact n1
        · exact n2
        · exact n3
        · exact n4
        · exact n5
        · exact n6
        · exact n7
        · exact n8
        · exact n9
        · exact n10
        · exact n11
        · exact n12
        · exact n13
        · exact n14
        · exact n15
        · exact nr
    exact xr_vret C hr hlk ⟨rfl, _, hg⟩ (by (try dsimp only); omega) (by (try dsimp only); omega) dX12_init_153
  · refine xr_aload_n C dX12_init_140 rfl ?_
    refine xr_get C (Cn := RX12) (T := TX12) (N := 25) (by decide +kernel) s3b rfl 8 (by decide) (C.1.2.2.2.2 (.fieldLink RX12 28 "OssuaryVaultModel" "sizes" "[I") (by decide +kernel)) (fun _ h => h) rfl dX12_init_141 ?_
    refine xr_iload_n C dX12_init_144 rfl ?_
    refine xr_iconst (n := (-1)) C dX12_init_145 (by decide +kernel) ?_
    refine xr_iast C s6 mq_tI (by omega) (by show (i : Int) < (16 : Int); omega) (by first | omega | (dsimp only; omega)) dX12_init_146 ?_
    refine mq_ren (fun M45 hM45 => ?_)
    refine xr_iinc C dX12_init_147 rfl (by decide) rfl ?_
    refine xr_goto C dX12_init_150 rfl ?_
    rw [Int.toNat_natCast] at hM45
    have hxs : x ≠ q14 := fun e => (List.nodup_cons.mp s1.2.2).1 (by rw [e]; simp)
    exact ih (i + 1, M45, upd f9 i (zI (-1))) ⟨by (try dsimp only); omega, s1.set hM45, (fun j hj => by (try dsimp only at hj ⊢); unfold upd; split; rfl; exact s2 j (by omega)), by (try dsimp only); rw [hM45, mq_up_n hxs]; exact s3, iq_K.own s4 n6 hM45⟩ (by (try dsimp only); omega)
