set_option maxHeartbeats 4000000 in
set_option maxRecDepth 100000 in
theorem c_addL (l : Launch) (G : mq_G) (b a n : Nat) (d : List Nat) (M : mq_M) (hB : bI G M b a n d) (v : Nat) (hv : v < 256) : mq_T l yX0_add wsX0_add { frames := 0, cells := 0, slots := 0, locals := 0 } G [.ref b, .int (zI (v : Int))] M (mq_pv (fun M2 => (∃ d2 : List Nat, bI G M2 b a n d2 ∧ d2.length ≤ d.length + 1) ∧ mq_F [b, a] M M2)) 0 0 := by
  refine mq_Met.of (cc := cX0_add) (maxL := 2) (ret := none) (by decide) rfl (Nat.le_of_ble_eq_true rfl) rfl rfl ?_
  intro p_ e_ s_ m_ args_ below_ meth_ c_ z_ C hr hlk hname
  obtain ⟨h1, h2, h3, h4, h5, f, h6, h7⟩ := hB
  refine xr_aload_n C dX0_add_0 rfl ?_
  refine xr_get C (Cn := RX0) (T := TX0) (N := 2) (by decide +kernel) h1 rfl 1 (by decide) (C.1.2.2.2.2 (.fieldLink RX0 13 "OssuaryVault$Bytes" "size" "I") (by decide +kernel)) (fun _ h => h) rfl dX0_add_1 ?_
  refine xr_if_lt C dX0_add_4 rfl (by first | omega | (dsimp only; omega)) (fun hq => absurd hq (by omega)) (fun _ => ?_)
  refine xr_aload_n C dX0_add_7 rfl ?_
  refine xr_get C (Cn := RX0) (T := TX0) (N := 2) (by decide +kernel) h1 rfl 1 (by decide) (C.1.2.2.2.2 (.fieldLink RX0 13 "OssuaryVault$Bytes" "size" "I") (by decide +kernel)) (fun _ h => h) rfl dX0_add_8 ?_
  refine xr_aload_n C dX0_add_11 rfl ?_
  refine xr_get C (Cn := RX0) (T := TX0) (N := 2) (by decide +kernel) h1 rfl 0 (by decide) (C.1.2.2.2.2 (.fieldLink RX0 7 "OssuaryVault$Bytes" "cells" "[I") (by decide +kernel)) (fun _ h => h) rfl dX0_add_12 ?_
  refine xr_alen C h6 mq_tI dX0_add_15 ?_
  refine xr_icmp_ge C dX0_add_16 rfl (by first | omega | (dsimp only; omega)) (by first | omega | (dsimp only; omega)) (fun hq1 => ?_) (fun hq1 => ?_)
  · exact xr_vret C hr hlk ⟨rfl, ⟨d, ⟨h1, h2, h3, h4, h5, f, h6, h7⟩, Nat.le_succ _⟩, mq_F.rf⟩ (by omega) (by omega) dX0_add_39
  · refine xr_aload_n C dX0_add_19 rfl ?_
    refine xr_get C (Cn := RX0) (T := TX0) (N := 2) (by decide +kernel) h1 rfl 0 (by decide) (C.1.2.2.2.2 (.fieldLink RX0 7 "OssuaryVault$Bytes" "cells" "[I") (by decide +kernel)) (fun _ h => h) rfl dX0_add_20 ?_
    refine xr_aload_n C dX0_add_23 rfl ?_
    refine xr_get C (Cn := RX0) (T := TX0) (N := 2) (by decide +kernel) h1 rfl 1 (by decide) (C.1.2.2.2.2 (.fieldLink RX0 13 "OssuaryVault$Bytes" "size" "I") (by decide +kernel)) (fun _ h => h) rfl dX0_add_24 ?_
    refine xr_iload_n C dX0_add_27 rfl ?_
    refine xr_iast C h6 mq_tI (by omega) (by simp at hq1; omega) (by omega) dX0_add_28 ?_
    refine mq_ren (fun M2 hM2 => ?_)
    have h8 : M2 b = some (.inr (0, [.ref a, .int (zI (d.length : Int))])) := by rw [hM2, mq_up_n h2]; exact h1
    refine xr_aload_n C dX0_add_29 rfl ?_
    refine xr_dup C dX0_add_30 rfl ?_
    refine xr_get C (Cn := RX0) (T := TX0) (N := 2) (by decide +kernel) h8 rfl 1 (by decide) (C.1.2.2.2.2 (.fieldLink RX0 13 "OssuaryVault$Bytes" "size" "I") (by decide +kernel)) (fun _ h => h) rfl dX0_add_31 ?_
    refine xr_iconst (n := 1) C dX0_add_34 (by decide +kernel) ?_
    refine xr_iadd C dX0_add_35 ?_
    refine xr_put C (Cn := RX0) (T := TX0) (N := 2) (by decide +kernel) h8 rfl 1 (by decide) tyX0 tyX0_ok nmX0 (C.1.2.2.2.2 (.fieldLink RX0 13 "OssuaryVault$Bytes" "size" "I") (by decide +kernel)) (fun _ h => h) rfl (tyX0_ok 1 (by decide)) rfl rfl (Nat.le_of_ble_eq_true rfl) dX0_add_36 ?_
    refine mq_ren (fun M3 hM3 => ?_)
    exact xr_vret C hr hlk ⟨rfl, ⟨d ++ [v], ⟨by rw [hM3, mq_up_s]; simp, h2, by simp at hq1 ⊢; omega, h4, fun x hx => by
          rcases List.mem_append.mp hx with h9 | h9
          · exact h5 x h9
          · rw [List.mem_singleton.mp h9]; exact hv, upd f d.length (zI (v : Int)), by rw [hM3, mq_up_n (Ne.symm h2), hM2]; exact mq_up_s, mq_add_upd h7⟩, by simp⟩, (mq_F.up hM2 (by simp)).tr (mq_F.up hM3 (by simp))⟩ (by omega) (by omega) dX0_add_39
set_option maxHeartbeats 4000000 in
set_option maxRecDepth 100000 in
theorem c_addPartL (l : Launch) (G : mq_G) (b a n : Nat) (d : List Nat) (M : mq_M) (hB : bI G M b a n d) (b2 a2 n2 : Nat) (d2 : List Nat) (hB2 : bI G M b2 a2 n2 d2) (hx : b2 ≠ b ∧ b2 ≠ a ∧ a2 ≠ b ∧ a2 ≠ a) (k : Int) (t : Nat) (hk : -100000 ≤ k ∧ k < 1000000) (ht : t < 100000) : mq_T l yX0_addPart wsX0_addPart { frames := 1, cells := 0, slots := 0, locals := 21 } G [.ref b, .ref b2, .int (zI k), .int (zI (t : Int))] M (mq_pv (fun M2 => (∃ d3 : List Nat, bI G M2 b a n d3) ∧ mq_F [b, a] M M2)) 0 0 := by
  refine mq_Met.of (cc := cX0_addPart) (maxL := 5) (ret := none) (by decide) rfl (Nat.le_of_ble_eq_true rfl) rfl rfl ?_
  intro p_ e_ s_ m_ args_ below_ meth_ c_ z_ C hr hlk hname
  refine xr_iconst (n := 0) C dX0_addPart_0 (by decide +kernel) ?_
  refine xr_istore C dX0_addPart_1 (by decide) rfl ?_
  refine mq_loop (σ := Nat × mq_M × List Nat) (fun x => x.1 ≤ t ∧ bI G x.2.1 b a n x.2.2 ∧ mq_F [b, a] M x.2.1) (fun x => t - x.1) (fun x => x.2.1) (fun x => [some (.ref b), some (.ref b2), some (.int (zI k)), some (.int (zI (t : Int))), some (.int (zI (x.1 : Int)))]) (fun x => []) ?_ (0, M, d) ⟨Nat.zero_le _, hB, mq_F.rf⟩
  rintro ⟨i, M0, d0⟩ ⟨hi, hB0, hF0⟩ ih
  dsimp only at hi hB0 hF0 ih ⊢
  have hB3 : bI G M0 b2 a2 n2 d2 := hB2.fr hF0 (by simp [hx]) (by simp [hx])
  refine xr_iload C dX0_addPart_3 rfl ?_
  refine xr_iload_n C dX0_addPart_5 rfl ?_
  refine xr_icmp_ge C dX0_addPart_6 rfl (by first | omega | (dsimp only; omega)) (by first | omega | (dsimp only; omega)) (fun hq1 => ?_) (fun hq1 => ?_)
  · exact xr_vret C hr hlk ⟨rfl, ⟨d0, hB0⟩, hF0⟩ (by omega) (by omega) dX0_addPart_27
  · refine xr_aload_n C dX0_addPart_9 rfl ?_
    refine xr_aload_n C dX0_addPart_10 rfl ?_
    refine xr_iload_n C dX0_addPart_11 rfl ?_
    refine xr_iload C dX0_addPart_12 rfl ?_
    refine xr_iadd C dX0_addPart_14 ?_
    refine xr_callV1i C (c_at l G b2 a2 n2 d2 M0 hB3 (k + (i : Int)) (by omega)) (cwV 1 C.1.2.2.2.2 gX0_addPart_X0_at rfl rfl rfl (by decide +kernel) ⟨Nat.le_of_ble_eq_true rfl, Nat.le_of_ble_eq_true rfl⟩) hB3.1 rfl (Nat.le_of_ble_eq_true rfl) ⟨by dsimp only; omega, by dsimp only; omega⟩ dX0_addPart_15 (fun r2 M9 hp9 => ?_)
    obtain ⟨rfl, rfl⟩ := hp9
    refine xr_callV1v C (c_addL l G b a n _ M0 hB0 (mq_gd d2 (k + (i : Int))) (mq_gd_lt hB3.2.2.2.2.1 _)) (cwV 1 C.1.2.2.2.2 gX0_addPart_X0_add rfl rfl rfl (by decide +kernel) ⟨Nat.le_of_ble_eq_true rfl, Nat.le_of_ble_eq_true rfl⟩) hB0.1 rfl (Nat.le_of_ble_eq_true rfl) ⟨by dsimp only; omega, by dsimp only; omega⟩ dX0_addPart_18 (fun M1 hp1 => ?_)
    obtain ⟨⟨d4, hB1, -⟩, hF1⟩ := hp1
    refine xr_iinc C dX0_addPart_21 rfl (by decide) rfl ?_
    refine xr_goto C dX0_addPart_24 rfl ?_
    exact ih (i + 1, M1, d4) ⟨by dsimp only; omega, hB1, hF0.tr hF1⟩ (by dsimp only; omega)
set_option maxHeartbeats 4000000 in
set_option maxRecDepth 100000 in
theorem c_isRun (l : Launch) (G : mq_G) (b a n : Nat) (d : List Nat) (M : mq_M) (hB : bI G M b a n d) (k : Int) (hk : 0 ≤ k ∧ k < 100000) : mq_T l yX6_isRun wsX6_isRun { frames := 1, cells := 0, slots := 0, locals := 21 } G [.ref b, .int (zI k)] M (mq_pi (fun r M2 => (r = 0 ∨ r = 1) ∧ M = M2)) 0 0 := by
  refine mq_Met.of (cc := cX6_isRun) (maxL := 2) (ret := (some .boolean)) (by decide) rfl (Nat.le_of_ble_eq_true rfl) rfl rfl ?_
  intro p_ e_ s_ m_ args_ below_ meth_ c_ z_ C hr hlk hname
  have hn : d.length ≤ 50000 := Nat.le_trans hB.2.2.1 hB.2.2.2.1
  refine xr_iload_n C dX6_isRun_0 rfl ?_
  refine xr_iconst (n := 2) C dX6_isRun_1 (by decide +kernel) ?_
  refine xr_iadd C dX6_isRun_2 ?_
  refine xr_aload_n C dX6_isRun_3 rfl ?_
  refine xr_callV0i C (c_size l G b a n d M hB) (cwV 0 C.1.2.2.2.2 gX6_isRun_X0_size rfl rfl rfl (by decide +kernel) ⟨Nat.le_of_ble_eq_true rfl, Nat.le_of_ble_eq_true rfl⟩) hB.1 rfl (Nat.le_of_ble_eq_true rfl) ⟨by dsimp only; omega, by dsimp only; omega⟩ dX6_isRun_4 (fun r1 M9 hp9 => ?_)
  obtain ⟨rfl, rfl⟩ := hp9
  refine xr_icmp_ge C dX6_isRun_7 rfl (by first | omega | (dsimp only; omega)) (by first | omega | (dsimp only; omega)) (fun hq2 => ?_) (fun hq2 => ?_)
  · refine xr_iconst (n := 0) C dX6_isRun_44 (by decide +kernel) ?_
    exact xr_zret C hr (by decide +kernel) hlk ⟨_, rfl, Or.inl rfl, rfl⟩ (by omega) (by omega) dX6_isRun_45
  · refine xr_aload_n C dX6_isRun_10 rfl ?_
    refine xr_iload_n C dX6_isRun_11 rfl ?_
    refine xr_callV1i C (c_at l G b a n d M hB k (by omega)) (cwV 1 C.1.2.2.2.2 gX6_isRun_X0_at rfl rfl rfl (by decide +kernel) ⟨Nat.le_of_ble_eq_true rfl, Nat.le_of_ble_eq_true rfl⟩) hB.1 rfl (Nat.le_of_ble_eq_true rfl) ⟨by dsimp only; omega, by dsimp only; omega⟩ dX6_isRun_12 (fun r3 M9 hp9 => ?_)
    obtain ⟨rfl, rfl⟩ := hp9
    refine xr_aload_n C dX6_isRun_15 rfl ?_
    refine xr_iload_n C dX6_isRun_16 rfl ?_
    refine xr_iconst (n := 1) C dX6_isRun_17 (by decide +kernel) ?_
    refine xr_iadd C dX6_isRun_18 ?_
    refine xr_callV1i C (c_at l G b a n d M hB (k + 1) (by omega)) (cwV 1 C.1.2.2.2.2 gX6_isRun_X0_at rfl rfl rfl (by decide +kernel) ⟨Nat.le_of_ble_eq_true rfl, Nat.le_of_ble_eq_true rfl⟩) hB.1 rfl (Nat.le_of_ble_eq_true rfl) ⟨by dsimp only; omega, by dsimp only; omega⟩ dX6_isRun_19 (fun r4 M9 hp9 => ?_)
    obtain ⟨rfl, rfl⟩ := hp9
    have hg1 := mq_gd_lt hB.2.2.2.2.1 k
    have hg2 := mq_gd_lt hB.2.2.2.2.1 (k + 1)
    have hg3 := mq_gd_lt hB.2.2.2.2.1 (k + 2)
    refine xr_icmp_ne C dX6_isRun_22 rfl (by first | omega | (dsimp only; omega)) (by first | omega | (dsimp only; omega)) (fun hq5 => ?_) (fun hq5 => ?_)
    · refine xr_iconst (n := 0) C dX6_isRun_44 (by decide +kernel) ?_
      exact xr_zret C hr (by decide +kernel) hlk ⟨_, rfl, Or.inl rfl, rfl⟩ (by omega) (by omega) dX6_isRun_45
    · refine xr_aload_n C dX6_isRun_25 rfl ?_
      refine xr_iload_n C dX6_isRun_26 rfl ?_
      refine xr_callV1i C (c_at l G b a n d M hB k (by omega)) (cwV 1 C.1.2.2.2.2 gX6_isRun_X0_at rfl rfl rfl (by decide +kernel) ⟨Nat.le_of_ble_eq_true rfl, Nat.le_of_ble_eq_true rfl⟩) hB.1 rfl (Nat.le_of_ble_eq_true rfl) ⟨by dsimp only; omega, by dsimp only; omega⟩ dX6_isRun_27 (fun r6 M9 hp9 => ?_)
      obtain ⟨rfl, rfl⟩ := hp9
      refine xr_aload_n C dX6_isRun_30 rfl ?_
      refine xr_iload_n C dX6_isRun_31 rfl ?_
      refine xr_iconst (n := 2) C dX6_isRun_32 (by decide +kernel) ?_
      refine xr_iadd C dX6_isRun_33 ?_
      refine xr_callV1i C (c_at l G b a n d M hB (k + 2) (by omega)) (cwV 1 C.1.2.2.2.2 gX6_isRun_X0_at rfl rfl rfl (by decide +kernel) ⟨Nat.le_of_ble_eq_true rfl, Nat.le_of_ble_eq_true rfl⟩) hB.1 rfl (Nat.le_of_ble_eq_true rfl) ⟨by dsimp only; omega, by dsimp only; omega⟩ dX6_isRun_34 (fun r7 M9 hp9 => ?_)
      obtain ⟨rfl, rfl⟩ := hp9
      refine xr_icmp_ne C dX6_isRun_37 rfl (by first | omega | (dsimp only; omega)) (by first | omega | (dsimp only; omega)) (fun hq8 => ?_) (fun hq8 => ?_)
      · refine xr_iconst (n := 0) C dX6_isRun_44 (by decide +kernel) ?_
        exact xr_zret C hr (by decide +kernel) hlk ⟨_, rfl, Or.inl rfl, rfl⟩ (by omega) (by omega) dX6_isRun_45
      · refine xr_iconst (n := 1) C dX6_isRun_40 (by decide +kernel) ?_
        refine xr_goto C dX6_isRun_41 rfl ?_
        exact xr_zret C hr (by decide +kernel) hlk ⟨_, rfl, Or.inr rfl, rfl⟩ (by omega) (by omega) dX6_isRun_45
set_option maxHeartbeats 4000000 in
set_option maxRecDepth 100000 in
theorem c_alikeFrom (l : Launch) (G : mq_G) (b a n : Nat) (d : List Nat) (M : mq_M) (hB : bI G M b a n d) (k : Nat) (hk : k < d.length) : mq_T l yX6_alikeFrom wsX6_alikeFrom { frames := 1, cells := 0, slots := 0, locals := 21 } G [.ref b, .int (zI (k : Int))] M (mq_pi (fun r M2 => (1 ≤ r ∧ r ≤ 129) ∧ M = M2)) 0 0 := by
  refine mq_Met.of (cc := cX6_alikeFrom) (maxL := 4) (ret := (some .int)) (by decide) rfl (Nat.le_of_ble_eq_true rfl) rfl rfl ?_
  intro p_ e_ s_ m_ args_ below_ meth_ c_ z_ C hr hlk hname
  have hn : d.length ≤ 50000 := Nat.le_trans hB.2.2.1 hB.2.2.2.1
  refine xr_aload_n C dX6_alikeFrom_0 rfl ?_
  refine xr_callV0i C (c_size l G b a n d M hB) (cwV 0 C.1.2.2.2.2 gX6_alikeFrom_X0_size rfl rfl rfl (by decide +kernel) ⟨Nat.le_of_ble_eq_true rfl, Nat.le_of_ble_eq_true rfl⟩) hB.1 rfl (Nat.le_of_ble_eq_true rfl) ⟨by dsimp only; omega, by dsimp only; omega⟩ dX6_alikeFrom_1 (fun r1 M9 hp9 => ?_)
  obtain ⟨rfl, rfl⟩ := hp9
  refine xr_iload_n C dX6_alikeFrom_4 rfl ?_
  refine xr_sipush (n := 129) C dX6_alikeFrom_5 (by decide +kernel) ?_
  refine xr_iadd C dX6_alikeFrom_8 ?_
  refine xr_min C (by first | omega | (dsimp only; omega)) (by first | omega | (dsimp only; omega)) (C.1.2.2.2.2 (.methodLink RX6 43 Lib.Math.min.name) (by decide +kernel)) (C.1.2.2.2.2 (.static Lib.Math.min.name) (by decide +kernel)) (C.1.2.2.2.2 (.initialized "java/lang/Math") (by decide +kernel)) (C.1.2.2.2.2 (.code Lib.Math.min.name Lib.Math.min.code 2 (some .int)) (by decide +kernel)) (Nat.le_of_ble_eq_true rfl) (Nat.le_of_ble_eq_true rfl) (by dsimp only; omega) (by dsimp only; omega) dX6_alikeFrom_9 ?_
  generalize hev : min (d.length : Int) ((k : Int) + 129) = ev
  have hev1 : (k : Int) + 1 ≤ ev ∧ ev ≤ (k : Int) + 129 := by omega
  refine xr_istore_n C dX6_alikeFrom_12 (by decide) rfl ?_
  refine xr_iload_n C dX6_alikeFrom_13 rfl ?_
  refine xr_iconst (n := 1) C dX6_alikeFrom_14 (by decide +kernel) ?_
  refine xr_iadd C dX6_alikeFrom_15 ?_
  refine xr_istore_n C dX6_alikeFrom_16 (by decide) rfl ?_
  refine mq_eqL (L2 := [some (.ref b), some (.int (zI (k : Int))), some (.int (zI ev)), some (.int (zI ((k : Int) + 1 + ((0 : Nat) : Int))))]) rfl (by rw [show (k : Int) + 1 + ((0 : Nat) : Int) = (k : Int) + 1 by omega]; rfl) rfl rfl ?_
  refine mq_loop (σ := Nat) (fun y => (k : Int) + 1 + (y : Int) ≤ ev) (fun y => (ev - (k : Int)).toNat - y) (fun y => M) (fun y => [some (.ref b), some (.int (zI (k : Int))), some (.int (zI ev)), some (.int (zI ((k : Int) + 1 + (y : Int))))]) (fun y => []) ?_ 0 (by omega)
  rintro i hi ih
  try dsimp only at ih ⊢
  refine xr_iload_n C dX6_alikeFrom_17 rfl ?_
  refine xr_iload_n C dX6_alikeFrom_18 rfl ?_
  refine xr_icmp_ge C dX6_alikeFrom_19 rfl (by first | omega | (dsimp only; omega)) (by first | omega | (dsimp only; omega)) (fun hq2 => ?_) (fun hq2 => ?_)
  · refine xr_iload_n C dX6_alikeFrom_41 rfl ?_
    refine xr_iload_n C dX6_alikeFrom_42 rfl ?_
    refine xr_isub C dX6_alikeFrom_43 ?_
    exact xr_iret C hr hlk ⟨_, rfl, ⟨by omega, by omega⟩, rfl⟩ (by omega) (by omega) dX6_alikeFrom_44
  · refine xr_aload_n C dX6_alikeFrom_22 rfl ?_
    refine xr_iload_n C dX6_alikeFrom_23 rfl ?_
    refine xr_callV1i C (c_at l G b a n d M hB ((k : Int) + 1 + (i : Int)) (by omega)) (cwV 1 C.1.2.2.2.2 gX6_alikeFrom_X0_at rfl rfl rfl (by decide +kernel) ⟨Nat.le_of_ble_eq_true rfl, Nat.le_of_ble_eq_true rfl⟩) hB.1 rfl (Nat.le_of_ble_eq_true rfl) ⟨by dsimp only; omega, by dsimp only; omega⟩ dX6_alikeFrom_24 (fun r3 M9 hp9 => ?_)
    obtain ⟨rfl, rfl⟩ := hp9
    refine xr_aload_n C dX6_alikeFrom_27 rfl ?_
    refine xr_iload_n C dX6_alikeFrom_28 rfl ?_
    refine xr_callV1i C (c_at l G b a n d M hB (k : Int) (by omega)) (cwV 1 C.1.2.2.2.2 gX6_alikeFrom_X0_at rfl rfl rfl (by decide +kernel) ⟨Nat.le_of_ble_eq_true rfl, Nat.le_of_ble_eq_true rfl⟩) hB.1 rfl (Nat.le_of_ble_eq_true rfl) ⟨by dsimp only; omega, by dsimp only; omega⟩ dX6_alikeFrom_29 (fun r4 M9 hp9 => ?_)
    obtain ⟨rfl, rfl⟩ := hp9
    have hg1 := mq_gd_lt hB.2.2.2.2.1 ((k : Int) + 1 + (i : Int))
    have hg2 := mq_gd_lt hB.2.2.2.2.1 (k : Int)
    refine xr_icmp_ne C dX6_alikeFrom_32 rfl (by first | omega | (dsimp only; omega)) (by first | omega | (dsimp only; omega)) (fun hq5 => ?_) (fun hq5 => ?_)
    · refine xr_iload_n C dX6_alikeFrom_41 rfl ?_
      refine xr_iload_n C dX6_alikeFrom_42 rfl ?_
      refine xr_isub C dX6_alikeFrom_43 ?_
      exact xr_iret C hr hlk ⟨_, rfl, ⟨by omega, by omega⟩, rfl⟩ (by omega) (by omega) dX6_alikeFrom_44
    · refine xr_iinc C dX6_alikeFrom_35 rfl (by decide) rfl ?_
      refine xr_goto C dX6_alikeFrom_38 rfl ?_
      rw [show (k : Int) + 1 + (i : Int) + 1 = (k : Int) + 1 + ((i + 1 : Nat) : Int) by omega]
      exact ih (i + 1) (by omega) (by omega)
set_option maxHeartbeats 4000000 in
set_option maxRecDepth 100000 in
theorem c_apartFrom (l : Launch) (G : mq_G) (b a n : Nat) (d : List Nat) (M : mq_M) (hB : bI G M b a n d) (k : Nat) (hk : k < d.length) : mq_T l yX6_apartFrom wsX6_apartFrom { frames := 2, cells := 0, slots := 0, locals := 42 } G [.ref b, .int (zI (k : Int))] M (mq_pi (fun r M2 => (1 ≤ r ∧ r ≤ 128) ∧ M = M2)) 0 0 := by
  refine mq_Met.of (cc := cX6_apartFrom) (maxL := 4) (ret := (some .int)) (by decide) rfl (Nat.le_of_ble_eq_true rfl) rfl rfl ?_
  intro p_ e_ s_ m_ args_ below_ meth_ c_ z_ C hr hlk hname
  have hn : d.length ≤ 50000 := Nat.le_trans hB.2.2.1 hB.2.2.2.1
  refine xr_aload_n C dX6_apartFrom_0 rfl ?_
  refine xr_callV0i C (c_size l G b a n d M hB) (cwV 0 C.1.2.2.2.2 gX6_apartFrom_X0_size rfl rfl rfl (by decide +kernel) ⟨Nat.le_of_ble_eq_true rfl, Nat.le_of_ble_eq_true rfl⟩) hB.1 rfl (Nat.le_of_ble_eq_true rfl) ⟨by dsimp only; omega, by dsimp only; omega⟩ dX6_apartFrom_1 (fun r1 M9 hp9 => ?_)
  obtain ⟨rfl, rfl⟩ := hp9
  refine xr_iload_n C dX6_apartFrom_4 rfl ?_
  refine xr_sipush (n := 128) C dX6_apartFrom_5 (by decide +kernel) ?_
  refine xr_iadd C dX6_apartFrom_8 ?_
  refine xr_min C (by first | omega | (dsimp only; omega)) (by first | omega | (dsimp only; omega)) (C.1.2.2.2.2 (.methodLink RX6 43 Lib.Math.min.name) (by decide +kernel)) (C.1.2.2.2.2 (.static Lib.Math.min.name) (by decide +kernel)) (C.1.2.2.2.2 (.initialized "java/lang/Math") (by decide +kernel)) (C.1.2.2.2.2 (.code Lib.Math.min.name Lib.Math.min.code 2 (some .int)) (by decide +kernel)) (Nat.le_of_ble_eq_true rfl) (Nat.le_of_ble_eq_true rfl) (by dsimp only; omega) (by dsimp only; omega) dX6_apartFrom_9 ?_
  generalize hev : min (d.length : Int) ((k : Int) + 128) = ev
  have hev1 : (k : Int) + 1 ≤ ev ∧ ev ≤ (k : Int) + 128 := by omega
  refine xr_istore_n C dX6_apartFrom_12 (by decide) rfl ?_
  refine xr_iload_n C dX6_apartFrom_13 rfl ?_
  refine xr_iconst (n := 1) C dX6_apartFrom_14 (by decide +kernel) ?_
  refine xr_iadd C dX6_apartFrom_15 ?_
  refine xr_istore_n C dX6_apartFrom_16 (by decide) rfl ?_
  refine mq_eqL (L2 := [some (.ref b), some (.int (zI (k : Int))), some (.int (zI ev)), some (.int (zI ((k : Int) + 1 + ((0 : Nat) : Int))))]) rfl (by rw [show (k : Int) + 1 + ((0 : Nat) : Int) = (k : Int) + 1 by omega]; rfl) rfl rfl ?_
  refine mq_loop (σ := Nat) (fun y => (k : Int) + 1 + (y : Int) ≤ ev) (fun y => (ev - (k : Int)).toNat - y) (fun y => M) (fun y => [some (.ref b), some (.int (zI (k : Int))), some (.int (zI ev)), some (.int (zI ((k : Int) + 1 + (y : Int))))]) (fun y => []) ?_ 0 (by omega)
  rintro i hi ih
  try dsimp only at ih ⊢
  refine xr_iload_n C dX6_apartFrom_17 rfl ?_
  refine xr_iload_n C dX6_apartFrom_18 rfl ?_
  refine xr_icmp_ge C dX6_apartFrom_19 rfl (by first | omega | (dsimp only; omega)) (by first | omega | (dsimp only; omega)) (fun hq2 => ?_) (fun hq2 => ?_)
  · refine xr_iload_n C dX6_apartFrom_36 rfl ?_
    refine xr_iload_n C dX6_apartFrom_37 rfl ?_
    refine xr_isub C dX6_apartFrom_38 ?_
    exact xr_iret C hr hlk ⟨_, rfl, ⟨by omega, by omega⟩, rfl⟩ (by omega) (by omega) dX6_apartFrom_39
  · refine xr_aload_n C dX6_apartFrom_22 rfl ?_
    refine xr_iload_n C dX6_apartFrom_23 rfl ?_
    refine xr_callS2i C (c_isRun l G b a n d M hB ((k : Int) + 1 + (i : Int)) (by omega)) (cwS 2 C.1.2.2.2.2 gX6_apartFrom_X6_isRun rfl rfl rfl (by decide +kernel) ⟨Nat.le_of_ble_eq_true rfl, Nat.le_of_ble_eq_true rfl⟩) (Nat.le_of_ble_eq_true rfl) ⟨by dsimp only; omega, by dsimp only; omega⟩ dX6_apartFrom_24 (fun r5 M9 hp9 => ?_)
    obtain ⟨hr5, rfl⟩ := hp9
    refine xr_if_ne C dX6_apartFrom_27 rfl (by first | omega | (dsimp only; omega)) (fun hq3 => ?_) (fun hq3 => ?_)
    · refine xr_iload_n C dX6_apartFrom_36 rfl ?_
      refine xr_iload_n C dX6_apartFrom_37 rfl ?_
      refine xr_isub C dX6_apartFrom_38 ?_
      exact xr_iret C hr hlk ⟨_, rfl, ⟨by omega, by omega⟩, rfl⟩ (by omega) (by omega) dX6_apartFrom_39
    · refine xr_iinc C dX6_apartFrom_30 rfl (by decide) rfl ?_
      refine xr_goto C dX6_apartFrom_33 rfl ?_
      rw [show (k : Int) + 1 + (i : Int) + 1 = (k : Int) + 1 + ((i + 1 : Nat) : Int) by omega]
      exact ih (i + 1) (by omega) (by omega)
set_option maxHeartbeats 4000000 in
set_option maxRecDepth 100000 in
theorem c_pack (l : Launch) (G : mq_G) (b a n : Nat) (d : List Nat) (M : mq_M) (hB : bI G M b a n d) (b2 a2 n2 : Nat) (d2 : List Nat) (hB2 : bI G M b2 a2 n2 d2) (hx : b ≠ b2 ∧ b ≠ a2 ∧ a ≠ b2 ∧ a ≠ a2) : mq_T l yX6_pack wsX6_pack { frames := 3, cells := 0, slots := 0, locals := 65 } G [.ref b, .ref b2] M (mq_pv (fun M2 => (∃ d3 : List Nat, bI G M2 b2 a2 n2 d3) ∧ mq_F [b2, a2] M M2)) 0 0 := by
  refine mq_Met.of (cc := cX6_pack) (maxL := 5) (ret := none) (by decide) rfl (Nat.le_of_ble_eq_true rfl) rfl rfl ?_
  intro p_ e_ s_ m_ args_ below_ meth_ c_ z_ C hr hlk hname
  have hn : d.length ≤ 50000 := Nat.le_trans hB.2.2.1 hB.2.2.2.1
  refine xr_aload_n C dX6_pack_0 rfl ?_
  refine xr_callV0v C (c_clear l G b2 a2 n2 d2 M hB2) (cwV 0 C.1.2.2.2.2 gX6_pack_X0_clear rfl rfl rfl (by decide +kernel) ⟨Nat.le_of_ble_eq_true rfl, Nat.le_of_ble_eq_true rfl⟩) hB2.1 rfl (Nat.le_of_ble_eq_true rfl) ⟨by dsimp only; omega, by dsimp only; omega⟩ dX6_pack_1 (fun M1 hp1 => ?_)
  obtain ⟨hB3, hF1⟩ := hp1
  refine xr_iconst (n := 0) C dX6_pack_4 (by decide +kernel) ?_
  refine xr_istore_n C dX6_pack_5 (by decide) rfl ?_
  refine xr_iconst (n := 0) C dX6_pack_6 (by decide +kernel) ?_
  refine xr_istore_n C dX6_pack_7 (by decide) rfl ?_
  refine mq_loop (σ := Nat × Nat × mq_M × List Nat) (fun y => y.1 ≤ d.length + 200 ∧ y.2.1 ≤ 50000 ∧ bI G y.2.2.1 b2 a2 n2 y.2.2.2 ∧ mq_F [b2, a2] M y.2.2.1) (fun y => d.length - y.2.1) (fun y => y.2.2.1) (fun y => [some (.ref b), some (.ref b2), some (.int (zI (y.1 : Int))), some (.int (zI (y.2.1 : Int))), none]) (fun y => []) ?_ (0, 0, M1, []) ⟨Nat.zero_le _, Nat.zero_le _, hB3, hF1.mono (by simp)⟩
  rintro ⟨i, j, M0, d0⟩ ⟨hi, hj, hB0, hF0⟩ ih
  dsimp only at hi hj hB0 hF0 ih ⊢
  have hBc : bI G M0 b a n d := hB.fr hF0 (by simp [hx]) (by simp [hx])
  refine xr_iload_n C dX6_pack_8 rfl ?_
  refine xr_aload_n C dX6_pack_9 rfl ?_
  refine xr_callV0i C (c_size l G b a n d M0 hBc) (cwV 0 C.1.2.2.2.2 gX6_pack_X0_size rfl rfl rfl (by decide +kernel) ⟨Nat.le_of_ble_eq_true rfl, Nat.le_of_ble_eq_true rfl⟩) hBc.1 rfl (Nat.le_of_ble_eq_true rfl) ⟨by dsimp only; omega, by dsimp only; omega⟩ dX6_pack_10 (fun r1 M9 hp9 => ?_)
  obtain ⟨rfl, rfl⟩ := hp9
  refine xr_icmp_ge C dX6_pack_13 rfl (by first | omega | (dsimp only; omega)) (by first | omega | (dsimp only; omega)) (fun hq2 => ?_) (fun hq2 => ?_)
  · exact xr_vret C hr hlk ⟨rfl, ⟨_, hB0⟩, hF0⟩ (by omega) (by omega) dX6_pack_99
  · refine xr_iload_n C dX6_pack_16 rfl ?_
    refine xr_aload_n C dX6_pack_17 rfl ?_
    refine xr_callV0i C (c_size l G b a n d M0 hBc) (cwV 0 C.1.2.2.2.2 gX6_pack_X0_size rfl rfl rfl (by decide +kernel) ⟨Nat.le_of_ble_eq_true rfl, Nat.le_of_ble_eq_true rfl⟩) hBc.1 rfl (Nat.le_of_ble_eq_true rfl) ⟨by dsimp only; omega, by dsimp only; omega⟩ dX6_pack_18 (fun r3 M9 hp9 => ?_)
    obtain ⟨rfl, rfl⟩ := hp9
    refine xr_icmp_ge C dX6_pack_21 rfl (by first | omega | (dsimp only; omega)) (by first | omega | (dsimp only; omega)) (fun hq4 => ?_) (fun hq4 => ?_)
    · exact xr_vret C hr hlk ⟨rfl, ⟨_, hB0⟩, hF0⟩ (by omega) (by omega) dX6_pack_99
    · refine xr_aload_n C dX6_pack_24 rfl ?_
      refine xr_iload_n C dX6_pack_25 rfl ?_
      refine xr_callS2i C (c_isRun l G b a n d M0 hBc (i : Int) (by omega)) (cwS 2 C.1.2.2.2.2 gX6_pack_X6_isRun rfl rfl rfl (by decide +kernel) ⟨Nat.le_of_ble_eq_true rfl, Nat.le_of_ble_eq_true rfl⟩) (Nat.le_of_ble_eq_true rfl) ⟨by dsimp only; omega, by dsimp only; omega⟩ dX6_pack_26 (fun r5 M9 hp9 => ?_)
      obtain ⟨hr5, rfl⟩ := hp9
      refine xr_if_eq C dX6_pack_29 rfl (by first | omega | (dsimp only; omega)) (fun hq5 => ?_) (fun hq5 => ?_)
      · refine xr_aload_n C dX6_pack_65 rfl ?_
        refine xr_iload_n C dX6_pack_66 rfl ?_
        refine xr_callS2i C (c_apartFrom l G b a n d M0 hBc i (by omega)) (cwS 2 C.1.2.2.2.2 gX6_pack_X6_apartFrom rfl rfl rfl (by decide +kernel) ⟨Nat.le_of_ble_eq_true rfl, Nat.le_of_ble_eq_true rfl⟩) (Nat.le_of_ble_eq_true rfl) ⟨by dsimp only; omega, by dsimp only; omega⟩ dX6_pack_67 (fun r6 M9 hp9 => ?_)
        obtain ⟨hr6, rfl⟩ := hp9
        obtain ⟨r7, rfl⟩ := Int.eq_ofNat_of_zero_le (show 0 ≤ r6 by omega)
        change 1 ≤ (r7 : Int) ∧ (r7 : Int) ≤ 128 at hr6
        refine xr_istore C dX6_pack_70 (by decide) rfl ?_
        refine xr_aload_n C dX6_pack_72 rfl ?_
        refine xr_iload C dX6_pack_73 rfl ?_
        refine xr_iconst (n := 1) C dX6_pack_75 (by decide +kernel) ?_
        refine xr_isub C dX6_pack_76 ?_
        rw [show ((r7 : Int)) - 1 = ((r7 - 1 : Nat) : Int) by omega]
        refine xr_callV1v C (c_addL l G b2 a2 n2 d0 M0 hB0 (r7 - 1) (by omega)) (cwV 1 C.1.2.2.2.2 gX6_pack_X0_add rfl rfl rfl (by decide +kernel) ⟨Nat.le_of_ble_eq_true rfl, Nat.le_of_ble_eq_true rfl⟩) hB0.1 rfl (Nat.le_of_ble_eq_true rfl) ⟨by dsimp only; omega, by dsimp only; omega⟩ dX6_pack_77 (fun M2 hp2 => ?_)
        obtain ⟨⟨d4, hB4, -⟩, hF4⟩ := hp2
        have hBc2 : bI G M2 b a n d := hBc.fr hF4 (by simp [hx]) (by simp [hx])
        refine xr_aload_n C dX6_pack_80 rfl ?_
        refine xr_aload_n C dX6_pack_81 rfl ?_
        refine xr_iload_n C dX6_pack_82 rfl ?_
        refine xr_iload C dX6_pack_83 rfl ?_
        refine xr_callV3v C (c_addPartL l G b2 a2 n2 d4 M2 hB4 b a n d hBc2 hx (i : Int) r7 (by omega) (by omega)) (cwV 3 C.1.2.2.2.2 gX6_pack_X0_addPart rfl rfl rfl (by decide +kernel) ⟨Nat.le_of_ble_eq_true rfl, Nat.le_of_ble_eq_true rfl⟩) hB4.1 rfl (Nat.le_of_ble_eq_true rfl) ⟨by dsimp only; omega, by dsimp only; omega⟩ dX6_pack_85 (fun M3 hp3 => ?_)
        obtain ⟨⟨d5, hB5⟩, hF5⟩ := hp3
        refine xr_iload_n C dX6_pack_88 rfl ?_
        refine xr_iload C dX6_pack_89 rfl ?_
        refine xr_iadd C dX6_pack_91 ?_
        refine xr_istore_n C dX6_pack_92 (by decide) rfl ?_
        refine xr_iinc C dX6_pack_93 rfl (by decide) rfl ?_
        refine xr_goto C dX6_pack_96 rfl ?_
        refine mq_drop 4 ?_
        rw [show (i : Int) + (r7 : Int) = ((i + r7 : Nat) : Int) by omega, show (j : Int) + 1 = ((j + 1 : Nat) : Int) by omega]
        exact ih (i + r7, j + 1, M3, d5) ⟨by dsimp only; omega, by dsimp only; omega, hB5, (hF0.tr hF4).tr hF5⟩ (by dsimp only; omega)
      · refine xr_aload_n C dX6_pack_32 rfl ?_
        refine xr_iload_n C dX6_pack_33 rfl ?_
        refine xr_callS2i C (c_alikeFrom l G b a n d M0 hBc i (by omega)) (cwS 2 C.1.2.2.2.2 gX6_pack_X6_alikeFrom rfl rfl rfl (by decide +kernel) ⟨Nat.le_of_ble_eq_true rfl, Nat.le_of_ble_eq_true rfl⟩) (Nat.le_of_ble_eq_true rfl) ⟨by dsimp only; omega, by dsimp only; omega⟩ dX6_pack_34 (fun r6 M9 hp9 => ?_)
        obtain ⟨hr6, rfl⟩ := hp9
        obtain ⟨r7, rfl⟩ := Int.eq_ofNat_of_zero_le (show 0 ≤ r6 by omega)
        change 1 ≤ (r7 : Int) ∧ (r7 : Int) ≤ 129 at hr6
        refine xr_istore C dX6_pack_37 (by decide) rfl ?_
        refine xr_aload_n C dX6_pack_39 rfl ?_
        refine xr_bipush (n := 126) C dX6_pack_40 (by decide +kernel) ?_
        refine xr_iload C dX6_pack_42 rfl ?_
        refine xr_iadd C dX6_pack_44 ?_
        rw [show (126 : Int) + (r7 : Int) = ((126 + r7 : Nat) : Int) by omega]
        refine xr_callV1v C (c_addL l G b2 a2 n2 d0 M0 hB0 (126 + r7) (by omega)) (cwV 1 C.1.2.2.2.2 gX6_pack_X0_add rfl rfl rfl (by decide +kernel) ⟨Nat.le_of_ble_eq_true rfl, Nat.le_of_ble_eq_true rfl⟩) hB0.1 rfl (Nat.le_of_ble_eq_true rfl) ⟨by dsimp only; omega, by dsimp only; omega⟩ dX6_pack_45 (fun M2 hp2 => ?_)
        obtain ⟨⟨d4, hB4, -⟩, hF4⟩ := hp2
        have hBc2 : bI G M2 b a n d := hBc.fr hF4 (by simp [hx]) (by simp [hx])
        refine xr_aload_n C dX6_pack_48 rfl ?_
        refine xr_aload_n C dX6_pack_49 rfl ?_
        refine xr_iload_n C dX6_pack_50 rfl ?_
        refine xr_callV1i C (c_at l G b a n d M2 hBc2 (i : Int) (by omega)) (cwV 1 C.1.2.2.2.2 gX6_pack_X0_at rfl rfl rfl (by decide +kernel) ⟨Nat.le_of_ble_eq_true rfl, Nat.le_of_ble_eq_true rfl⟩) hBc2.1 rfl (Nat.le_of_ble_eq_true rfl) ⟨by dsimp only; omega, by dsimp only; omega⟩ dX6_pack_51 (fun r6 M9 hp9 => ?_)
        obtain ⟨rfl, rfl⟩ := hp9
        refine xr_callV1v C (c_addL l G b2 a2 n2 d4 M2 hB4 (mq_gd d (i : Int)) (mq_gd_lt hB.2.2.2.2.1 _)) (cwV 1 C.1.2.2.2.2 gX6_pack_X0_add rfl rfl rfl (by decide +kernel) ⟨Nat.le_of_ble_eq_true rfl, Nat.le_of_ble_eq_true rfl⟩) hB4.1 rfl (Nat.le_of_ble_eq_true rfl) ⟨by dsimp only; omega, by dsimp only; omega⟩ dX6_pack_54 (fun M3 hp3 => ?_)
        obtain ⟨⟨d5, hB5, -⟩, hF5⟩ := hp3
        refine xr_iload_n C dX6_pack_57 rfl ?_
        refine xr_iload C dX6_pack_58 rfl ?_
        refine xr_iadd C dX6_pack_60 ?_
        refine xr_istore_n C dX6_pack_61 (by decide) rfl ?_
        refine xr_goto C dX6_pack_62 rfl ?_
        refine xr_iinc C dX6_pack_93 rfl (by decide) rfl ?_
        refine xr_goto C dX6_pack_96 rfl ?_
        refine mq_drop 4 ?_
        rw [show (i : Int) + (r7 : Int) = ((i + r7 : Nat) : Int) by omega, show (j : Int) + 1 = ((j + 1 : Nat) : Int) by omega]
        exact ih (i + r7, j + 1, M3, d5) ⟨by dsimp only; omega, by dsimp only; omega, hB5, (hF0.tr hF4).tr hF5⟩ (by dsimp only; omega)
