set_option maxHeartbeats 4000000 in
set_option maxRecDepth 100000 in
theorem c_size (l : Launch) (G : mq_G) (b a n : Nat) (d : List Nat) (M : mq_M) (hB : bI G M b a n d) : mq_T l yX0_size wsX0_size { frames := 0, cells := 0, slots := 0, locals := 0 } G [.ref b] M (mq_pi (fun r M2 => r = (d.length : Int) ∧ M2 = M)) 0 0 := by
  refine mq_Met.of (cc := cX0_size) (maxL := 1) (ret := (some .int)) (by decide) rfl (Nat.le_of_ble_eq_true rfl) rfl rfl ?_
  intro p e s m args below meth c z C hr hlk hname
  obtain ⟨h1, h2, h3, h4, h5, f, h6, h7⟩ := hB
  refine xr_aload_n C dX0_size_0 rfl ?_
  refine xr_get C (Cn := RX0) (T := TX0) (N := 2) (by decide +kernel) h1 rfl 1 (by decide) (C.1.2.2.2.2 (.fieldLink RX0 13 "OssuaryVault$Bytes" "size" "I") (by decide +kernel)) (fun _ h => h) rfl dX0_size_1 ?_
  exact xr_iret C hr hlk ⟨_, rfl, rfl, rfl⟩ (by omega) (by omega) dX0_size_4
set_option maxHeartbeats 4000000 in
set_option maxRecDepth 100000 in
theorem c_at (l : Launch) (G : mq_G) (b a n : Nat) (d : List Nat) (M : mq_M) (hB : bI G M b a n d) (k : Int) (hk : -2147483648 ≤ k ∧ k < 2147483648) : mq_T l yX0_at wsX0_at { frames := 0, cells := 0, slots := 0, locals := 0 } G [.ref b, .int (zI k)] M (mq_pi (fun r M2 => r = (mq_gd d k : Int) ∧ M2 = M)) 0 0 := by
  refine mq_Met.of (cc := cX0_at) (maxL := 2) (ret := (some .int)) (by decide) rfl (Nat.le_of_ble_eq_true rfl) rfl rfl ?_
  intro p e s m args below meth c z C hr hlk hname
  obtain ⟨h1, h2, h3, h4, h5, f, h6, h7⟩ := hB
  refine xr_iload_n C dX0_at_0 rfl ?_
  refine xr_if_lt C dX0_at_1 rfl (by omega) (fun hq1 => ?_) (fun hq1 => ?_)
  · refine xr_iconst (n := 0) C dX0_at_30 (by decide +kernel) ?_
    exact xr_iret C hr hlk ⟨_, rfl, by simp [mq_gd, show ¬ 0 ≤ k by omega], rfl⟩ (by omega) (by omega) dX0_at_31
  · refine xr_iload_n C dX0_at_4 rfl ?_
    refine xr_aload_n C dX0_at_5 rfl ?_
    refine xr_get C (Cn := RX0) (T := TX0) (N := 2) (by decide +kernel) h1 rfl 1 (by decide) (C.1.2.2.2.2 (.fieldLink RX0 13 "OssuaryVault$Bytes" "size" "I") (by decide +kernel)) (fun _ h => h) rfl dX0_at_6 ?_
    refine xr_icmp_ge C dX0_at_9 rfl (by omega) (by omega) (fun hq2 => ?_) (fun hq2 => ?_)
    · refine xr_iconst (n := 0) C dX0_at_30 (by decide +kernel) ?_
      exact xr_iret C hr hlk ⟨_, rfl, by rw [show k = (k.toNat : Int) by omega, mq_gd_nat, List.getD_eq_getElem?_getD, List.getElem?_eq_none (by omega)]; rfl, rfl⟩ (by omega) (by omega) dX0_at_31
    · refine xr_iload_n C dX0_at_12 rfl ?_
      refine xr_aload_n C dX0_at_13 rfl ?_
      refine xr_get C (Cn := RX0) (T := TX0) (N := 2) (by decide +kernel) h1 rfl 0 (by decide) (C.1.2.2.2.2 (.fieldLink RX0 7 "OssuaryVault$Bytes" "cells" "[I") (by decide +kernel)) (fun _ h => h) rfl dX0_at_14 ?_
      refine xr_alen C h6 mq_tI dX0_at_17 ?_
      refine xr_icmp_ge C dX0_at_18 rfl (by omega) (by omega) (fun hq => absurd hq (by omega)) (fun _ => ?_)
      refine xr_aload_n C dX0_at_21 rfl ?_
      refine xr_get C (Cn := RX0) (T := TX0) (N := 2) (by decide +kernel) h1 rfl 0 (by decide) (C.1.2.2.2.2 (.fieldLink RX0 7 "OssuaryVault$Bytes" "cells" "[I") (by decide +kernel)) (fun _ h => h) rfl dX0_at_22 ?_
      refine xr_iload_n C dX0_at_25 rfl ?_
      refine xr_iald C h6 mq_tI (by omega) (by omega) (by omega) dX0_at_26 ?_
      rw [h7 k.toNat (by omega)]
      refine xr_goto C dX0_at_27 rfl ?_
      exact xr_iret C hr hlk ⟨_, rfl, by simp [mq_gd, show 0 ≤ k by omega], rfl⟩ (by omega) (by omega) dX0_at_31
