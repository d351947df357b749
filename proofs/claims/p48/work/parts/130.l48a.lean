/-! ===== p48: the law's small methods ===== -/
set_option maxHeartbeats 4000000 in
set_option maxRecDepth 100000 in
theorem l_below (l : Launch) (G : mq_G) (M : mq_M) (v n : Int) (hn : 0 < n ∧ n < 2147483648) : mq_T l yL_below wsL_below { frames := 0, cells := 0, slots := 0, locals := 0 } G [.int (zI v), .int (zI n)] M (mq_pi (fun r M2 => (0 ≤ r ∧ r < n) ∧ M = M2)) 0 0 := by
  refine mq_Met.of (cc := cL_below) (maxL := 2) (ret := (some .int)) (by decide) rfl (Nat.le_of_ble_eq_true rfl) rfl rfl ?_
  intro p_ e_ s_ m_ args_ below_ meth_ c_ z_ C hr hlk hname
  refine xr_iload_n C dL_below_0 rfl ?_
  refine xr_ldc (k0 := 2147483647) C (C.1.2.2.2.2 (.constant RL 7 (zI 2147483647)) (by decide +kernel)) dL_below_1 ?_
  obtain ⟨j, hj, ej⟩ := pk_andE (zI v) (m := zI 2147483647) 31 (by decide +kernel)
  refine xr_iand (w := (j : Int)) C dL_below_3 (by rw [ej]; rfl) ?_
  refine xr_iload_n C dL_below_4 rfl ?_
  refine xr_irem C dL_below_5 (by omega) (by omega) ?_
  exact xr_iret C hr hlk ⟨_, rfl, ⟨Int.emod_nonneg _ (by omega), Int.emod_lt_of_pos _ hn.1⟩, rfl⟩ (by omega) (by omega) dL_below_6
set_option maxHeartbeats 4000000 in
set_option maxRecDepth 100000 in
theorem l_cell (l : Launch) (G : mq_G) (sb sn : Nat) (sx : Nat → Int32) (hG : qG G sb sn sx) (hsn : sn < 1000) (M : mq_M) (k : Int) (hk : 0 ≤ k ∧ k < 1000) : mq_T l yL_cell wsL_cell { frames := 0, cells := 0, slots := 0, locals := 0 } G [.ref sb, .int (zI k)] M (mq_pi (fun r M2 => M = M2)) 0 0 := by
  refine mq_Met.of (cc := cL_cell) (maxL := 2) (ret := (some .int)) (by decide) rfl (Nat.le_of_ble_eq_true rfl) rfl rfl ?_
  intro p_ e_ s_ m_ args_ below_ meth_ c_ z_ C hr hlk hname
  refine xr_iload_n C dL_cell_0 rfl ?_
  refine xr_aload_n C dL_cell_1 rfl ?_
  refine xr_slen C (hG.old C).1 dL_cell_2 ?_
  refine xr_icmp_ge C dL_cell_3 rfl (by omega) (by omega) (fun hq1 => ?_) (fun hq1 => ?_)
  · refine xr_ldc (k0 := 790386105) C (C.1.2.2.2.2 (.constant RL 8 (zI 790386105)) (by decide +kernel)) dL_cell_12 ?_
    refine xr_iload_n C dL_cell_14 rfl ?_
    refine xr_iconst (n := 3) C dL_cell_15 (by decide +kernel) ?_
    refine xr_iadd C dL_cell_16 ?_
    refine xr_imul C dL_cell_17 ?_
    exact xr_iret C hr hlk ⟨_, rfl, rfl⟩ (by omega) (by omega) dL_cell_18
  · refine xr_aload_n C dL_cell_6 rfl ?_
    refine xr_iload_n C dL_cell_7 rfl ?_
    obtain ⟨y, ey, hy⟩ := zI_of (sx k.toNat)
    refine xr_sld C (hG.old C).1 (by omega) (by omega) (by omega) dL_cell_8 ?_
    rw [ey]
    refine xr_goto C dL_cell_9 rfl ?_
    exact xr_iret C hr hlk ⟨_, rfl, rfl⟩ (by omega) (by omega) dL_cell_18
set_option maxHeartbeats 4000000 in
set_option maxRecDepth 100000 in
theorem l_draw (l : Launch) (G : mq_G) (sn : Nat) (sx : Nat → Int32) (x v b : Nat) (dr fl : Int) (ka ca : Nat) (M : mq_M) (hM : ldI M x v b dr fl ka ca) (hG : qG G b sn sx) (hsn : sn < 1000) (hdr : 0 ≤ dr ∧ dr < 10000000) (n : Int) (hn : 0 < n ∧ n < 2147483648) : mq_T l yX12_draw wsX12_draw { frames := 1, cells := 0, slots := 0, locals := 21 } G [.ref x, .int (zI n)] M (mq_pi (fun r M2 => (0 ≤ r ∧ r < n) ∧ M2 = mq_up M x (.inr (11, [.ref v, .ref b, .int (zI (dr + 1)), .int (zI fl), .ref ka, .ref ca])))) 0 0 := by
  refine mq_Met.of (cc := cX12_draw) (maxL := 3) (ret := (some .int)) (by decide) rfl (Nat.le_of_ble_eq_true rfl) rfl rfl ?_
  intro p_ e_ s_ m_ args_ below_ meth_ c_ z_ C hr hlk hname
  refine xr_aload_n C dX12_draw_0 rfl ?_
  refine xr_get C (Cn := RX12) (T := TX12) (N := 6) (by decide +kernel) hM rfl 1 (by decide) (C.1.2.2.2.2 (.fieldLink RX12 25 "OssuaryVaultLaw$Desk" "s" "[I") (by decide +kernel)) (fun _ h => h) rfl dX12_draw_1 ?_
  refine xr_aload_n C dX12_draw_4 rfl ?_
  refine xr_get C (Cn := RX12) (T := TX12) (N := 6) (by decide +kernel) hM rfl 2 (by decide) (C.1.2.2.2.2 (.fieldLink RX12 28 "OssuaryVaultLaw$Desk" "draws" "I") (by decide +kernel)) (fun _ h => h) rfl dX12_draw_5 ?_
  refine xr_bipush (n := 24) C dX12_draw_8 (by decide +kernel) ?_
  refine xr_irem C dX12_draw_10 (by omega) (by omega) ?_
  refine xr_callS2iN C (l_cell l G b sn sx hG hsn M (dr % 24) (by omega)) ⟨va_cnB 2 C.1.2.2.2.2 ggX12_draw_L_cell rfl rfl rfl (C.2.2.2.1 ("OssuaryVaultLaw$Desk", 32, ⟨"OssuaryVaultLaw", "cell", "([II)I"⟩, "OssuaryVaultLaw") (by decide +kernel)) (C.1.2.2.2.2 (.initialized RL) (by decide +kernel)) (by decide +kernel) ⟨Nat.le_of_ble_eq_true rfl, Nat.le_of_ble_eq_true rfl⟩, C.1.2.2.2.2 (.static yL_cell) (by decide +kernel), trivial⟩ (Nat.le_of_ble_eq_true rfl) ⟨by dsimp only; omega, by dsimp only; omega⟩ dX12_draw_11 (fun r9 M9 hp9 => ?_)
  obtain rfl := hp9
  refine xr_aload_n C dX12_draw_14 rfl ?_
  refine xr_get C (Cn := RX12) (T := TX12) (N := 6) (by decide +kernel) hM rfl 2 (by decide) (C.1.2.2.2.2 (.fieldLink RX12 28 "OssuaryVaultLaw$Desk" "draws" "I") (by decide +kernel)) (fun _ h => h) rfl dX12_draw_15 ?_
  refine xr_bipush (n := 24) C dX12_draw_18 (by decide +kernel) ?_
  refine xr_idiv C dX12_draw_20 (by omega) (by omega) ?_
  refine xr_bipush (n := 8) C dX12_draw_21 (by decide +kernel) ?_
  refine xr_irem C dX12_draw_23 (by omega) (by omega) ?_
  obtain ⟨y, ey, hy⟩ := zI_of (zI r9 >>> (zI (dr / 24 % 8) &&& 31))
  refine xr_ishr (w := y) C dX12_draw_24 ey ?_
  refine xr_bipush (n := 41) C dX12_draw_25 (by decide +kernel) ?_
  refine xr_aload_n C dX12_draw_27 rfl ?_
  refine xr_get C (Cn := RX12) (T := TX12) (N := 6) (by decide +kernel) hM rfl 2 (by decide) (C.1.2.2.2.2 (.fieldLink RX12 28 "OssuaryVaultLaw$Desk" "draws" "I") (by decide +kernel)) (fun _ h => h) rfl dX12_draw_28 ?_
  refine xr_imul C dX12_draw_31 ?_
  refine xr_iadd C dX12_draw_32 ?_
  refine xr_iload_n C dX12_draw_33 rfl ?_
  refine xr_callS2iN C (l_below l G M _ n hn) ⟨va_cnB 2 C.1.2.2.2.2 ggX12_draw_L_below rfl rfl rfl (C.2.2.2.1 ("OssuaryVaultLaw$Desk", 38, ⟨"OssuaryVaultLaw", "below", "(II)I"⟩, "OssuaryVaultLaw") (by decide +kernel)) (C.1.2.2.2.2 (.initialized RL) (by decide +kernel)) (by decide +kernel) ⟨Nat.le_of_ble_eq_true rfl, Nat.le_of_ble_eq_true rfl⟩, C.1.2.2.2.2 (.static yL_below) (by decide +kernel), trivial⟩ (Nat.le_of_ble_eq_true rfl) ⟨by dsimp only; omega, by dsimp only; omega⟩ dX12_draw_34 (fun r8 M8 hp8 => ?_)
  obtain ⟨hr8, rfl⟩ := hp8
  refine xr_istore_n C dX12_draw_37 (by decide) rfl ?_
  refine xr_aload_n C dX12_draw_38 rfl ?_
  refine xr_dup C dX12_draw_39 rfl ?_
  refine xr_get C (Cn := RX12) (T := TX12) (N := 6) (by decide +kernel) hM rfl 2 (by decide) (C.1.2.2.2.2 (.fieldLink RX12 28 "OssuaryVaultLaw$Desk" "draws" "I") (by decide +kernel)) (fun _ h => h) rfl dX12_draw_40 ?_
  refine xr_iconst (n := 1) C dX12_draw_43 (by decide +kernel) ?_
  refine xr_iadd C dX12_draw_44 ?_
  refine xr_put C (Cn := RX12) (T := TX12) (N := 6) (by decide +kernel) hM rfl 2 (by decide) tyX12 tyX12_ok nmX12 (C.1.2.2.2.2 (.fieldLink RX12 28 "OssuaryVaultLaw$Desk" "draws" "I") (by decide +kernel)) (fun _ h => h) rfl (tyX12_ok 2 (by decide)) rfl rfl (Nat.le_of_ble_eq_true rfl) dX12_draw_45 ?_
  refine mq_ren (fun M1 hM1 => ?_)
  refine xr_iload_n C dX12_draw_48 rfl ?_
  exact xr_iret C hr hlk ⟨_, rfl, hr8, hM1⟩ (by omega) (by omega) dX12_draw_49
