set_option maxHeartbeats 4000000 in
set_option maxRecDepth 100000 in
theorem c_fillFromS (l : Launch) (G : mq_G) (b a n : Nat) (d : List Nat) (M : mq_M) (hB : bI G M b a n d) : mq_T l yX0_fillFrom wsX0_fillFrom { frames := 2, cells := 0, slots := 0, locals := 45 } G [.ref b, .ref b] M (mq_pv (fun M2 => M = M2)) 0 0 := by
  refine mq_Met.of (cc := cX0_fillFrom) (maxL := 2) (ret := none) (by decide) rfl (Nat.le_of_ble_eq_true rfl) rfl rfl ?_
  intro p_ e_ s_ m_ args_ below_ meth_ c_ z_ C hr hlk hname
  refine xr_aload_n C dX0_fillFrom_0 rfl ?_
  refine xr_aload_n C dX0_fillFrom_1 rfl ?_
  refine xr_acmp_eq_y C dX0_fillFrom_2 rfl ?_
  exact xr_vret C hr hlk ⟨rfl, rfl⟩ (by omega) (by omega) dX0_fillFrom_19
set_option maxHeartbeats 4000000 in
set_option maxRecDepth 100000 in
theorem c_vsameAs (l : Launch) (G : mq_G) (x ch b a : Nat) (h : Bool) (d : List Nat) (vd : Int) (M : mq_M) (hV : voI G M x ch b a h d vd) (x2 b2 a2 : Nat) (h2 : Bool) (d2 : List Nat) (vd2 : Int) (hV2 : voI G M x2 ch b2 a2 h2 d2 vd2) : mq_T l yX10_sameAs wsX10_sameAs { frames := 2, cells := 0, slots := 0, locals := 43 } G [.ref x, .ref x2] M (mq_ri M (if h = h2 ∧ d = d2 then 1 else 0)) 0 0 := by
  refine mq_Met.of (cc := cX10_sameAs) (maxL := 2) (ret := (some .boolean)) (by decide) rfl (Nat.le_of_ble_eq_true rfl) rfl rfl ?_
  intro p_ e_ s_ m_ args_ below_ meth_ c_ z_ C hr hlk hname
  refine xr_aload_n C dX10_sameAs_0 rfl ?_
  refine xr_get C (Cn := RX10) (T := TX10) (N := 4) (by decide +kernel) hV.1 rfl 2 (by decide) (C.1.2.2.2.2 (.fieldLink RX10 24 "OssuaryVault$Volume" "here" "Z") (by decide +kernel)) (fun _ h => h) rfl dX10_sameAs_1 ?_
  refine xr_aload_n C dX10_sameAs_4 rfl ?_
  refine xr_get C (Cn := RX10) (T := TX10) (N := 4) (by decide +kernel) hV2.1 rfl 2 (by decide) (C.1.2.2.2.2 (.fieldLink RX10 24 "OssuaryVault$Volume" "here" "Z") (by decide +kernel)) (fun _ h => h) rfl dX10_sameAs_5 ?_
  by_cases hh : h = h2
  · subst hh
    refine xr_icmp_ne C dX10_sameAs_8 rfl (by cases h <;> decide) (by cases h <;> decide) (fun hq => absurd hq (by simp)) (fun _ => ?_)
    refine xr_aload_n C dX10_sameAs_11 rfl ?_
    refine xr_get C (Cn := RX10) (T := TX10) (N := 4) (by decide +kernel) hV.1 rfl 1 (by decide) (C.1.2.2.2.2 (.fieldLink RX10 14 "OssuaryVault$Volume" "bytes" "LOssuaryVault$Bytes;") (by decide +kernel)) (fun _ h => h) rfl dX10_sameAs_12 ?_
    refine xr_aload_n C dX10_sameAs_15 rfl ?_
    refine xr_get C (Cn := RX10) (T := TX10) (N := 4) (by decide +kernel) hV2.1 rfl 1 (by decide) (C.1.2.2.2.2 (.fieldLink RX10 14 "OssuaryVault$Volume" "bytes" "LOssuaryVault$Bytes;") (by decide +kernel)) (fun _ h => h) rfl dX10_sameAs_16 ?_
    refine xr_callV1i C (c_sameAs l G b a 4080 d M hV.2 b2 a2 4080 d2 hV2.2) (cwV 1 C.1.2.2.2.2 gX10_sameAs_X0_sameAs rfl rfl rfl (by decide +kernel) ⟨Nat.le_of_ble_eq_true rfl, Nat.le_of_ble_eq_true rfl⟩) hV.2.1 rfl (Nat.le_of_ble_eq_true rfl) ⟨by dsimp only; omega, by dsimp only; omega⟩ dX10_sameAs_19 (fun r1 M9 hp9 => ?_)
    obtain ⟨rfl, rfl⟩ := hp9
    by_cases hd : d = d2
    · rw [if_pos hd]
      refine xr_if_eq C dX10_sameAs_22 rfl (by decide) (fun hq => absurd hq (by decide)) (fun _ => ?_)
      refine xr_iconst (n := 1) C dX10_sameAs_25 (by decide +kernel) ?_
      refine xr_goto C dX10_sameAs_26 rfl ?_
      exact xr_zret C hr (by decide +kernel) hlk ⟨_, rfl, by rw [if_pos ⟨rfl, hd⟩], rfl⟩ (by omega) (by omega) dX10_sameAs_30
    · rw [if_neg hd]
      refine xr_if_eq C dX10_sameAs_22 rfl (by decide) (fun _ => ?_) (fun hq => absurd hq (by decide))
      refine xr_iconst (n := 0) C dX10_sameAs_29 (by decide +kernel) ?_
      exact xr_zret C hr (by decide +kernel) hlk ⟨_, rfl, by rw [if_neg (fun q => hd q.2)], rfl⟩ (by omega) (by omega) dX10_sameAs_30
  · refine xr_icmp_ne C dX10_sameAs_8 rfl (by first | (cases h <;> decide) | (cases h2 <;> decide)) (by first | (cases h <;> decide) | (cases h2 <;> decide)) (fun _ => ?_) (fun hq => absurd hq (by cases h <;> cases h2 <;> first | exact absurd rfl hh | decide))
    refine xr_iconst (n := 0) C dX10_sameAs_29 (by decide +kernel) ?_
    exact xr_zret C hr (by decide +kernel) hlk ⟨_, rfl, by rw [if_neg (fun q => hh q.1)], rfl⟩ (by omega) (by omega) dX10_sameAs_30
set_option maxHeartbeats 4000000 in
set_option maxRecDepth 100000 in
theorem c_become (l : Launch) (G : mq_G) (x ch b a : Nat) (h : Bool) (d : List Nat) (vd : Int) (M : mq_M) (hV : voI G M x ch b a h d vd) (x2 b2 a2 : Nat) (h2 : Bool) (d2 : List Nat) (vd2 : Int) (hV2 : voI G M x2 ch b2 a2 h2 d2 vd2) (hN : [x, b, a, x2, b2, a2].Nodup) : mq_T l yX10_become wsX10_become { frames := 3, cells := 0, slots := 0, locals := 66 } G [.ref x, .ref x2] M (mq_pv (fun M2 => voI G M2 x ch b a h2 d2 vd2 ∧ mq_F [x, b, a] M M2)) 0 0 := by
  refine mq_Met.of (cc := cX10_become) (maxL := 2) (ret := none) (by decide) rfl (Nat.le_of_ble_eq_true rfl) rfl rfl ?_
  intro p_ e_ s_ m_ args_ below_ meth_ c_ z_ C hr hlk hname
  have n_x_b : x ≠ b := mq_nd hN 0 1 rfl
  have n_x_a : x ≠ a := mq_nd hN 0 2 rfl
  have n_x_x2 : x ≠ x2 := mq_nd hN 0 3 rfl
  have n_x_b2 : x ≠ b2 := mq_nd hN 0 4 rfl
  have n_x_a2 : x ≠ a2 := mq_nd hN 0 5 rfl
  have n_b_x : b ≠ x := mq_nd hN 1 0 rfl
  have n_b_a : b ≠ a := mq_nd hN 1 2 rfl
  have n_b_x2 : b ≠ x2 := mq_nd hN 1 3 rfl
  have n_b_b2 : b ≠ b2 := mq_nd hN 1 4 rfl
  have n_b_a2 : b ≠ a2 := mq_nd hN 1 5 rfl
  have n_a_x : a ≠ x := mq_nd hN 2 0 rfl
  have n_a_b : a ≠ b := mq_nd hN 2 1 rfl
  have n_a_x2 : a ≠ x2 := mq_nd hN 2 3 rfl
  have n_a_b2 : a ≠ b2 := mq_nd hN 2 4 rfl
  have n_a_a2 : a ≠ a2 := mq_nd hN 2 5 rfl
  have n_x2_x : x2 ≠ x := mq_nd hN 3 0 rfl
  have n_x2_b : x2 ≠ b := mq_nd hN 3 1 rfl
  have n_x2_a : x2 ≠ a := mq_nd hN 3 2 rfl
  have n_x2_b2 : x2 ≠ b2 := mq_nd hN 3 4 rfl
  have n_x2_a2 : x2 ≠ a2 := mq_nd hN 3 5 rfl
  have n_b2_x : b2 ≠ x := mq_nd hN 4 0 rfl
  have n_b2_b : b2 ≠ b := mq_nd hN 4 1 rfl
  have n_b2_a : b2 ≠ a := mq_nd hN 4 2 rfl
  have n_b2_x2 : b2 ≠ x2 := mq_nd hN 4 3 rfl
  have n_b2_a2 : b2 ≠ a2 := mq_nd hN 4 5 rfl
  have n_a2_x : a2 ≠ x := mq_nd hN 5 0 rfl
  have n_a2_b : a2 ≠ b := mq_nd hN 5 1 rfl
  have n_a2_a : a2 ≠ a := mq_nd hN 5 2 rfl
  have n_a2_x2 : a2 ≠ x2 := mq_nd hN 5 3 rfl
  have n_a2_b2 : a2 ≠ b2 := mq_nd hN 5 4 rfl
  refine xr_aload_n C dX10_become_0 rfl ?_
  refine xr_aload_n C dX10_become_1 rfl ?_
  refine xr_get C (Cn := RX10) (T := TX10) (N := 4) (by decide +kernel) hV2.1 rfl 2 (by decide) (C.1.2.2.2.2 (.fieldLink RX10 24 "OssuaryVault$Volume" "here" "Z") (by decide +kernel)) (fun _ h => h) rfl dX10_become_2 ?_
  refine xr_put C (Cn := RX10) (T := TX10) (N := 4) (by decide +kernel) hV.1 rfl 2 (by decide) tyX10 tyX10_ok nmX10 (C.1.2.2.2.2 (.fieldLink RX10 24 "OssuaryVault$Volume" "here" "Z") (by decide +kernel)) (fun _ h => h) rfl (tyX10_ok 2 (by decide)) (by cases h2 <;> rfl) (by cases h2 <;> rfl) (Nat.le_of_ble_eq_true rfl) dX10_become_5 ?_
  refine mq_ren (fun M1 hM1 => ?_)
  have hF1 : mq_F [x] M M1 := mq_F.up hM1 (by simp)
  have hV1 : voI G M1 x ch b a h2 d vd := ⟨by rw [hM1, mq_up_s]; rfl, hV.2.fr hF1 (by simp [n_b_x]) (by simp [n_a_x])⟩
  have hW1 : voI G M1 x2 ch b2 a2 h2 d2 vd2 := hV2.fr hF1 (by simp [n_x2_x]) (by simp [n_b2_x]) (by simp [n_a2_x])
  refine xr_aload_n C dX10_become_8 rfl ?_
  refine xr_get C (Cn := RX10) (T := TX10) (N := 4) (by decide +kernel) hV1.1 rfl 1 (by decide) (C.1.2.2.2.2 (.fieldLink RX10 14 "OssuaryVault$Volume" "bytes" "LOssuaryVault$Bytes;") (by decide +kernel)) (fun _ h => h) rfl dX10_become_9 ?_
  refine xr_aload_n C dX10_become_12 rfl ?_
  refine xr_get C (Cn := RX10) (T := TX10) (N := 4) (by decide +kernel) hW1.1 rfl 1 (by decide) (C.1.2.2.2.2 (.fieldLink RX10 14 "OssuaryVault$Volume" "bytes" "LOssuaryVault$Bytes;") (by decide +kernel)) (fun _ h => h) rfl dX10_become_13 ?_
  refine xr_callV1v C (c_fillFrom l G b a 4080 d M1 hV1.2 b2 a2 4080 d2 hW1.2 ⟨n_b2_b, n_b2_a, n_a2_b, n_a2_a⟩ hW1.2.2.2.1) (cwV 1 C.1.2.2.2.2 gX10_become_X0_fillFrom rfl rfl rfl (by decide +kernel) ⟨Nat.le_of_ble_eq_true rfl, Nat.le_of_ble_eq_true rfl⟩) hV1.2.1 rfl (Nat.le_of_ble_eq_true rfl) ⟨by dsimp only; omega, by dsimp only; omega⟩ dX10_become_16 (fun M2 hp2 => ?_)
  obtain ⟨hB2, hF2⟩ := hp2
  have hx2 := (hF2 x (by simp [n_x_b, n_x_a])).trans hV1.1
  have hW2 : voI G M2 x2 ch b2 a2 h2 d2 vd2 := hW1.fr hF2 (by simp [n_x2_b, n_x2_a]) (by simp [n_b2_b, n_b2_a]) (by simp [n_a2_b, n_a2_a])
  refine xr_aload_n C dX10_become_19 rfl ?_
  refine xr_aload_n C dX10_become_20 rfl ?_
  refine xr_get C (Cn := RX10) (T := TX10) (N := 4) (by decide +kernel) hW2.1 rfl 3 (by decide) (C.1.2.2.2.2 (.fieldLink RX10 42 "OssuaryVault$Volume" "verdict" "I") (by decide +kernel)) (fun _ h => h) rfl dX10_become_21 ?_
  refine xr_put C (Cn := RX10) (T := TX10) (N := 4) (by decide +kernel) hx2 rfl 3 (by decide) tyX10 tyX10_ok nmX10 (C.1.2.2.2.2 (.fieldLink RX10 42 "OssuaryVault$Volume" "verdict" "I") (by decide +kernel)) (fun _ h => h) rfl (tyX10_ok 3 (by decide)) rfl rfl (Nat.le_of_ble_eq_true rfl) dX10_become_24 ?_
  refine mq_ren (fun M2 hM2 => ?_)
  exact xr_vret C hr hlk ⟨rfl, ⟨by rw [hM2, mq_up_s]; rfl, hB2.fr (mq_F.up hM2 (List.mem_singleton.mpr rfl)) (by simp [n_b_x]) (by simp [n_a_x])⟩, ((hF1.mono (by simp)).tr (hF2.mono (by simp))).tr (mq_F.up hM2 (by simp))⟩ (by omega) (by omega) dX10_become_27
set_option maxHeartbeats 4000000 in
set_option maxRecDepth 100000 in
theorem c_becomeS (l : Launch) (G : mq_G) (x ch b a : Nat) (h : Bool) (d : List Nat) (vd : Int) (M : mq_M) (hV : voI G M x ch b a h d vd) (hN : [x, b, a].Nodup) : mq_T l yX10_become wsX10_become { frames := 3, cells := 0, slots := 0, locals := 66 } G [.ref x, .ref x] M (mq_pv (fun M2 => voI G M2 x ch b a h d vd ∧ mq_F [x, b, a] M M2)) 0 0 := by
  refine mq_Met.of (cc := cX10_become) (maxL := 2) (ret := none) (by decide) rfl (Nat.le_of_ble_eq_true rfl) rfl rfl ?_
  intro p_ e_ s_ m_ args_ below_ meth_ c_ z_ C hr hlk hname
  have n_b_x : b ≠ x := mq_nd hN 1 0 rfl
  have n_a_x : a ≠ x := mq_nd hN 2 0 rfl
  refine xr_aload_n C dX10_become_0 rfl ?_
  refine xr_aload_n C dX10_become_1 rfl ?_
  refine xr_get C (Cn := RX10) (T := TX10) (N := 4) (by decide +kernel) hV.1 rfl 2 (by decide) (C.1.2.2.2.2 (.fieldLink RX10 24 "OssuaryVault$Volume" "here" "Z") (by decide +kernel)) (fun _ h => h) rfl dX10_become_2 ?_
  refine xr_put C (Cn := RX10) (T := TX10) (N := 4) (by decide +kernel) hV.1 rfl 2 (by decide) tyX10 tyX10_ok nmX10 (C.1.2.2.2.2 (.fieldLink RX10 24 "OssuaryVault$Volume" "here" "Z") (by decide +kernel)) (fun _ h => h) rfl (tyX10_ok 2 (by decide)) (by cases h <;> rfl) (by cases h <;> rfl) (Nat.le_of_ble_eq_true rfl) dX10_become_5 ?_
  refine mq_ren (fun M1 hM1 => ?_)
  have hF1 : mq_F [x] M M1 := mq_F.up hM1 (by simp)
  have hV1 : voI G M1 x ch b a h d vd := ⟨by rw [hM1, mq_up_s]; rfl, hV.2.fr hF1 (by simp [n_b_x]) (by simp [n_a_x])⟩
  refine xr_aload_n C dX10_become_8 rfl ?_
  refine xr_get C (Cn := RX10) (T := TX10) (N := 4) (by decide +kernel) hV1.1 rfl 1 (by decide) (C.1.2.2.2.2 (.fieldLink RX10 14 "OssuaryVault$Volume" "bytes" "LOssuaryVault$Bytes;") (by decide +kernel)) (fun _ h => h) rfl dX10_become_9 ?_
  refine xr_aload_n C dX10_become_12 rfl ?_
  refine xr_get C (Cn := RX10) (T := TX10) (N := 4) (by decide +kernel) hV1.1 rfl 1 (by decide) (C.1.2.2.2.2 (.fieldLink RX10 14 "OssuaryVault$Volume" "bytes" "LOssuaryVault$Bytes;") (by decide +kernel)) (fun _ h => h) rfl dX10_become_13 ?_
  refine xr_callV1v C (c_fillFromS l G b a 4080 d M1 hV1.2) (cwV 1 C.1.2.2.2.2 gX10_become_X0_fillFrom rfl rfl rfl (by decide +kernel) ⟨Nat.le_of_ble_eq_true rfl, Nat.le_of_ble_eq_true rfl⟩) hV1.2.1 rfl (Nat.le_of_ble_eq_true rfl) ⟨by dsimp only; omega, by dsimp only; omega⟩ dX10_become_16 (fun M2 hp2 => ?_)
  subst hp2
  refine xr_aload_n C dX10_become_19 rfl ?_
  refine xr_aload_n C dX10_become_20 rfl ?_
  refine xr_get C (Cn := RX10) (T := TX10) (N := 4) (by decide +kernel) hV1.1 rfl 3 (by decide) (C.1.2.2.2.2 (.fieldLink RX10 42 "OssuaryVault$Volume" "verdict" "I") (by decide +kernel)) (fun _ h => h) rfl dX10_become_21 ?_
  refine xr_put C (Cn := RX10) (T := TX10) (N := 4) (by decide +kernel) hV1.1 rfl 3 (by decide) tyX10 tyX10_ok nmX10 (C.1.2.2.2.2 (.fieldLink RX10 42 "OssuaryVault$Volume" "verdict" "I") (by decide +kernel)) (fun _ h => h) rfl (tyX10_ok 3 (by decide)) rfl rfl (Nat.le_of_ble_eq_true rfl) dX10_become_24 ?_
  refine mq_ren (fun M2 hM2 => ?_)
  exact xr_vret C hr hlk ⟨rfl, ⟨by rw [hM2, mq_up_s]; rfl, hV1.2.fr (mq_F.up hM2 (List.mem_singleton.mpr rfl)) (by simp [n_b_x]) (by simp [n_a_x])⟩, (hF1.mono (by simp)).tr (mq_F.up hM2 (by simp))⟩ (by omega) (by omega) dX10_become_27
set_option maxHeartbeats 4000000 in
set_option maxRecDepth 100000 in
theorem c_begin (l : Launch) (G : mq_G) (x ch b a : Nat) (h : Bool) (d : List Nat) (vd : Int) (M : mq_M) (hV : voI G M x ch b a h d vd) (hN : [x, b, a].Nodup) (nb dn pn sb : Nat) (hnb : nb < 256) (hdn : dn < 256) (hpn : pn < 256) (hsb : sb < 65536) (hbd : bdS sb dn ≤ 4070) : mq_T l yX10_begin wsX10_begin { frames := 2, cells := 0, slots := 0, locals := 44 } G [.ref x, .int (zI (nb : Int)), .int (zI (dn : Int)), .int (zI (pn : Int)), .int (zI (sb : Int))] M (mq_pv (fun M2 => voI G M2 x ch b a true (vHd nb dn pn (bdS sb dn) sb ++ List.replicate (bdS sb dn) 0) 0 ∧ mq_F [x, b, a] M M2)) 0 0 := by
  refine mq_Met.of (cc := cX10_begin) (maxL := 6) (ret := none) (by decide) rfl (Nat.le_of_ble_eq_true rfl) rfl rfl ?_
  intro p_ e_ s_ m_ args_ below_ meth_ c_ z_ C hr hlk hname
  have n_x_b : x ≠ b := mq_nd hN 0 1 rfl
  have n_x_a : x ≠ a := mq_nd hN 0 2 rfl
  have n_b_x : b ≠ x := mq_nd hN 1 0 rfl
  have n_a_x : a ≠ x := mq_nd hN 2 0 rfl
  refine xr_iload C dX10_begin_0 rfl ?_
  refine xr_iload_n C dX10_begin_2 rfl ?_
  refine xr_callS2iN C (c_bodySize l G M sb dn (by omega) (by omega)) ⟨va_cnB 2 C.1.2.2.2.2 ggX10_begin_X11_bodySize rfl rfl rfl (C.2.2.2.1 ("OssuaryVault$Volume", 54, ⟨"OssuaryVault", "bodySize", "(II)I"⟩, "OssuaryVault") (by decide +kernel)) (C.1.2.2.2.2 (.initialized RX11) (by decide +kernel)) (by decide +kernel) ⟨Nat.le_of_ble_eq_true rfl, Nat.le_of_ble_eq_true rfl⟩, C.1.2.2.2.2 (.static yX11_bodySize) (by decide +kernel), trivial⟩ (Nat.le_of_ble_eq_true rfl) ⟨by dsimp only; omega, by dsimp only; omega⟩ dX10_begin_3 (fun r1 M9 hp9 => ?_)
  obtain ⟨rfl, rfl⟩ := hp9
  generalize hbv : bdS sb dn = bd at hbd ⊢
  refine xr_istore C dX10_begin_6 (by decide) rfl ?_
  refine xr_aload_n C dX10_begin_8 rfl ?_
  refine xr_iconst (n := 1) C dX10_begin_9 (by decide +kernel) ?_
  refine xr_put C (Cn := RX10) (T := TX10) (N := 4) (by decide +kernel) hV.1 rfl 2 (by decide) tyX10 tyX10_ok nmX10 (C.1.2.2.2.2 (.fieldLink RX10 24 "OssuaryVault$Volume" "here" "Z") (by decide +kernel)) (fun _ h => h) rfl (tyX10_ok 2 (by decide)) rfl rfl (Nat.le_of_ble_eq_true rfl) dX10_begin_10 ?_
  refine mq_ren (fun M2 hM2 => ?_)
  have hF1 : mq_F [x] M M2 := mq_F.up hM2 (by simp)
  have hx1 : M2 x = some (.inr (9, [.ref ch, .ref b, .int (zI 1), .int (zI vd)])) := by rw [hM2, mq_up_s]; rfl
  refine xr_aload_n C dX10_begin_13 rfl ?_
  refine xr_iconst (n := 0) C dX10_begin_14 (by decide +kernel) ?_
  refine xr_put C (Cn := RX10) (T := TX10) (N := 4) (by decide +kernel) hx1 rfl 3 (by decide) tyX10 tyX10_ok nmX10 (C.1.2.2.2.2 (.fieldLink RX10 42 "OssuaryVault$Volume" "verdict" "I") (by decide +kernel)) (fun _ h => h) rfl (tyX10_ok 3 (by decide)) rfl rfl (Nat.le_of_ble_eq_true rfl) dX10_begin_15 ?_
  refine mq_ren (fun M3 hM3 => ?_)
  have hF2 : mq_F [x] M2 M3 := mq_F.up hM3 (by simp)
  have hx2 : M3 x = some (.inr (9, [.ref ch, .ref b, .int (zI 1), .int (zI 0)])) := by rw [hM3, mq_up_s]; rfl
  have hB2 : bI G M3 b a 4080 d := hV.2.fr (hF1.tr hF2) (by simp [n_b_x]) (by simp [n_a_x])
  refine xr_aload_n C dX10_begin_18 rfl ?_
  refine xr_get C (Cn := RX10) (T := TX10) (N := 4) (by decide +kernel) hx2 rfl 1 (by decide) (C.1.2.2.2.2 (.fieldLink RX10 14 "OssuaryVault$Volume" "bytes" "LOssuaryVault$Bytes;") (by decide +kernel)) (fun _ h => h) rfl dX10_begin_19 ?_
  refine xr_callV0v C (c_clear l G b a 4080 d M3 hB2) (cwV 0 C.1.2.2.2.2 gX10_begin_X0_clear rfl rfl rfl (by decide +kernel) ⟨Nat.le_of_ble_eq_true rfl, Nat.le_of_ble_eq_true rfl⟩) hB2.1 rfl (Nat.le_of_ble_eq_true rfl) ⟨by dsimp only; omega, by dsimp only; omega⟩ dX10_begin_22 (fun N0 hq0 => ?_)
  obtain ⟨hC0, hG0⟩ := hq0
  have hy0 := (hG0 x (by simp [n_x_b])).trans hx2
  refine xr_aload_n C dX10_begin_25 rfl ?_
  refine xr_get C (Cn := RX10) (T := TX10) (N := 4) (by decide +kernel) hy0 rfl 1 (by decide) (C.1.2.2.2.2 (.fieldLink RX10 14 "OssuaryVault$Volume" "bytes" "LOssuaryVault$Bytes;") (by decide +kernel)) (fun _ h => h) rfl dX10_begin_26 ?_
  refine xr_bipush (n := 86) C dX10_begin_29 (by decide +kernel) ?_
  refine xr_callV1v C (c_add l G b a 4080 _ N0 hC0 86 (by decide) (by simp)) (cwV 1 C.1.2.2.2.2 gX10_begin_X0_add rfl rfl rfl (by decide +kernel) ⟨Nat.le_of_ble_eq_true rfl, Nat.le_of_ble_eq_true rfl⟩) hC0.1 rfl (Nat.le_of_ble_eq_true rfl) ⟨by dsimp only; omega, by dsimp only; omega⟩ dX10_begin_31 (fun N1 hq1 => ?_)
  obtain ⟨hC1, hG1⟩ := hq1
  have hy1 := (hG1 x (by simp [n_x_b, n_x_a])).trans hy0
  refine xr_aload_n C dX10_begin_34 rfl ?_
  refine xr_get C (Cn := RX10) (T := TX10) (N := 4) (by decide +kernel) hy1 rfl 1 (by decide) (C.1.2.2.2.2 (.fieldLink RX10 14 "OssuaryVault$Volume" "bytes" "LOssuaryVault$Bytes;") (by decide +kernel)) (fun _ h => h) rfl dX10_begin_35 ?_
  refine xr_iload_n C dX10_begin_38 rfl ?_
  refine xr_callV1v C (c_add l G b a 4080 _ N1 hC1 nb hnb (by simp)) (cwV 1 C.1.2.2.2.2 gX10_begin_X0_add rfl rfl rfl (by decide +kernel) ⟨Nat.le_of_ble_eq_true rfl, Nat.le_of_ble_eq_true rfl⟩) hC1.1 rfl (Nat.le_of_ble_eq_true rfl) ⟨by dsimp only; omega, by dsimp only; omega⟩ dX10_begin_39 (fun N2 hq2 => ?_)
  obtain ⟨hC2, hG2⟩ := hq2
  have hy2 := (hG2 x (by simp [n_x_b, n_x_a])).trans hy1
  refine xr_aload_n C dX10_begin_42 rfl ?_
  refine xr_get C (Cn := RX10) (T := TX10) (N := 4) (by decide +kernel) hy2 rfl 1 (by decide) (C.1.2.2.2.2 (.fieldLink RX10 14 "OssuaryVault$Volume" "bytes" "LOssuaryVault$Bytes;") (by decide +kernel)) (fun _ h => h) rfl dX10_begin_43 ?_
  refine xr_iload_n C dX10_begin_46 rfl ?_
  refine xr_callV1v C (c_add l G b a 4080 _ N2 hC2 dn hdn (by simp)) (cwV 1 C.1.2.2.2.2 gX10_begin_X0_add rfl rfl rfl (by decide +kernel) ⟨Nat.le_of_ble_eq_true rfl, Nat.le_of_ble_eq_true rfl⟩) hC2.1 rfl (Nat.le_of_ble_eq_true rfl) ⟨by dsimp only; omega, by dsimp only; omega⟩ dX10_begin_47 (fun N3 hq3 => ?_)
  obtain ⟨hC3, hG3⟩ := hq3
  have hy3 := (hG3 x (by simp [n_x_b, n_x_a])).trans hy2
  refine xr_aload_n C dX10_begin_50 rfl ?_
  refine xr_get C (Cn := RX10) (T := TX10) (N := 4) (by decide +kernel) hy3 rfl 1 (by decide) (C.1.2.2.2.2 (.fieldLink RX10 14 "OssuaryVault$Volume" "bytes" "LOssuaryVault$Bytes;") (by decide +kernel)) (fun _ h => h) rfl dX10_begin_51 ?_
  refine xr_iload_n C dX10_begin_54 rfl ?_
  refine xr_callV1v C (c_add l G b a 4080 _ N3 hC3 pn hpn (by simp)) (cwV 1 C.1.2.2.2.2 gX10_begin_X0_add rfl rfl rfl (by decide +kernel) ⟨Nat.le_of_ble_eq_true rfl, Nat.le_of_ble_eq_true rfl⟩) hC3.1 rfl (Nat.le_of_ble_eq_true rfl) ⟨by dsimp only; omega, by dsimp only; omega⟩ dX10_begin_55 (fun N4 hq4 => ?_)
  obtain ⟨hC4, hG4⟩ := hq4
  have hy4 := (hG4 x (by simp [n_x_b, n_x_a])).trans hy3
  refine xr_aload_n C dX10_begin_58 rfl ?_
  refine xr_get C (Cn := RX10) (T := TX10) (N := 4) (by decide +kernel) hy4 rfl 1 (by decide) (C.1.2.2.2.2 (.fieldLink RX10 14 "OssuaryVault$Volume" "bytes" "LOssuaryVault$Bytes;") (by decide +kernel)) (fun _ h => h) rfl dX10_begin_59 ?_
  refine xr_iload C dX10_begin_62 rfl ?_
  refine xr_callV1v C (c_addWord l G b a 4080 _ N4 hC4 bd (by omega) (by simp)) (cwV 1 C.1.2.2.2.2 gX10_begin_X0_addWord rfl rfl rfl (by decide +kernel) ⟨Nat.le_of_ble_eq_true rfl, Nat.le_of_ble_eq_true rfl⟩) hC4.1 rfl (Nat.le_of_ble_eq_true rfl) ⟨by dsimp only; omega, by dsimp only; omega⟩ dX10_begin_64 (fun N5 hq5 => ?_)
  obtain ⟨hC5, hG5⟩ := hq5
  have hy5 := (hG5 x (by simp [n_x_b, n_x_a])).trans hy4
  refine xr_aload_n C dX10_begin_67 rfl ?_
  refine xr_get C (Cn := RX10) (T := TX10) (N := 4) (by decide +kernel) hy5 rfl 1 (by decide) (C.1.2.2.2.2 (.fieldLink RX10 14 "OssuaryVault$Volume" "bytes" "LOssuaryVault$Bytes;") (by decide +kernel)) (fun _ h => h) rfl dX10_begin_68 ?_
  refine xr_iload C dX10_begin_71 rfl ?_
  refine xr_callV1v C (c_addWord l G b a 4080 _ N5 hC5 sb hsb (by simp)) (cwV 1 C.1.2.2.2.2 gX10_begin_X0_addWord rfl rfl rfl (by decide +kernel) ⟨Nat.le_of_ble_eq_true rfl, Nat.le_of_ble_eq_true rfl⟩) hC5.1 rfl (Nat.le_of_ble_eq_true rfl) ⟨by dsimp only; omega, by dsimp only; omega⟩ dX10_begin_73 (fun N6 hq6 => ?_)
  obtain ⟨hC6, hG6⟩ := hq6
  have hy6 := (hG6 x (by simp [n_x_b, n_x_a])).trans hy5
  refine xr_aload_n C dX10_begin_76 rfl ?_
  refine xr_get C (Cn := RX10) (T := TX10) (N := 4) (by decide +kernel) hy6 rfl 1 (by decide) (C.1.2.2.2.2 (.fieldLink RX10 14 "OssuaryVault$Volume" "bytes" "LOssuaryVault$Bytes;") (by decide +kernel)) (fun _ h => h) rfl dX10_begin_77 ?_
  refine xr_iconst (n := 0) C dX10_begin_80 (by decide +kernel) ?_
  refine xr_callV1v C (c_addWord l G b a 4080 _ N6 hC6 0 (by decide) (by simp)) (cwV 1 C.1.2.2.2.2 gX10_begin_X0_addWord rfl rfl rfl (by decide +kernel) ⟨Nat.le_of_ble_eq_true rfl, Nat.le_of_ble_eq_true rfl⟩) hC6.1 rfl (Nat.le_of_ble_eq_true rfl) ⟨by dsimp only; omega, by dsimp only; omega⟩ dX10_begin_81 (fun N7 hq7 => ?_)
  obtain ⟨hC7, hG7⟩ := hq7
  have hy7 := (hG7 x (by simp [n_x_b, n_x_a])).trans hy6
  refine xr_aload_n C dX10_begin_84 rfl ?_
  refine xr_get C (Cn := RX10) (T := TX10) (N := 4) (by decide +kernel) hy7 rfl 1 (by decide) (C.1.2.2.2.2 (.fieldLink RX10 14 "OssuaryVault$Volume" "bytes" "LOssuaryVault$Bytes;") (by decide +kernel)) (fun _ h => h) rfl dX10_begin_85 ?_
  refine xr_iconst (n := 0) C dX10_begin_88 (by decide +kernel) ?_
  refine xr_iload C dX10_begin_89 rfl ?_
  refine xr_callV2v C (c_addTimes l G b a 4080 _ N7 hC7 0 (by decide) bd (by simp; omega)) (cwV 2 C.1.2.2.2.2 gX10_begin_X0_addTimes rfl rfl rfl (by decide +kernel) ⟨Nat.le_of_ble_eq_true rfl, Nat.le_of_ble_eq_true rfl⟩) hC7.1 rfl (Nat.le_of_ble_eq_true rfl) ⟨by dsimp only; omega, by dsimp only; omega⟩ dX10_begin_91 (fun N8 hq8 => ?_)
  obtain ⟨hC8, hG8⟩ := hq8
  have hy8 := (hG8 x (by simp [n_x_b, n_x_a])).trans hy7
  exact xr_vret C hr hlk ⟨rfl, ⟨hy8, by simpa [vHd] using hC8⟩, ((hF1.tr hF2).mono (by simp)).tr ((hG0.mono (by simp)).tr ((((((((hG1.mono (by simp)).tr (hG2.mono (by simp))).tr (hG3.mono (by simp))).tr (hG4.mono (by simp))).tr (hG5.mono (by simp))).tr (hG6.mono (by simp))).tr (hG7.mono (by simp))).tr (hG8.mono (by simp))))⟩ (by omega) (by omega) dX10_begin_94
