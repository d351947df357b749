set_option maxHeartbeats 4000000 in
set_option maxRecDepth 100000 in
theorem c_bodySize (l : Launch) (G : mq_G) (M : mq_M) (sb dn : Nat) (hs : sb < 1000000) (hd : dn < 1000000) : mq_T l yX11_bodySize wsX11_bodySize { frames := 0, cells := 0, slots := 0, locals := 0 } G [.int (zI (sb : Int)), .int (zI (dn : Int))] M (mq_ri M (bdS sb dn : Int)) 0 0 := by
  refine mq_Met.of (cc := cX11_bodySize) (maxL := 2) (ret := (some .int)) (by decide) rfl (Nat.le_of_ble_eq_true rfl) rfl rfl ?_
  intro p_ e_ s_ m_ args_ below_ meth_ c_ z_ C hr hlk hname
  refine xr_iload_n C dX11_bodySize_0 rfl ?_
  refine xr_if_le C dX11_bodySize_1 rfl (by first | omega | (dsimp only; omega)) (fun hq1 => ?_) (fun hq1 => ?_)
  · refine xr_iconst (n := 0) C dX11_bodySize_14 (by decide +kernel) ?_
    exact xr_iret C hr hlk ⟨_, rfl, by unfold bdS; rw [if_neg (by omega)]; rfl, rfl⟩ (by omega) (by omega) dX11_bodySize_15
  · refine xr_iload_n C dX11_bodySize_4 rfl ?_
    refine xr_iload_n C dX11_bodySize_5 rfl ?_
    refine xr_iadd C dX11_bodySize_6 ?_
    refine xr_iconst (n := 1) C dX11_bodySize_7 (by decide +kernel) ?_
    refine xr_isub C dX11_bodySize_8 ?_
    refine xr_iload_n C dX11_bodySize_9 rfl ?_
    refine xr_idiv C dX11_bodySize_10 (by omega) (by omega) ?_
    refine xr_goto C dX11_bodySize_11 rfl ?_
    exact xr_iret C hr hlk ⟨_, rfl, by unfold bdS; rw [if_pos (by omega), show (sb : Int) + (dn : Int) - 1 = ((sb + dn - 1 : Nat) : Int) by omega]; rfl, rfl⟩ (by omega) (by omega) dX11_bodySize_15
set_option maxHeartbeats 4000000 in
set_option maxRecDepth 100000 in
theorem c_isHere (l : Launch) (G : mq_G) (x ch b a : Nat) (h : Bool) (d : List Nat) (vd : Int) (M : mq_M) (hV : voI G M x ch b a h d vd) : mq_T l yX10_isHere wsX10_isHere { frames := 0, cells := 0, slots := 0, locals := 0 } G [.ref x] M (mq_ri M (mq_b h)) 0 0 := by
  refine mq_Met.of (cc := cX10_isHere) (maxL := 1) (ret := (some .boolean)) (by decide) rfl (Nat.le_of_ble_eq_true rfl) rfl rfl ?_
  intro p_ e_ s_ m_ args_ below_ meth_ c_ z_ C hr hlk hname
  cases h
  · refine xr_aload_n C dX10_isHere_0 rfl ?_
    refine xr_get C (Cn := RX10) (T := TX10) (N := 4) (by decide +kernel) hV.1 rfl 2 (by decide) (C.1.2.2.2.2 (.fieldLink RX10 24 "OssuaryVault$Volume" "here" "Z") (by decide +kernel)) (fun _ h => h) rfl dX10_isHere_1 ?_
    exact xr_zret C hr (by decide +kernel) hlk ⟨_, rfl, rfl, rfl⟩ (by omega) (by omega) dX10_isHere_4
  · refine xr_aload_n C dX10_isHere_0 rfl ?_
    refine xr_get C (Cn := RX10) (T := TX10) (N := 4) (by decide +kernel) hV.1 rfl 2 (by decide) (C.1.2.2.2.2 (.fieldLink RX10 24 "OssuaryVault$Volume" "here" "Z") (by decide +kernel)) (fun _ h => h) rfl dX10_isHere_1 ?_
    exact xr_zret C hr (by decide +kernel) hlk ⟨_, rfl, rfl, rfl⟩ (by omega) (by omega) dX10_isHere_4
set_option maxHeartbeats 4000000 in
set_option maxRecDepth 100000 in
theorem c_vsize (l : Launch) (G : mq_G) (x ch b a : Nat) (h : Bool) (d : List Nat) (vd : Int) (M : mq_M) (hV : voI G M x ch b a h d vd) : mq_T l yX10_size wsX10_size { frames := 1, cells := 0, slots := 0, locals := 20 } G [.ref x] M (mq_ri M (vsz h d)) 0 0 := by
  refine mq_Met.of (cc := cX10_size) (maxL := 1) (ret := (some .int)) (by decide) rfl (Nat.le_of_ble_eq_true rfl) rfl rfl ?_
  intro p_ e_ s_ m_ args_ below_ meth_ c_ z_ C hr hlk hname
  cases h
  · refine xr_aload_n C dX10_size_0 rfl ?_
    refine xr_get C (Cn := RX10) (T := TX10) (N := 4) (by decide +kernel) hV.1 rfl 2 (by decide) (C.1.2.2.2.2 (.fieldLink RX10 24 "OssuaryVault$Volume" "here" "Z") (by decide +kernel)) (fun _ h => h) rfl dX10_size_1 ?_
    refine xr_if_eq C dX10_size_4 rfl (by decide) (fun _ => ?_) (fun hq => absurd hq (by decide))
    refine xr_iconst (n := (-1)) C dX10_size_17 (by decide +kernel) ?_
    exact xr_iret C hr hlk ⟨_, rfl, rfl, rfl⟩ (by omega) (by omega) dX10_size_18
  · refine xr_aload_n C dX10_size_0 rfl ?_
    refine xr_get C (Cn := RX10) (T := TX10) (N := 4) (by decide +kernel) hV.1 rfl 2 (by decide) (C.1.2.2.2.2 (.fieldLink RX10 24 "OssuaryVault$Volume" "here" "Z") (by decide +kernel)) (fun _ h => h) rfl dX10_size_1 ?_
    refine xr_if_eq C dX10_size_4 rfl (by decide) (fun hq => absurd hq (by decide)) (fun _ => ?_)
    refine xr_aload_n C dX10_size_7 rfl ?_
    refine xr_get C (Cn := RX10) (T := TX10) (N := 4) (by decide +kernel) hV.1 rfl 1 (by decide) (C.1.2.2.2.2 (.fieldLink RX10 14 "OssuaryVault$Volume" "bytes" "LOssuaryVault$Bytes;") (by decide +kernel)) (fun _ h => h) rfl dX10_size_8 ?_
    refine xr_callV0i C (c_size l G b a 4080 d M hV.2) (cwV 0 C.1.2.2.2.2 gX10_size_X0_size rfl rfl rfl (by decide +kernel) ⟨Nat.le_of_ble_eq_true rfl, Nat.le_of_ble_eq_true rfl⟩) hV.2.1 rfl (Nat.le_of_ble_eq_true rfl) ⟨by dsimp only; omega, by dsimp only; omega⟩ dX10_size_11 (fun r1 M9 hp9 => ?_)
    obtain ⟨rfl, rfl⟩ := hp9
    refine xr_goto C dX10_size_14 rfl ?_
    exact xr_iret C hr hlk ⟨_, rfl, rfl, rfl⟩ (by omega) (by omega) dX10_size_18
set_option maxHeartbeats 4000000 in
set_option maxRecDepth 100000 in
theorem c_number (l : Launch) (G : mq_G) (x ch b a : Nat) (h : Bool) (d : List Nat) (vd : Int) (M : mq_M) (hV : voI G M x ch b a h d vd) : mq_T l yX10_number wsX10_number { frames := 1, cells := 0, slots := 0, locals := 21 } G [.ref x] M (mq_ri M (mq_gd d 1 : Int)) 0 0 := by
  refine mq_Met.of (cc := cX10_number) (maxL := 1) (ret := (some .int)) (by decide) rfl (Nat.le_of_ble_eq_true rfl) rfl rfl ?_
  intro p_ e_ s_ m_ args_ below_ meth_ c_ z_ C hr hlk hname
  refine xr_aload_n C dX10_number_0 rfl ?_
  refine xr_get C (Cn := RX10) (T := TX10) (N := 4) (by decide +kernel) hV.1 rfl 1 (by decide) (C.1.2.2.2.2 (.fieldLink RX10 14 "OssuaryVault$Volume" "bytes" "LOssuaryVault$Bytes;") (by decide +kernel)) (fun _ h => h) rfl dX10_number_1 ?_
  refine xr_iconst (n := 1) C dX10_number_4 (by decide +kernel) ?_
  refine xr_callV1i C (c_at l G b a 4080 d M hV.2 1 (by decide)) (cwV 1 C.1.2.2.2.2 gX10_number_X0_at rfl rfl rfl (by decide +kernel) ⟨Nat.le_of_ble_eq_true rfl, Nat.le_of_ble_eq_true rfl⟩) hV.2.1 rfl (Nat.le_of_ble_eq_true rfl) ⟨by dsimp only; omega, by dsimp only; omega⟩ dX10_number_5 (fun r1 M9 hp9 => ?_)
  obtain ⟨rfl, rfl⟩ := hp9
  exact xr_iret C hr hlk ⟨_, rfl, rfl, rfl⟩ (by omega) (by omega) dX10_number_8
set_option maxHeartbeats 4000000 in
set_option maxRecDepth 100000 in
theorem c_dataTold (l : Launch) (G : mq_G) (x ch b a : Nat) (h : Bool) (d : List Nat) (vd : Int) (M : mq_M) (hV : voI G M x ch b a h d vd) : mq_T l yX10_dataTold wsX10_dataTold { frames := 1, cells := 0, slots := 0, locals := 21 } G [.ref x] M (mq_ri M (mq_gd d 2 : Int)) 0 0 := by
  refine mq_Met.of (cc := cX10_dataTold) (maxL := 1) (ret := (some .int)) (by decide) rfl (Nat.le_of_ble_eq_true rfl) rfl rfl ?_
  intro p_ e_ s_ m_ args_ below_ meth_ c_ z_ C hr hlk hname
  refine xr_aload_n C dX10_dataTold_0 rfl ?_
  refine xr_get C (Cn := RX10) (T := TX10) (N := 4) (by decide +kernel) hV.1 rfl 1 (by decide) (C.1.2.2.2.2 (.fieldLink RX10 14 "OssuaryVault$Volume" "bytes" "LOssuaryVault$Bytes;") (by decide +kernel)) (fun _ h => h) rfl dX10_dataTold_1 ?_
  refine xr_iconst (n := 2) C dX10_dataTold_4 (by decide +kernel) ?_
  refine xr_callV1i C (c_at l G b a 4080 d M hV.2 2 (by decide)) (cwV 1 C.1.2.2.2.2 gX10_dataTold_X0_at rfl rfl rfl (by decide +kernel) ⟨Nat.le_of_ble_eq_true rfl, Nat.le_of_ble_eq_true rfl⟩) hV.2.1 rfl (Nat.le_of_ble_eq_true rfl) ⟨by dsimp only; omega, by dsimp only; omega⟩ dX10_dataTold_5 (fun r1 M9 hp9 => ?_)
  obtain ⟨rfl, rfl⟩ := hp9
  exact xr_iret C hr hlk ⟨_, rfl, rfl, rfl⟩ (by omega) (by omega) dX10_dataTold_8
set_option maxHeartbeats 4000000 in
set_option maxRecDepth 100000 in
theorem c_parityTold (l : Launch) (G : mq_G) (x ch b a : Nat) (h : Bool) (d : List Nat) (vd : Int) (M : mq_M) (hV : voI G M x ch b a h d vd) : mq_T l yX10_parityTold wsX10_parityTold { frames := 1, cells := 0, slots := 0, locals := 21 } G [.ref x] M (mq_ri M (mq_gd d 3 : Int)) 0 0 := by
  refine mq_Met.of (cc := cX10_parityTold) (maxL := 1) (ret := (some .int)) (by decide) rfl (Nat.le_of_ble_eq_true rfl) rfl rfl ?_
  intro p_ e_ s_ m_ args_ below_ meth_ c_ z_ C hr hlk hname
  refine xr_aload_n C dX10_parityTold_0 rfl ?_
  refine xr_get C (Cn := RX10) (T := TX10) (N := 4) (by decide +kernel) hV.1 rfl 1 (by decide) (C.1.2.2.2.2 (.fieldLink RX10 14 "OssuaryVault$Volume" "bytes" "LOssuaryVault$Bytes;") (by decide +kernel)) (fun _ h => h) rfl dX10_parityTold_1 ?_
  refine xr_iconst (n := 3) C dX10_parityTold_4 (by decide +kernel) ?_
  refine xr_callV1i C (c_at l G b a 4080 d M hV.2 3 (by decide)) (cwV 1 C.1.2.2.2.2 gX10_parityTold_X0_at rfl rfl rfl (by decide +kernel) ⟨Nat.le_of_ble_eq_true rfl, Nat.le_of_ble_eq_true rfl⟩) hV.2.1 rfl (Nat.le_of_ble_eq_true rfl) ⟨by dsimp only; omega, by dsimp only; omega⟩ dX10_parityTold_5 (fun r1 M9 hp9 => ?_)
  obtain ⟨rfl, rfl⟩ := hp9
  exact xr_iret C hr hlk ⟨_, rfl, rfl, rfl⟩ (by omega) (by omega) dX10_parityTold_8
set_option maxHeartbeats 4000000 in
set_option maxRecDepth 100000 in
theorem c_bodyTold (l : Launch) (G : mq_G) (x ch b a : Nat) (h : Bool) (d : List Nat) (vd : Int) (M : mq_M) (hV : voI G M x ch b a h d vd) : mq_T l yX10_bodyTold wsX10_bodyTold { frames := 2, cells := 0, slots := 0, locals := 42 } G [.ref x] M (mq_ri M (mq_wd d 4 : Int)) 0 0 := by
  refine mq_Met.of (cc := cX10_bodyTold) (maxL := 1) (ret := (some .int)) (by decide) rfl (Nat.le_of_ble_eq_true rfl) rfl rfl ?_
  intro p_ e_ s_ m_ args_ below_ meth_ c_ z_ C hr hlk hname
  refine xr_aload_n C dX10_bodyTold_0 rfl ?_
  refine xr_get C (Cn := RX10) (T := TX10) (N := 4) (by decide +kernel) hV.1 rfl 1 (by decide) (C.1.2.2.2.2 (.fieldLink RX10 14 "OssuaryVault$Volume" "bytes" "LOssuaryVault$Bytes;") (by decide +kernel)) (fun _ h => h) rfl dX10_bodyTold_1 ?_
  refine xr_iconst (n := 4) C dX10_bodyTold_4 (by decide +kernel) ?_
  refine xr_callV1i C (c_word l G b a 4080 d M hV.2 4 (by decide)) (cwV 1 C.1.2.2.2.2 gX10_bodyTold_X0_word rfl rfl rfl (by decide +kernel) ⟨Nat.le_of_ble_eq_true rfl, Nat.le_of_ble_eq_true rfl⟩) hV.2.1 rfl (Nat.le_of_ble_eq_true rfl) ⟨by dsimp only; omega, by dsimp only; omega⟩ dX10_bodyTold_5 (fun r1 M9 hp9 => ?_)
  obtain ⟨rfl, rfl⟩ := hp9
  exact xr_iret C hr hlk ⟨_, rfl, rfl, rfl⟩ (by omega) (by omega) dX10_bodyTold_8
set_option maxHeartbeats 4000000 in
set_option maxRecDepth 100000 in
theorem c_streamTold (l : Launch) (G : mq_G) (x ch b a : Nat) (h : Bool) (d : List Nat) (vd : Int) (M : mq_M) (hV : voI G M x ch b a h d vd) : mq_T l yX10_streamTold wsX10_streamTold { frames := 2, cells := 0, slots := 0, locals := 42 } G [.ref x] M (mq_ri M (mq_wd d 6 : Int)) 0 0 := by
  refine mq_Met.of (cc := cX10_streamTold) (maxL := 1) (ret := (some .int)) (by decide) rfl (Nat.le_of_ble_eq_true rfl) rfl rfl ?_
  intro p_ e_ s_ m_ args_ below_ meth_ c_ z_ C hr hlk hname
  refine xr_aload_n C dX10_streamTold_0 rfl ?_
  refine xr_get C (Cn := RX10) (T := TX10) (N := 4) (by decide +kernel) hV.1 rfl 1 (by decide) (C.1.2.2.2.2 (.fieldLink RX10 14 "OssuaryVault$Volume" "bytes" "LOssuaryVault$Bytes;") (by decide +kernel)) (fun _ h => h) rfl dX10_streamTold_1 ?_
  refine xr_bipush (n := 6) C dX10_streamTold_4 (by decide +kernel) ?_
  refine xr_callV1i C (c_word l G b a 4080 d M hV.2 6 (by decide)) (cwV 1 C.1.2.2.2.2 gX10_streamTold_X0_word rfl rfl rfl (by decide +kernel) ⟨Nat.le_of_ble_eq_true rfl, Nat.le_of_ble_eq_true rfl⟩) hV.2.1 rfl (Nat.le_of_ble_eq_true rfl) ⟨by dsimp only; omega, by dsimp only; omega⟩ dX10_streamTold_6 (fun r1 M9 hp9 => ?_)
  obtain ⟨rfl, rfl⟩ := hp9
  exact xr_iret C hr hlk ⟨_, rfl, rfl, rfl⟩ (by omega) (by omega) dX10_streamTold_9
set_option maxHeartbeats 4000000 in
set_option maxRecDepth 100000 in
theorem c_vanish (l : Launch) (G : mq_G) (x ch b a : Nat) (h : Bool) (d : List Nat) (vd : Int) (M : mq_M) (hV : voI G M x ch b a h d vd) (hN : [x, b, a].Nodup) : mq_T l yX10_vanish wsX10_vanish { frames := 1, cells := 0, slots := 0, locals := 20 } G [.ref x] M (mq_pv (fun M2 => voI G M2 x ch b a false [] 0 ∧ mq_F [x, b, a] M M2)) 0 0 := by
  refine mq_Met.of (cc := cX10_vanish) (maxL := 1) (ret := none) (by decide) rfl (Nat.le_of_ble_eq_true rfl) rfl rfl ?_
  intro p_ e_ s_ m_ args_ below_ meth_ c_ z_ C hr hlk hname
  have n_x_b : x ≠ b := mq_nd hN 0 1 rfl
  have n_x_a : x ≠ a := mq_nd hN 0 2 rfl
  have n_b_x : b ≠ x := mq_nd hN 1 0 rfl
  have n_b_a : b ≠ a := mq_nd hN 1 2 rfl
  have n_a_x : a ≠ x := mq_nd hN 2 0 rfl
  have n_a_b : a ≠ b := mq_nd hN 2 1 rfl
  refine xr_aload_n C dX10_vanish_0 rfl ?_
  refine xr_iconst (n := 0) C dX10_vanish_1 (by decide +kernel) ?_
  refine xr_put C (Cn := RX10) (T := TX10) (N := 4) (by decide +kernel) hV.1 rfl 2 (by decide) tyX10 tyX10_ok nmX10 (C.1.2.2.2.2 (.fieldLink RX10 24 "OssuaryVault$Volume" "here" "Z") (by decide +kernel)) (fun _ h => h) rfl (tyX10_ok 2 (by decide)) rfl rfl (Nat.le_of_ble_eq_true rfl) dX10_vanish_2 ?_
  refine mq_ren (fun M1 hM1 => ?_)
  have hF1 : mq_F [x] M M1 := mq_F.up hM1 (by simp)
  have hV1 : voI G M1 x ch b a false d vd := ⟨by rw [hM1, mq_up_s]; rfl, hV.2.fr hF1 (by simp [n_b_x]) (by simp [n_a_x])⟩
  refine xr_aload_n C dX10_vanish_5 rfl ?_
  refine xr_get C (Cn := RX10) (T := TX10) (N := 4) (by decide +kernel) hV1.1 rfl 1 (by decide) (C.1.2.2.2.2 (.fieldLink RX10 14 "OssuaryVault$Volume" "bytes" "LOssuaryVault$Bytes;") (by decide +kernel)) (fun _ h => h) rfl dX10_vanish_6 ?_
  refine xr_callV0v C (c_clear l G b a 4080 d M1 hV1.2) (cwV 0 C.1.2.2.2.2 gX10_vanish_X0_clear rfl rfl rfl (by decide +kernel) ⟨Nat.le_of_ble_eq_true rfl, Nat.le_of_ble_eq_true rfl⟩) hV1.2.1 rfl (Nat.le_of_ble_eq_true rfl) ⟨by dsimp only; omega, by dsimp only; omega⟩ dX10_vanish_9 (fun M2 hp2 => ?_)
  obtain ⟨hB2, hF2⟩ := hp2
  have hx2 := (hF2 x (by simp [n_x_b])).trans hV1.1
  refine xr_aload_n C dX10_vanish_12 rfl ?_
  refine xr_iconst (n := 0) C dX10_vanish_13 (by decide +kernel) ?_
  refine xr_put C (Cn := RX10) (T := TX10) (N := 4) (by decide +kernel) hx2 rfl 3 (by decide) tyX10 tyX10_ok nmX10 (C.1.2.2.2.2 (.fieldLink RX10 42 "OssuaryVault$Volume" "verdict" "I") (by decide +kernel)) (fun _ h => h) rfl (tyX10_ok 3 (by decide)) rfl rfl (Nat.le_of_ble_eq_true rfl) dX10_vanish_14 ?_
  refine mq_ren (fun M2 hM2 => ?_)
  exact xr_vret C hr hlk ⟨rfl, ⟨by rw [hM2, mq_up_s]; rfl, hB2.fr (mq_F.up hM2 (List.mem_singleton.mpr rfl)) (by simp [n_b_x]) (by simp [n_a_x])⟩, ((hF1.mono (by simp)).tr (hF2.mono (by simp))).tr (mq_F.up hM2 (by simp))⟩ (by omega) (by omega) dX10_vanish_17
set_option maxHeartbeats 4000000 in
set_option maxRecDepth 100000 in
theorem c_vshorten (l : Launch) (G : mq_G) (x ch b a : Nat) (h : Bool) (d : List Nat) (vd : Int) (M : mq_M) (hV : voI G M x ch b a h d vd) (hN : [x, b, a].Nodup) (k : Nat) (hk : k ≤ d.length) : mq_T l yX10_shorten wsX10_shorten { frames := 1, cells := 0, slots := 0, locals := 21 } G [.ref x, .int (zI (k : Int))] M (mq_pv (fun M2 => voI G M2 x ch b a h (d.take k) 0 ∧ mq_F [x, b, a] M M2)) 0 0 := by
  refine mq_Met.of (cc := cX10_shorten) (maxL := 2) (ret := none) (by decide) rfl (Nat.le_of_ble_eq_true rfl) rfl rfl ?_
  intro p_ e_ s_ m_ args_ below_ meth_ c_ z_ C hr hlk hname
  have n_x_b : x ≠ b := mq_nd hN 0 1 rfl
  have n_x_a : x ≠ a := mq_nd hN 0 2 rfl
  have n_b_x : b ≠ x := mq_nd hN 1 0 rfl
  have n_b_a : b ≠ a := mq_nd hN 1 2 rfl
  have n_a_x : a ≠ x := mq_nd hN 2 0 rfl
  have n_a_b : a ≠ b := mq_nd hN 2 1 rfl
  refine xr_aload_n C dX10_shorten_0 rfl ?_
  refine xr_iconst (n := 0) C dX10_shorten_1 (by decide +kernel) ?_
  refine xr_put C (Cn := RX10) (T := TX10) (N := 4) (by decide +kernel) hV.1 rfl 3 (by decide) tyX10 tyX10_ok nmX10 (C.1.2.2.2.2 (.fieldLink RX10 42 "OssuaryVault$Volume" "verdict" "I") (by decide +kernel)) (fun _ h => h) rfl (tyX10_ok 3 (by decide)) rfl rfl (Nat.le_of_ble_eq_true rfl) dX10_shorten_2 ?_
  refine mq_ren (fun M1 hM1 => ?_)
  have hF1 : mq_F [x] M M1 := mq_F.up hM1 (by simp)
  have hV1 : voI G M1 x ch b a h d 0 := ⟨by rw [hM1, mq_up_s]; rfl, hV.2.fr hF1 (by simp [n_b_x]) (by simp [n_a_x])⟩
  refine xr_aload_n C dX10_shorten_5 rfl ?_
  refine xr_get C (Cn := RX10) (T := TX10) (N := 4) (by decide +kernel) hV1.1 rfl 1 (by decide) (C.1.2.2.2.2 (.fieldLink RX10 14 "OssuaryVault$Volume" "bytes" "LOssuaryVault$Bytes;") (by decide +kernel)) (fun _ h => h) rfl dX10_shorten_6 ?_
  refine xr_iload_n C dX10_shorten_9 rfl ?_
  refine xr_callV1v C (c_shorten l G b a 4080 d M1 hV1.2 k hk) (cwV 1 C.1.2.2.2.2 gX10_shorten_X0_shorten rfl rfl rfl (by decide +kernel) ⟨Nat.le_of_ble_eq_true rfl, Nat.le_of_ble_eq_true rfl⟩) hV1.2.1 rfl (Nat.le_of_ble_eq_true rfl) ⟨by dsimp only; omega, by dsimp only; omega⟩ dX10_shorten_10 (fun M2 hp2 => ?_)
  obtain ⟨hB2, hF2⟩ := hp2
  exact xr_vret C hr hlk ⟨rfl, ⟨(hF2 x (by simp [n_x_b])).trans hV1.1, hB2⟩, (hF1.mono (by simp)).tr (hF2.mono (by simp))⟩ (by omega) (by omega) dX10_shorten_13
set_option maxHeartbeats 4000000 in
set_option maxRecDepth 100000 in
theorem c_mix (l : Launch) (G : mq_G) (x ch b a : Nat) (h : Bool) (d : List Nat) (vd : Int) (M : mq_M) (hV : voI G M x ch b a h d vd) (hN : [x, b, a].Nodup) (k : Nat) (hk : k < d.length) (by9 : Nat) (hby : by9 < 256) : mq_T l yX10_mix wsX10_mix { frames := 1, cells := 0, slots := 0, locals := 22 } G [.ref x, .int (zI (k : Int)), .int (zI (by9 : Int))] M (mq_pi (fun r M2 => r = ((mq_gd d (k : Int) ^^^ by9 : Nat) : Int) ∧ voI G M2 x ch b a h (d.set k (mq_gd d (k : Int) ^^^ by9)) 0 ∧ mq_F [x, b, a] M M2)) 0 0 := by
  refine mq_Met.of (cc := cX10_mix) (maxL := 3) (ret := (some .int)) (by decide) rfl (Nat.le_of_ble_eq_true rfl) rfl rfl ?_
  intro p_ e_ s_ m_ args_ below_ meth_ c_ z_ C hr hlk hname
  have n_x_b : x ≠ b := mq_nd hN 0 1 rfl
  have n_x_a : x ≠ a := mq_nd hN 0 2 rfl
  have n_b_x : b ≠ x := mq_nd hN 1 0 rfl
  have n_b_a : b ≠ a := mq_nd hN 1 2 rfl
  have n_a_x : a ≠ x := mq_nd hN 2 0 rfl
  have n_a_b : a ≠ b := mq_nd hN 2 1 rfl
  have hdl : d.length ≤ 4080 := hV.2.2.2.1
  have hg1 := mq_gd_lt hV.2.2.2.2.2.1 (k : Int)
  have hg2 : mq_gd d (k : Int) ^^^ by9 < 256 := Nat.xor_lt_two_pow (n := 8) hg1 hby
  refine xr_aload_n C dX10_mix_0 rfl ?_
  refine xr_iconst (n := 0) C dX10_mix_1 (by decide +kernel) ?_
  refine xr_put C (Cn := RX10) (T := TX10) (N := 4) (by decide +kernel) hV.1 rfl 3 (by decide) tyX10 tyX10_ok nmX10 (C.1.2.2.2.2 (.fieldLink RX10 42 "OssuaryVault$Volume" "verdict" "I") (by decide +kernel)) (fun _ h => h) rfl (tyX10_ok 3 (by decide)) rfl rfl (Nat.le_of_ble_eq_true rfl) dX10_mix_2 ?_
  refine mq_ren (fun M1 hM1 => ?_)
  have hF1 : mq_F [x] M M1 := mq_F.up hM1 (by simp)
  have hV1 : voI G M1 x ch b a h d 0 := ⟨by rw [hM1, mq_up_s]; rfl, hV.2.fr hF1 (by simp [n_b_x]) (by simp [n_a_x])⟩
  refine xr_aload_n C dX10_mix_5 rfl ?_
  refine xr_get C (Cn := RX10) (T := TX10) (N := 4) (by decide +kernel) hV1.1 rfl 1 (by decide) (C.1.2.2.2.2 (.fieldLink RX10 14 "OssuaryVault$Volume" "bytes" "LOssuaryVault$Bytes;") (by decide +kernel)) (fun _ h => h) rfl dX10_mix_6 ?_
  refine xr_iload_n C dX10_mix_9 rfl ?_
  refine xr_aload_n C dX10_mix_10 rfl ?_
  refine xr_get C (Cn := RX10) (T := TX10) (N := 4) (by decide +kernel) hV1.1 rfl 1 (by decide) (C.1.2.2.2.2 (.fieldLink RX10 14 "OssuaryVault$Volume" "bytes" "LOssuaryVault$Bytes;") (by decide +kernel)) (fun _ h => h) rfl dX10_mix_11 ?_
  refine xr_iload_n C dX10_mix_14 rfl ?_
  refine xr_callV1i C (c_at l G b a 4080 d M1 hV1.2 (k : Int) (by omega)) (cwV 1 C.1.2.2.2.2 gX10_mix_X0_at rfl rfl rfl (by decide +kernel) ⟨Nat.le_of_ble_eq_true rfl, Nat.le_of_ble_eq_true rfl⟩) hV1.2.1 rfl (Nat.le_of_ble_eq_true rfl) ⟨by dsimp only; omega, by dsimp only; omega⟩ dX10_mix_15 (fun r2 M9 hp9 => ?_)
  obtain ⟨rfl, rfl⟩ := hp9
  refine xr_iload_n C dX10_mix_18 rfl ?_
  refine xr_ixor (w := ((mq_gd d (k : Int) ^^^ by9 : Nat) : Int)) C dX10_mix_19 (zI_xorN (by omega) (by omega)) ?_
  refine xr_callV2v C (c_put l G b a 4080 d M1 hV1.2 (k : Int) (by omega) _ hg2) (cwV 2 C.1.2.2.2.2 gX10_mix_X0_put rfl rfl rfl (by decide +kernel) ⟨Nat.le_of_ble_eq_true rfl, Nat.le_of_ble_eq_true rfl⟩) hV1.2.1 rfl (Nat.le_of_ble_eq_true rfl) ⟨by dsimp only; omega, by dsimp only; omega⟩ dX10_mix_20 (fun M2 hp2 => ?_)
  obtain ⟨hB2, hF2⟩ := hp2
  have hps : mq_put d (k : Int) (mq_gd d (k : Int) ^^^ by9) = d.set k (mq_gd d (k : Int) ^^^ by9) := by unfold mq_put; rw [if_pos (by omega)]; rfl
  rw [hps] at hB2
  have hV2 : voI G M2 x ch b a h (d.set k (mq_gd d (k : Int) ^^^ by9)) 0 := ⟨(hF2 x (by simp [n_x_a])).trans hV1.1, hB2⟩
  refine xr_aload_n C dX10_mix_23 rfl ?_
  refine xr_get C (Cn := RX10) (T := TX10) (N := 4) (by decide +kernel) hV2.1 rfl 1 (by decide) (C.1.2.2.2.2 (.fieldLink RX10 14 "OssuaryVault$Volume" "bytes" "LOssuaryVault$Bytes;") (by decide +kernel)) (fun _ h => h) rfl dX10_mix_24 ?_
  refine xr_iload_n C dX10_mix_27 rfl ?_
  refine xr_callV1i C (c_at l G b a 4080 _ M2 hV2.2 (k : Int) (by omega)) (cwV 1 C.1.2.2.2.2 gX10_mix_X0_at rfl rfl rfl (by decide +kernel) ⟨Nat.le_of_ble_eq_true rfl, Nat.le_of_ble_eq_true rfl⟩) hV2.2.1 rfl (Nat.le_of_ble_eq_true rfl) ⟨by dsimp only; omega, by dsimp only; omega⟩ dX10_mix_28 (fun r3 M9 hp9 => ?_)
  obtain ⟨rfl, rfl⟩ := hp9
  exact xr_iret C hr hlk ⟨_, rfl, by rw [mq_gd_nat (d.set k _), List.getD_eq_getElem?_getD, List.getElem?_set_self hk]; rfl, hV2, (hF1.mono (by simp)).tr (hF2.mono (by simp))⟩ (by omega) (by omega) dX10_mix_31
set_option maxHeartbeats 4000000 in
set_option maxRecDepth 100000 in
theorem c_rightCheck (l : Launch) (G : mq_G) (x ch b a : Nat) (h : Bool) (d : List Nat) (vd : Int) (M : mq_M) (hV : voI G M x ch b a h d vd) (ca : Nat) (hC : ckI G M ch ca) : mq_T l yX10_rightCheck wsX10_rightCheck { frames := 2, cells := 0, slots := 0, locals := 47 } G [.ref x] M (mq_ri M (vChk d : Int)) 0 0 := by
  refine mq_Met.of (cc := cX10_rightCheck) (maxL := 2) (ret := (some .int)) (by decide) rfl (Nat.le_of_ble_eq_true rfl) rfl rfl ?_
  intro p_ e_ s_ m_ args_ below_ meth_ c_ z_ C hr hlk hname
  have hdl : d.length ≤ 4080 := hV.2.2.2.1
  refine xr_aload_n C dX10_rightCheck_0 rfl ?_
  refine xr_get C (Cn := RX10) (T := TX10) (N := 4) (by decide +kernel) hV.1 rfl 0 (by decide) (C.1.2.2.2.2 (.fieldLink RX10 20 "OssuaryVault$Volume" "check" "LOssuaryVault$Check;") (by decide +kernel)) (fun _ h => h) rfl dX10_rightCheck_1 ?_
  refine xr_ldc (k0 := 65535) C (C.1.2.2.2.2 (.constant RX10 82 (zI 65535)) (by decide +kernel)) dX10_rightCheck_4 ?_
  refine xr_aload_n C dX10_rightCheck_6 rfl ?_
  refine xr_get C (Cn := RX10) (T := TX10) (N := 4) (by decide +kernel) hV.1 rfl 1 (by decide) (C.1.2.2.2.2 (.fieldLink RX10 14 "OssuaryVault$Volume" "bytes" "LOssuaryVault$Bytes;") (by decide +kernel)) (fun _ h => h) rfl dX10_rightCheck_7 ?_
  refine xr_iconst (n := 0) C dX10_rightCheck_10 (by decide +kernel) ?_
  refine xr_bipush (n := 8) C dX10_rightCheck_11 (by decide +kernel) ?_
  refine xr_callV4i C (c_after l G ch ca M hC b a 4080 d hV.2 65535 (by decide) 0 8 (by decide) (by decide)) (cwV 4 C.1.2.2.2.2 gX10_rightCheck_X1_after rfl rfl rfl (by decide +kernel) ⟨Nat.le_of_ble_eq_true rfl, Nat.le_of_ble_eq_true rfl⟩) hC.1 rfl (Nat.le_of_ble_eq_true rfl) ⟨by dsimp only; omega, by dsimp only; omega⟩ dX10_rightCheck_13 (fun r1 M9 hp9 => ?_)
  obtain ⟨rfl, rfl⟩ := hp9
  rw [show ((8 : Int) - 0).toNat = 8 from rfl]
  refine xr_istore_n C dX10_rightCheck_16 (by decide) rfl ?_
  refine xr_aload_n C dX10_rightCheck_17 rfl ?_
  refine xr_get C (Cn := RX10) (T := TX10) (N := 4) (by decide +kernel) hV.1 rfl 0 (by decide) (C.1.2.2.2.2 (.fieldLink RX10 20 "OssuaryVault$Volume" "check" "LOssuaryVault$Check;") (by decide +kernel)) (fun _ h => h) rfl dX10_rightCheck_18 ?_
  refine xr_iload_n C dX10_rightCheck_21 rfl ?_
  refine xr_aload_n C dX10_rightCheck_22 rfl ?_
  refine xr_get C (Cn := RX10) (T := TX10) (N := 4) (by decide +kernel) hV.1 rfl 1 (by decide) (C.1.2.2.2.2 (.fieldLink RX10 14 "OssuaryVault$Volume" "bytes" "LOssuaryVault$Bytes;") (by decide +kernel)) (fun _ h => h) rfl dX10_rightCheck_23 ?_
  refine xr_bipush (n := 10) C dX10_rightCheck_26 (by decide +kernel) ?_
  refine xr_aload_n C dX10_rightCheck_28 rfl ?_
  refine xr_get C (Cn := RX10) (T := TX10) (N := 4) (by decide +kernel) hV.1 rfl 1 (by decide) (C.1.2.2.2.2 (.fieldLink RX10 14 "OssuaryVault$Volume" "bytes" "LOssuaryVault$Bytes;") (by decide +kernel)) (fun _ h => h) rfl dX10_rightCheck_29 ?_
  refine xr_callV0i C (c_size l G b a 4080 d M hV.2) (cwV 0 C.1.2.2.2.2 gX10_rightCheck_X0_size rfl rfl rfl (by decide +kernel) ⟨Nat.le_of_ble_eq_true rfl, Nat.le_of_ble_eq_true rfl⟩) hV.2.1 rfl (Nat.le_of_ble_eq_true rfl) ⟨by dsimp only; omega, by dsimp only; omega⟩ dX10_rightCheck_32 (fun r2 M9 hp9 => ?_)
  obtain ⟨rfl, rfl⟩ := hp9
  refine xr_callV4i C (c_after l G ch ca M hC b a 4080 d hV.2 (crF 65535 (mq_part d 0 8)) (crF_lt (by decide) _) 10 (d.length : Int) (by decide) (by omega)) (cwV 4 C.1.2.2.2.2 gX10_rightCheck_X1_after rfl rfl rfl (by decide +kernel) ⟨Nat.le_of_ble_eq_true rfl, Nat.le_of_ble_eq_true rfl⟩) hC.1 rfl (Nat.le_of_ble_eq_true rfl) ⟨by dsimp only; omega, by dsimp only; omega⟩ dX10_rightCheck_35 (fun r3 M9 hp9 => ?_)
  obtain ⟨rfl, rfl⟩ := hp9
  exact xr_iret C hr hlk ⟨_, rfl, by unfold vChk; rw [show ((d.length : Int) - 10).toNat = d.length - 10 by omega], rfl⟩ (by omega) (by omega) dX10_rightCheck_38
set_option maxHeartbeats 4000000 in
set_option maxRecDepth 100000 in
theorem c_seal (l : Launch) (G : mq_G) (x ch b a : Nat) (h : Bool) (d : List Nat) (vd : Int) (M : mq_M) (hV : voI G M x ch b a h d vd) (ca : Nat) (hC : ckI G M ch ca) (hN : [x, b, a].Nodup) (hd : 10 ≤ d.length) : mq_T l yX10_seal wsX10_seal { frames := 3, cells := 0, slots := 0, locals := 68 } G [.ref x] M (mq_pi (fun r M2 => r = (vChk d : Int) ∧ voI G M2 x ch b a h ((d.set 8 (vChk d / 256)).set 9 (vChk d % 256)) 0 ∧ mq_F [x, b, a] M M2)) 0 0 := by
  refine mq_Met.of (cc := cX10_seal) (maxL := 2) (ret := (some .int)) (by decide) rfl (Nat.le_of_ble_eq_true rfl) rfl rfl ?_
  intro p_ e_ s_ m_ args_ below_ meth_ c_ z_ C hr hlk hname
  have n_x_b : x ≠ b := mq_nd hN 0 1 rfl
  have n_x_a : x ≠ a := mq_nd hN 0 2 rfl
  have n_b_x : b ≠ x := mq_nd hN 1 0 rfl
  have n_b_a : b ≠ a := mq_nd hN 1 2 rfl
  have n_a_x : a ≠ x := mq_nd hN 2 0 rfl
  have n_a_b : a ≠ b := mq_nd hN 2 1 rfl
  have hcl := vChk_lt d
  refine xr_aload_n C dX10_seal_0 rfl ?_
  refine xr_callV0i C (c_rightCheck l G x ch b a h d vd M hV ca hC) (cwV 0 C.1.2.2.2.2 gX10_seal_X10_rightCheck rfl rfl rfl (by decide +kernel) ⟨Nat.le_of_ble_eq_true rfl, Nat.le_of_ble_eq_true rfl⟩) hV.1 rfl (Nat.le_of_ble_eq_true rfl) ⟨by dsimp only; omega, by dsimp only; omega⟩ dX10_seal_1 (fun r1 M9 hp9 => ?_)
  obtain ⟨rfl, rfl⟩ := hp9
  refine xr_istore_n C dX10_seal_4 (by decide) rfl ?_
  refine xr_aload_n C dX10_seal_5 rfl ?_
  refine xr_iconst (n := 0) C dX10_seal_6 (by decide +kernel) ?_
  refine xr_put C (Cn := RX10) (T := TX10) (N := 4) (by decide +kernel) hV.1 rfl 3 (by decide) tyX10 tyX10_ok nmX10 (C.1.2.2.2.2 (.fieldLink RX10 42 "OssuaryVault$Volume" "verdict" "I") (by decide +kernel)) (fun _ h => h) rfl (tyX10_ok 3 (by decide)) rfl rfl (Nat.le_of_ble_eq_true rfl) dX10_seal_7 ?_
  refine mq_ren (fun M2 hM2 => ?_)
  have hF1 : mq_F [x] M M2 := mq_F.up hM2 (by simp)
  have hV1 : voI G M2 x ch b a h d 0 := ⟨by rw [hM2, mq_up_s]; rfl, hV.2.fr hF1 (by simp [n_b_x]) (by simp [n_a_x])⟩
  refine xr_aload_n C dX10_seal_10 rfl ?_
  refine xr_get C (Cn := RX10) (T := TX10) (N := 4) (by decide +kernel) hV1.1 rfl 1 (by decide) (C.1.2.2.2.2 (.fieldLink RX10 14 "OssuaryVault$Volume" "bytes" "LOssuaryVault$Bytes;") (by decide +kernel)) (fun _ h => h) rfl dX10_seal_11 ?_
  refine xr_bipush (n := 8) C dX10_seal_14 (by decide +kernel) ?_
  refine xr_iload_n C dX10_seal_16 rfl ?_
  refine xr_callV2v C (c_putWord l G b a 4080 d M2 hV1.2 8 (by decide) (vChk d) hcl) (cwV 2 C.1.2.2.2.2 gX10_seal_X0_putWord rfl rfl rfl (by decide +kernel) ⟨Nat.le_of_ble_eq_true rfl, Nat.le_of_ble_eq_true rfl⟩) hV1.2.1 rfl (Nat.le_of_ble_eq_true rfl) ⟨by dsimp only; omega, by dsimp only; omega⟩ dX10_seal_17 (fun M2 hp2 => ?_)
  obtain ⟨hB2, hF2⟩ := hp2
  have hps : mq_put (mq_put d 8 (vChk d / 256)) (8 + 1) (vChk d % 256) = (d.set 8 (vChk d / 256)).set 9 (vChk d % 256) := rfl
  rw [hps] at hB2
  refine xr_iload_n C dX10_seal_20 rfl ?_
  exact xr_iret C hr hlk ⟨_, rfl, rfl, ⟨(hF2 x (by simp [n_x_a])).trans hV1.1, hB2⟩, (hF1.mono (by simp)).tr (hF2.mono (by simp))⟩ (by omega) (by omega) dX10_seal_21
set_option maxHeartbeats 4000000 in
set_option maxRecDepth 100000 in
theorem c_headFits (l : Launch) (G : mq_G) (x ch b a : Nat) (h : Bool) (d : List Nat) (vd : Int) (M : mq_M) (hV : voI G M x ch b a h d vd) : mq_T l yX10_headFits wsX10_headFits { frames := 3, cells := 0, slots := 0, locals := 62 } G [.ref x] M (mq_ri M (mq_b (vFits h d))) 0 0 := by
  refine mq_Met.of (cc := cX10_headFits) (maxL := 1) (ret := (some .boolean)) (by decide) rfl (Nat.le_of_ble_eq_true rfl) rfl rfl ?_
  intro p_ e_ s_ m_ args_ below_ meth_ c_ z_ C hr hlk hname
  have hdl : d.length ≤ 4080 := hV.2.2.2.1
  have g0 := mq_gd_lt hV.2.2.2.2.2.1 0
  have g1 := mq_gd_lt hV.2.2.2.2.2.1 1
  have g2 := mq_gd_lt hV.2.2.2.2.2.1 2
  have g3 := mq_gd_lt hV.2.2.2.2.2.1 3
  have g4 := mq_wd_lt hV.2.2.2.2.2.1 4
  have g6 := mq_wd_lt hV.2.2.2.2.2.1 6
  have gb := bdS_le (mq_wd d 6) (mq_gd d 2)
  cases h
  · refine xr_aload_n C dX10_headFits_0 rfl ?_
    refine xr_get C (Cn := RX10) (T := TX10) (N := 4) (by decide +kernel) hV.1 rfl 2 (by decide) (C.1.2.2.2.2 (.fieldLink RX10 24 "OssuaryVault$Volume" "here" "Z") (by decide +kernel)) (fun _ h => h) rfl dX10_headFits_1 ?_
    refine xr_if_eq C dX10_headFits_4 rfl (by decide) (fun _ => ?_) (fun hq => absurd hq (by decide))
    refine xr_iconst (n := 0) C dX10_headFits_113 (by decide +kernel) ?_
    exact xr_zret C hr (by decide +kernel) hlk ⟨_, rfl, by rw [show vFits false d = false from decide_eq_false (fun q => by obtain ⟨q0, q1, q2, q3, q4, q5, q6, q7, q8⟩ := q; cases q0)]; rfl, rfl⟩ (by omega) (by omega) dX10_headFits_114
  · refine xr_aload_n C dX10_headFits_0 rfl ?_
    refine xr_get C (Cn := RX10) (T := TX10) (N := 4) (by decide +kernel) hV.1 rfl 2 (by decide) (C.1.2.2.2.2 (.fieldLink RX10 24 "OssuaryVault$Volume" "here" "Z") (by decide +kernel)) (fun _ h => h) rfl dX10_headFits_1 ?_
    refine xr_if_eq C dX10_headFits_4 rfl (by decide) (fun hq => absurd hq (by decide)) (fun _ => ?_)
    refine xr_aload_n C dX10_headFits_7 rfl ?_
    refine xr_get C (Cn := RX10) (T := TX10) (N := 4) (by decide +kernel) hV.1 rfl 1 (by decide) (C.1.2.2.2.2 (.fieldLink RX10 14 "OssuaryVault$Volume" "bytes" "LOssuaryVault$Bytes;") (by decide +kernel)) (fun _ h => h) rfl dX10_headFits_8 ?_
    refine xr_callV0i C (c_size l G b a 4080 d M hV.2) (cwV 0 C.1.2.2.2.2 gX10_headFits_X0_size rfl rfl rfl (by decide +kernel) ⟨Nat.le_of_ble_eq_true rfl, Nat.le_of_ble_eq_true rfl⟩) hV.2.1 rfl (Nat.le_of_ble_eq_true rfl) ⟨by dsimp only; omega, by dsimp only; omega⟩ dX10_headFits_11 (fun r1 M9 hp9 => ?_)
    obtain ⟨rfl, rfl⟩ := hp9
    refine xr_bipush (n := 10) C dX10_headFits_14 (by decide +kernel) ?_
    refine xr_icmp_lt C dX10_headFits_16 rfl (by first | omega | (dsimp only; omega)) (by first | omega | (dsimp only; omega)) (fun hq2 => ?_) (fun hq2 => ?_)
    · refine xr_iconst (n := 0) C dX10_headFits_113 (by decide +kernel) ?_
      exact xr_zret C hr (by decide +kernel) hlk ⟨_, rfl, by rw [show vFits true d = false from decide_eq_false (fun q => by obtain ⟨q0, q1, q2, q3, q4, q5, q6, q7, q8⟩ := q; omega)]; rfl, rfl⟩ (by omega) (by omega) dX10_headFits_114
    · refine xr_aload_n C dX10_headFits_19 rfl ?_
      refine xr_get C (Cn := RX10) (T := TX10) (N := 4) (by decide +kernel) hV.1 rfl 1 (by decide) (C.1.2.2.2.2 (.fieldLink RX10 14 "OssuaryVault$Volume" "bytes" "LOssuaryVault$Bytes;") (by decide +kernel)) (fun _ h => h) rfl dX10_headFits_20 ?_
      refine xr_iconst (n := 0) C dX10_headFits_23 (by decide +kernel) ?_
      refine xr_callV1i C (c_at l G b a 4080 d M hV.2 0 (by decide)) (cwV 1 C.1.2.2.2.2 gX10_headFits_X0_at rfl rfl rfl (by decide +kernel) ⟨Nat.le_of_ble_eq_true rfl, Nat.le_of_ble_eq_true rfl⟩) hV.2.1 rfl (Nat.le_of_ble_eq_true rfl) ⟨by dsimp only; omega, by dsimp only; omega⟩ dX10_headFits_24 (fun r3 M9 hp9 => ?_)
      obtain ⟨rfl, rfl⟩ := hp9
      refine xr_bipush (n := 86) C dX10_headFits_27 (by decide +kernel) ?_
      refine xr_icmp_ne C dX10_headFits_29 rfl (by first | omega | (dsimp only; omega)) (by first | omega | (dsimp only; omega)) (fun hq4 => ?_) (fun hq4 => ?_)
      · refine xr_iconst (n := 0) C dX10_headFits_113 (by decide +kernel) ?_
        exact xr_zret C hr (by decide +kernel) hlk ⟨_, rfl, by rw [show vFits true d = false from decide_eq_false (fun q => by obtain ⟨q0, q1, q2, q3, q4, q5, q6, q7, q8⟩ := q; omega)]; rfl, rfl⟩ (by omega) (by omega) dX10_headFits_114
      · refine xr_aload_n C dX10_headFits_32 rfl ?_
        refine xr_callV0i C (c_dataTold l G x ch b a true d vd M hV) (cwV 0 C.1.2.2.2.2 gX10_headFits_X10_dataTold rfl rfl rfl (by decide +kernel) ⟨Nat.le_of_ble_eq_true rfl, Nat.le_of_ble_eq_true rfl⟩) hV.1 rfl (Nat.le_of_ble_eq_true rfl) ⟨by dsimp only; omega, by dsimp only; omega⟩ dX10_headFits_33 (fun r5 M9 hp9 => ?_)
        obtain ⟨rfl, rfl⟩ := hp9
        refine xr_iconst (n := 1) C dX10_headFits_36 (by decide +kernel) ?_
        refine xr_icmp_lt C dX10_headFits_37 rfl (by first | omega | (dsimp only; omega)) (by first | omega | (dsimp only; omega)) (fun hq6 => ?_) (fun hq6 => ?_)
        · refine xr_iconst (n := 0) C dX10_headFits_113 (by decide +kernel) ?_
          exact xr_zret C hr (by decide +kernel) hlk ⟨_, rfl, by rw [show vFits true d = false from decide_eq_false (fun q => by obtain ⟨q0, q1, q2, q3, q4, q5, q6, q7, q8⟩ := q; omega)]; rfl, rfl⟩ (by omega) (by omega) dX10_headFits_114
        · refine xr_aload_n C dX10_headFits_40 rfl ?_
          refine xr_callV0i C (c_dataTold l G x ch b a true d vd M hV) (cwV 0 C.1.2.2.2.2 gX10_headFits_X10_dataTold rfl rfl rfl (by decide +kernel) ⟨Nat.le_of_ble_eq_true rfl, Nat.le_of_ble_eq_true rfl⟩) hV.1 rfl (Nat.le_of_ble_eq_true rfl) ⟨by dsimp only; omega, by dsimp only; omega⟩ dX10_headFits_41 (fun r7 M9 hp9 => ?_)
          obtain ⟨rfl, rfl⟩ := hp9
          refine xr_bipush (n := 10) C dX10_headFits_44 (by decide +kernel) ?_
          refine xr_icmp_gt C dX10_headFits_46 rfl (by first | omega | (dsimp only; omega)) (by first | omega | (dsimp only; omega)) (fun hq8 => ?_) (fun hq8 => ?_)
          · refine xr_iconst (n := 0) C dX10_headFits_113 (by decide +kernel) ?_
            exact xr_zret C hr (by decide +kernel) hlk ⟨_, rfl, by rw [show vFits true d = false from decide_eq_false (fun q => by obtain ⟨q0, q1, q2, q3, q4, q5, q6, q7, q8⟩ := q; omega)]; rfl, rfl⟩ (by omega) (by omega) dX10_headFits_114
          · refine xr_aload_n C dX10_headFits_49 rfl ?_
            refine xr_callV0i C (c_parityTold l G x ch b a true d vd M hV) (cwV 0 C.1.2.2.2.2 gX10_headFits_X10_parityTold rfl rfl rfl (by decide +kernel) ⟨Nat.le_of_ble_eq_true rfl, Nat.le_of_ble_eq_true rfl⟩) hV.1 rfl (Nat.le_of_ble_eq_true rfl) ⟨by dsimp only; omega, by dsimp only; omega⟩ dX10_headFits_50 (fun r9 M9 hp9 => ?_)
            obtain ⟨rfl, rfl⟩ := hp9
            refine xr_bipush (n := 6) C dX10_headFits_53 (by decide +kernel) ?_
            refine xr_icmp_gt C dX10_headFits_55 rfl (by first | omega | (dsimp only; omega)) (by first | omega | (dsimp only; omega)) (fun hq10 => ?_) (fun hq10 => ?_)
            · refine xr_iconst (n := 0) C dX10_headFits_113 (by decide +kernel) ?_
              exact xr_zret C hr (by decide +kernel) hlk ⟨_, rfl, by rw [show vFits true d = false from decide_eq_false (fun q => by obtain ⟨q0, q1, q2, q3, q4, q5, q6, q7, q8⟩ := q; omega)]; rfl, rfl⟩ (by omega) (by omega) dX10_headFits_114
            · refine xr_aload_n C dX10_headFits_58 rfl ?_
              refine xr_callV0i C (c_number l G x ch b a true d vd M hV) (cwV 0 C.1.2.2.2.2 gX10_headFits_X10_number rfl rfl rfl (by decide +kernel) ⟨Nat.le_of_ble_eq_true rfl, Nat.le_of_ble_eq_true rfl⟩) hV.1 rfl (Nat.le_of_ble_eq_true rfl) ⟨by dsimp only; omega, by dsimp only; omega⟩ dX10_headFits_59 (fun r11 M9 hp9 => ?_)
              obtain ⟨rfl, rfl⟩ := hp9
              refine xr_aload_n C dX10_headFits_62 rfl ?_
              refine xr_callV0i C (c_dataTold l G x ch b a true d vd M hV) (cwV 0 C.1.2.2.2.2 gX10_headFits_X10_dataTold rfl rfl rfl (by decide +kernel) ⟨Nat.le_of_ble_eq_true rfl, Nat.le_of_ble_eq_true rfl⟩) hV.1 rfl (Nat.le_of_ble_eq_true rfl) ⟨by dsimp only; omega, by dsimp only; omega⟩ dX10_headFits_63 (fun r12 M9 hp9 => ?_)
              obtain ⟨rfl, rfl⟩ := hp9
              refine xr_aload_n C dX10_headFits_66 rfl ?_
              refine xr_callV0i C (c_parityTold l G x ch b a true d vd M hV) (cwV 0 C.1.2.2.2.2 gX10_headFits_X10_parityTold rfl rfl rfl (by decide +kernel) ⟨Nat.le_of_ble_eq_true rfl, Nat.le_of_ble_eq_true rfl⟩) hV.1 rfl (Nat.le_of_ble_eq_true rfl) ⟨by dsimp only; omega, by dsimp only; omega⟩ dX10_headFits_67 (fun r13 M9 hp9 => ?_)
              obtain ⟨rfl, rfl⟩ := hp9
              refine xr_iadd C dX10_headFits_70 ?_
              refine xr_icmp_ge C dX10_headFits_71 rfl (by first | omega | (dsimp only; omega)) (by first | omega | (dsimp only; omega)) (fun hq14 => ?_) (fun hq14 => ?_)
              · refine xr_iconst (n := 0) C dX10_headFits_113 (by decide +kernel) ?_
                exact xr_zret C hr (by decide +kernel) hlk ⟨_, rfl, by rw [show vFits true d = false from decide_eq_false (fun q => by obtain ⟨q0, q1, q2, q3, q4, q5, q6, q7, q8⟩ := q; omega)]; rfl, rfl⟩ (by omega) (by omega) dX10_headFits_114
              · refine xr_aload_n C dX10_headFits_74 rfl ?_
                refine xr_get C (Cn := RX10) (T := TX10) (N := 4) (by decide +kernel) hV.1 rfl 1 (by decide) (C.1.2.2.2.2 (.fieldLink RX10 14 "OssuaryVault$Volume" "bytes" "LOssuaryVault$Bytes;") (by decide +kernel)) (fun _ h => h) rfl dX10_headFits_75 ?_
                refine xr_callV0i C (c_size l G b a 4080 d M hV.2) (cwV 0 C.1.2.2.2.2 gX10_headFits_X0_size rfl rfl rfl (by decide +kernel) ⟨Nat.le_of_ble_eq_true rfl, Nat.le_of_ble_eq_true rfl⟩) hV.2.1 rfl (Nat.le_of_ble_eq_true rfl) ⟨by dsimp only; omega, by dsimp only; omega⟩ dX10_headFits_78 (fun r15 M9 hp9 => ?_)
                obtain ⟨rfl, rfl⟩ := hp9
                refine xr_bipush (n := 10) C dX10_headFits_81 (by decide +kernel) ?_
                refine xr_aload_n C dX10_headFits_83 rfl ?_
                refine xr_callV0i C (c_bodyTold l G x ch b a true d vd M hV) (cwV 0 C.1.2.2.2.2 gX10_headFits_X10_bodyTold rfl rfl rfl (by decide +kernel) ⟨Nat.le_of_ble_eq_true rfl, Nat.le_of_ble_eq_true rfl⟩) hV.1 rfl (Nat.le_of_ble_eq_true rfl) ⟨by dsimp only; omega, by dsimp only; omega⟩ dX10_headFits_84 (fun r16 M9 hp9 => ?_)
                obtain ⟨rfl, rfl⟩ := hp9
                refine xr_iadd C dX10_headFits_87 ?_
                refine xr_icmp_ne C dX10_headFits_88 rfl (by first | omega | (dsimp only; omega)) (by first | omega | (dsimp only; omega)) (fun hq17 => ?_) (fun hq17 => ?_)
                · refine xr_iconst (n := 0) C dX10_headFits_113 (by decide +kernel) ?_
                  exact xr_zret C hr (by decide +kernel) hlk ⟨_, rfl, by rw [show vFits true d = false from decide_eq_false (fun q => by obtain ⟨q0, q1, q2, q3, q4, q5, q6, q7, q8⟩ := q; omega)]; rfl, rfl⟩ (by omega) (by omega) dX10_headFits_114
                · refine xr_aload_n C dX10_headFits_91 rfl ?_
                  refine xr_callV0i C (c_bodyTold l G x ch b a true d vd M hV) (cwV 0 C.1.2.2.2.2 gX10_headFits_X10_bodyTold rfl rfl rfl (by decide +kernel) ⟨Nat.le_of_ble_eq_true rfl, Nat.le_of_ble_eq_true rfl⟩) hV.1 rfl (Nat.le_of_ble_eq_true rfl) ⟨by dsimp only; omega, by dsimp only; omega⟩ dX10_headFits_92 (fun r18 M9 hp9 => ?_)
                  obtain ⟨rfl, rfl⟩ := hp9
                  refine xr_aload_n C dX10_headFits_95 rfl ?_
                  refine xr_callV0i C (c_streamTold l G x ch b a true d vd M hV) (cwV 0 C.1.2.2.2.2 gX10_headFits_X10_streamTold rfl rfl rfl (by decide +kernel) ⟨Nat.le_of_ble_eq_true rfl, Nat.le_of_ble_eq_true rfl⟩) hV.1 rfl (Nat.le_of_ble_eq_true rfl) ⟨by dsimp only; omega, by dsimp only; omega⟩ dX10_headFits_96 (fun r19 M9 hp9 => ?_)
                  obtain ⟨rfl, rfl⟩ := hp9
                  refine xr_aload_n C dX10_headFits_99 rfl ?_
                  refine xr_callV0i C (c_dataTold l G x ch b a true d vd M hV) (cwV 0 C.1.2.2.2.2 gX10_headFits_X10_dataTold rfl rfl rfl (by decide +kernel) ⟨Nat.le_of_ble_eq_true rfl, Nat.le_of_ble_eq_true rfl⟩) hV.1 rfl (Nat.le_of_ble_eq_true rfl) ⟨by dsimp only; omega, by dsimp only; omega⟩ dX10_headFits_100 (fun r20 M9 hp9 => ?_)
                  obtain ⟨rfl, rfl⟩ := hp9
                  refine xr_callS2iN C (c_bodySize l G M (mq_wd d 6) (mq_gd d 2) (by omega) (by omega)) ⟨va_cnB 2 C.1.2.2.2.2 ggX10_headFits_X11_bodySize rfl rfl rfl (C.2.2.2.1 ("OssuaryVault$Volume", 54, ⟨"OssuaryVault", "bodySize", "(II)I"⟩, "OssuaryVault") (by decide +kernel)) (C.1.2.2.2.2 (.initialized RX11) (by decide +kernel)) (by decide +kernel) ⟨Nat.le_of_ble_eq_true rfl, Nat.le_of_ble_eq_true rfl⟩, C.1.2.2.2.2 (.static yX11_bodySize) (by decide +kernel), trivial⟩ (Nat.le_of_ble_eq_true rfl) ⟨by dsimp only; omega, by dsimp only; omega⟩ dX10_headFits_103 (fun r21 M9 hp9 => ?_)
                  obtain ⟨rfl, rfl⟩ := hp9
                  refine xr_icmp_ne C dX10_headFits_106 rfl (by first | omega | (dsimp only; omega)) (by first | omega | (dsimp only; omega)) (fun hq22 => ?_) (fun hq22 => ?_)
                  · refine xr_iconst (n := 0) C dX10_headFits_113 (by decide +kernel) ?_
                    exact xr_zret C hr (by decide +kernel) hlk ⟨_, rfl, by rw [show vFits true d = false from decide_eq_false (fun q => by obtain ⟨q0, q1, q2, q3, q4, q5, q6, q7, q8⟩ := q; omega)]; rfl, rfl⟩ (by omega) (by omega) dX10_headFits_114
                  · refine xr_iconst (n := 1) C dX10_headFits_109 (by decide +kernel) ?_
                    refine xr_goto C dX10_headFits_110 rfl ?_
                    exact xr_zret C hr (by decide +kernel) hlk ⟨_, rfl, by rw [show vFits true d = true from decide_eq_true (by refine ⟨rfl, ?_⟩; omega)]; rfl, rfl⟩ (by omega) (by omega) dX10_headFits_114
set_option maxHeartbeats 4000000 in
set_option maxRecDepth 100000 in
theorem c_isWhole (l : Launch) (G : mq_G) (x ch b a : Nat) (h : Bool) (d : List Nat) (vd : Int) (M : mq_M) (hV : voI G M x ch b a h d vd) (ca : Nat) (hC : ckI G M ch ca) (hN : [x, b, a].Nodup) (hO : vOK h d vd) (hva : -5 ≤ vd ∧ vd ≤ 5) : mq_T l yX10_isWhole wsX10_isWhole { frames := 4, cells := 0, slots := 0, locals := 82 } G [.ref x] M (mq_pi (fun r M2 => r = mq_b (vWhl h d) ∧ (∃ vd2 : Int, voI G M2 x ch b a h d vd2 ∧ vd2 = (if vWhl h d = true then 1 else 2)) ∧ mq_F [x] M M2)) 0 0 := by
  refine mq_Met.of (cc := cX10_isWhole) (maxL := 1) (ret := (some .boolean)) (by decide) rfl (Nat.le_of_ble_eq_true rfl) rfl rfl ?_
  intro p_ e_ s_ m_ args_ below_ meth_ c_ z_ C hr hlk hname
  have n_x_b : x ≠ b := mq_nd hN 0 1 rfl
  have n_x_a : x ≠ a := mq_nd hN 0 2 rfl
  have n_b_x : b ≠ x := mq_nd hN 1 0 rfl
  have n_b_a : b ≠ a := mq_nd hN 1 2 rfl
  have n_a_x : a ≠ x := mq_nd hN 2 0 rfl
  have n_a_b : a ≠ b := mq_nd hN 2 1 rfl
  have hcl := vChk_lt d
  have g8 := mq_wd_lt hV.2.2.2.2.2.1 8
  refine xr_aload_n C dX10_isWhole_0 rfl ?_
  refine xr_get C (Cn := RX10) (T := TX10) (N := 4) (by decide +kernel) hV.1 rfl 3 (by decide) (C.1.2.2.2.2 (.fieldLink RX10 42 "OssuaryVault$Volume" "verdict" "I") (by decide +kernel)) (fun _ h => h) rfl dX10_isWhole_1 ?_
  refine xr_if_ne C dX10_isWhole_4 rfl (by first | omega | (dsimp only; omega)) (fun hq1 => ?_) (fun hq1 => ?_)
  · have hvd : vd = (if vWhl h d = true then 1 else 2) := by
      rcases hO with h0 | h0
      · exact absurd h0 hq1
      · exact h0
    refine xr_aload_n C dX10_isWhole_39 rfl ?_
    refine xr_get C (Cn := RX10) (T := TX10) (N := 4) (by decide +kernel) hV.1 rfl 3 (by decide) (C.1.2.2.2.2 (.fieldLink RX10 42 "OssuaryVault$Volume" "verdict" "I") (by decide +kernel)) (fun _ h => h) rfl dX10_isWhole_40 ?_
    refine xr_iconst (n := 1) C dX10_isWhole_43 (by decide +kernel) ?_
    refine xr_icmp_ne C dX10_isWhole_44 rfl (by first | omega | (dsimp only; omega)) (by first | omega | (dsimp only; omega)) (fun hq2 => ?_) (fun hq2 => ?_)
    · refine xr_iconst (n := 0) C dX10_isWhole_51 (by decide +kernel) ?_
      exact xr_zret C hr (by decide +kernel) hlk ⟨_, rfl, by rw [show vWhl h d = false by cases hq : vWhl h d with | false => rfl | true => rw [hq] at hvd; simp at hvd; omega]; rfl, ⟨vd, hV, hvd⟩, mq_F.rf⟩ (by omega) (by omega) dX10_isWhole_52
    · refine xr_iconst (n := 1) C dX10_isWhole_47 (by decide +kernel) ?_
      refine xr_goto C dX10_isWhole_48 rfl ?_
      exact xr_zret C hr (by decide +kernel) hlk ⟨_, rfl, by rw [show vWhl h d = true by cases hq : vWhl h d with | true => rfl | false => rw [hq] at hvd; simp at hvd; omega]; rfl, ⟨vd, hV, hvd⟩, mq_F.rf⟩ (by omega) (by omega) dX10_isWhole_52
  · refine xr_aload_n C dX10_isWhole_7 rfl ?_
    refine xr_aload_n C dX10_isWhole_8 rfl ?_
    refine xr_callV0i C (c_headFits l G x ch b a h d vd M hV) (cwV 0 C.1.2.2.2.2 gX10_isWhole_X10_headFits rfl rfl rfl (by decide +kernel) ⟨Nat.le_of_ble_eq_true rfl, Nat.le_of_ble_eq_true rfl⟩) hV.1 rfl (Nat.le_of_ble_eq_true rfl) ⟨by dsimp only; omega, by dsimp only; omega⟩ dX10_isWhole_9 (fun r3 M9 hp9 => ?_)
    obtain ⟨rfl, rfl⟩ := hp9
    cases hfit : vFits h d
    · refine xr_if_eq C dX10_isWhole_12 rfl (by decide) (fun _ => ?_) (fun hq => absurd hq (by decide))
      refine xr_iconst (n := 2) C dX10_isWhole_35 (by decide +kernel) ?_
      refine xr_put C (Cn := RX10) (T := TX10) (N := 4) (by decide +kernel) hV.1 rfl 3 (by decide) tyX10 tyX10_ok nmX10 (C.1.2.2.2.2 (.fieldLink RX10 42 "OssuaryVault$Volume" "verdict" "I") (by decide +kernel)) (fun _ h => h) rfl (tyX10_ok 3 (by decide)) rfl rfl (Nat.le_of_ble_eq_true rfl) dX10_isWhole_36 ?_
      refine mq_ren (fun M4 hM4 => ?_)
      have hw9 : vWhl h d = false := by unfold vWhl; rw [hfit]; rfl
      have hF1 : mq_F [x] M M4 := mq_F.up hM4 (by simp)
      have hV1 : voI G M4 x ch b a h d 2 := ⟨by rw [hM4, mq_up_s]; rfl, hV.2.fr hF1 (by simp [n_b_x]) (by simp [n_a_x])⟩
      refine xr_aload_n C dX10_isWhole_39 rfl ?_
      refine xr_get C (Cn := RX10) (T := TX10) (N := 4) (by decide +kernel) hV1.1 rfl 3 (by decide) (C.1.2.2.2.2 (.fieldLink RX10 42 "OssuaryVault$Volume" "verdict" "I") (by decide +kernel)) (fun _ h => h) rfl dX10_isWhole_40 ?_
      refine xr_iconst (n := 1) C dX10_isWhole_43 (by decide +kernel) ?_
      refine xr_icmp_ne C dX10_isWhole_44 rfl (by decide) (by decide) (fun _ => ?_) (fun hq => absurd hq (by decide))
      refine xr_iconst (n := 0) C dX10_isWhole_51 (by decide +kernel) ?_
      exact xr_zret C hr (by decide +kernel) hlk ⟨_, rfl, by rw [hw9]; rfl, ⟨2, hV1, by rw [hw9]; rfl⟩, hF1⟩ (by omega) (by omega) dX10_isWhole_52
    · refine xr_if_eq C dX10_isWhole_12 rfl (by decide) (fun hq => absurd hq (by decide)) (fun _ => ?_)
      refine xr_aload_n C dX10_isWhole_15 rfl ?_
      refine xr_get C (Cn := RX10) (T := TX10) (N := 4) (by decide +kernel) hV.1 rfl 1 (by decide) (C.1.2.2.2.2 (.fieldLink RX10 14 "OssuaryVault$Volume" "bytes" "LOssuaryVault$Bytes;") (by decide +kernel)) (fun _ h => h) rfl dX10_isWhole_16 ?_
      refine xr_bipush (n := 8) C dX10_isWhole_19 (by decide +kernel) ?_
      refine xr_callV1i C (c_word l G b a 4080 d M hV.2 8 (by decide)) (cwV 1 C.1.2.2.2.2 gX10_isWhole_X0_word rfl rfl rfl (by decide +kernel) ⟨Nat.le_of_ble_eq_true rfl, Nat.le_of_ble_eq_true rfl⟩) hV.2.1 rfl (Nat.le_of_ble_eq_true rfl) ⟨by dsimp only; omega, by dsimp only; omega⟩ dX10_isWhole_21 (fun r5 M9 hp9 => ?_)
      obtain ⟨rfl, rfl⟩ := hp9
      refine xr_aload_n C dX10_isWhole_24 rfl ?_
      refine xr_callV0i C (c_rightCheck l G x ch b a h d vd M hV ca hC) (cwV 0 C.1.2.2.2.2 gX10_isWhole_X10_rightCheck rfl rfl rfl (by decide +kernel) ⟨Nat.le_of_ble_eq_true rfl, Nat.le_of_ble_eq_true rfl⟩) hV.1 rfl (Nat.le_of_ble_eq_true rfl) ⟨by dsimp only; omega, by dsimp only; omega⟩ dX10_isWhole_25 (fun r6 M9 hp9 => ?_)
      obtain ⟨rfl, rfl⟩ := hp9
      refine xr_icmp_ne C dX10_isWhole_28 rfl (by first | omega | (dsimp only; omega)) (by first | omega | (dsimp only; omega)) (fun hq7 => ?_) (fun hq7 => ?_)
      · refine xr_iconst (n := 2) C dX10_isWhole_35 (by decide +kernel) ?_
        refine xr_put C (Cn := RX10) (T := TX10) (N := 4) (by decide +kernel) hV.1 rfl 3 (by decide) tyX10 tyX10_ok nmX10 (C.1.2.2.2.2 (.fieldLink RX10 42 "OssuaryVault$Volume" "verdict" "I") (by decide +kernel)) (fun _ h => h) rfl (tyX10_ok 3 (by decide)) rfl rfl (Nat.le_of_ble_eq_true rfl) dX10_isWhole_36 ?_
        refine mq_ren (fun M8 hM8 => ?_)
        have hw9 : vWhl h d = false := by unfold vWhl; rw [hfit, decide_eq_false (by omega)]; rfl
        have hF1 : mq_F [x] M M8 := mq_F.up hM8 (by simp)
        have hV1 : voI G M8 x ch b a h d 2 := ⟨by rw [hM8, mq_up_s]; rfl, hV.2.fr hF1 (by simp [n_b_x]) (by simp [n_a_x])⟩
        refine xr_aload_n C dX10_isWhole_39 rfl ?_
        refine xr_get C (Cn := RX10) (T := TX10) (N := 4) (by decide +kernel) hV1.1 rfl 3 (by decide) (C.1.2.2.2.2 (.fieldLink RX10 42 "OssuaryVault$Volume" "verdict" "I") (by decide +kernel)) (fun _ h => h) rfl dX10_isWhole_40 ?_
        refine xr_iconst (n := 1) C dX10_isWhole_43 (by decide +kernel) ?_
        refine xr_icmp_ne C dX10_isWhole_44 rfl (by decide) (by decide) (fun _ => ?_) (fun hq => absurd hq (by decide))
        refine xr_iconst (n := 0) C dX10_isWhole_51 (by decide +kernel) ?_
        exact xr_zret C hr (by decide +kernel) hlk ⟨_, rfl, by rw [hw9]; rfl, ⟨2, hV1, by rw [hw9]; rfl⟩, hF1⟩ (by omega) (by omega) dX10_isWhole_52
      · refine xr_iconst (n := 1) C dX10_isWhole_31 (by decide +kernel) ?_
        refine xr_goto C dX10_isWhole_32 rfl ?_
        refine xr_put C (Cn := RX10) (T := TX10) (N := 4) (by decide +kernel) hV.1 rfl 3 (by decide) tyX10 tyX10_ok nmX10 (C.1.2.2.2.2 (.fieldLink RX10 42 "OssuaryVault$Volume" "verdict" "I") (by decide +kernel)) (fun _ h => h) rfl (tyX10_ok 3 (by decide)) rfl rfl (Nat.le_of_ble_eq_true rfl) dX10_isWhole_36 ?_
        refine mq_ren (fun M9 hM9 => ?_)
        have hw9 : vWhl h d = true := by unfold vWhl; rw [hfit, decide_eq_true (by omega)]; rfl
        have hF1 : mq_F [x] M M9 := mq_F.up hM9 (by simp)
        have hV1 : voI G M9 x ch b a h d 1 := ⟨by rw [hM9, mq_up_s]; rfl, hV.2.fr hF1 (by simp [n_b_x]) (by simp [n_a_x])⟩
        refine xr_aload_n C dX10_isWhole_39 rfl ?_
        refine xr_get C (Cn := RX10) (T := TX10) (N := 4) (by decide +kernel) hV1.1 rfl 3 (by decide) (C.1.2.2.2.2 (.fieldLink RX10 42 "OssuaryVault$Volume" "verdict" "I") (by decide +kernel)) (fun _ h => h) rfl dX10_isWhole_40 ?_
        refine xr_iconst (n := 1) C dX10_isWhole_43 (by decide +kernel) ?_
        refine xr_icmp_ne C dX10_isWhole_44 rfl (by decide) (by decide) (fun hq => absurd hq (by decide)) (fun _ => ?_)
        refine xr_iconst (n := 1) C dX10_isWhole_47 (by decide +kernel) ?_
        refine xr_goto C dX10_isWhole_48 rfl ?_
        exact xr_zret C hr (by decide +kernel) hlk ⟨_, rfl, by rw [hw9]; rfl, ⟨1, hV1, by rw [hw9]; rfl⟩, hF1⟩ (by omega) (by omega) dX10_isWhole_52
set_option maxHeartbeats 4000000 in
set_option maxRecDepth 100000 in
theorem c_isOfOneWith (l : Launch) (G : mq_G) (x ch b a : Nat) (h : Bool) (d : List Nat) (vd : Int) (M : mq_M) (hV : voI G M x ch b a h d vd) (x2 b2 a2 : Nat) (h2 : Bool) (d2 : List Nat) (vd2 : Int) (hV2 : voI G M x2 ch b2 a2 h2 d2 vd2) : mq_T l yX10_isOfOneWith wsX10_isOfOneWith { frames := 3, cells := 0, slots := 0, locals := 62 } G [.ref x, .ref x2] M (mq_ri M (mq_b (vOne d d2))) 0 0 := by
  refine mq_Met.of (cc := cX10_isOfOneWith) (maxL := 2) (ret := (some .boolean)) (by decide) rfl (Nat.le_of_ble_eq_true rfl) rfl rfl ?_
  intro p_ e_ s_ m_ args_ below_ meth_ c_ z_ C hr hlk hname
  have gd2 := mq_gd_lt hV.2.2.2.2.2.1 2
  have gd3 := mq_gd_lt hV.2.2.2.2.2.1 3
  have gd4 := mq_wd_lt hV.2.2.2.2.2.1 4
  have gd6 := mq_wd_lt hV.2.2.2.2.2.1 6
  have gd22 := mq_gd_lt hV2.2.2.2.2.2.1 2
  have gd23 := mq_gd_lt hV2.2.2.2.2.2.1 3
  have gd24 := mq_wd_lt hV2.2.2.2.2.2.1 4
  have gd26 := mq_wd_lt hV2.2.2.2.2.2.1 6
  refine xr_aload_n C dX10_isOfOneWith_0 rfl ?_
  refine xr_callV0i C (c_dataTold l G x ch b a h d vd M hV) (cwV 0 C.1.2.2.2.2 gX10_isOfOneWith_X10_dataTold rfl rfl rfl (by decide +kernel) ⟨Nat.le_of_ble_eq_true rfl, Nat.le_of_ble_eq_true rfl⟩) hV.1 rfl (Nat.le_of_ble_eq_true rfl) ⟨by dsimp only; omega, by dsimp only; omega⟩ dX10_isOfOneWith_1 (fun r1 M9 hp9 => ?_)
  obtain ⟨rfl, rfl⟩ := hp9
  refine xr_aload_n C dX10_isOfOneWith_4 rfl ?_
  refine xr_callV0i C (c_dataTold l G x2 ch b2 a2 h2 d2 vd2 M hV2) (cwV 0 C.1.2.2.2.2 gX10_isOfOneWith_X10_dataTold rfl rfl rfl (by decide +kernel) ⟨Nat.le_of_ble_eq_true rfl, Nat.le_of_ble_eq_true rfl⟩) hV2.1 rfl (Nat.le_of_ble_eq_true rfl) ⟨by dsimp only; omega, by dsimp only; omega⟩ dX10_isOfOneWith_5 (fun r2 M9 hp9 => ?_)
  obtain ⟨rfl, rfl⟩ := hp9
  refine xr_icmp_ne C dX10_isOfOneWith_8 rfl (by first | omega | (dsimp only; omega)) (by first | omega | (dsimp only; omega)) (fun hq3 => ?_) (fun hq3 => ?_)
  · refine xr_iconst (n := 0) C dX10_isOfOneWith_48 (by decide +kernel) ?_
    exact xr_zret C hr (by decide +kernel) hlk ⟨_, rfl, by rw [show vOne d d2 = false from decide_eq_false (fun q => by obtain ⟨q0, q1, q2, q3⟩ := q; omega)]; rfl, rfl⟩ (by omega) (by omega) dX10_isOfOneWith_49
  · refine xr_aload_n C dX10_isOfOneWith_11 rfl ?_
    refine xr_callV0i C (c_parityTold l G x ch b a h d vd M hV) (cwV 0 C.1.2.2.2.2 gX10_isOfOneWith_X10_parityTold rfl rfl rfl (by decide +kernel) ⟨Nat.le_of_ble_eq_true rfl, Nat.le_of_ble_eq_true rfl⟩) hV.1 rfl (Nat.le_of_ble_eq_true rfl) ⟨by dsimp only; omega, by dsimp only; omega⟩ dX10_isOfOneWith_12 (fun r4 M9 hp9 => ?_)
    obtain ⟨rfl, rfl⟩ := hp9
    refine xr_aload_n C dX10_isOfOneWith_15 rfl ?_
    refine xr_callV0i C (c_parityTold l G x2 ch b2 a2 h2 d2 vd2 M hV2) (cwV 0 C.1.2.2.2.2 gX10_isOfOneWith_X10_parityTold rfl rfl rfl (by decide +kernel) ⟨Nat.le_of_ble_eq_true rfl, Nat.le_of_ble_eq_true rfl⟩) hV2.1 rfl (Nat.le_of_ble_eq_true rfl) ⟨by dsimp only; omega, by dsimp only; omega⟩ dX10_isOfOneWith_16 (fun r5 M9 hp9 => ?_)
    obtain ⟨rfl, rfl⟩ := hp9
    refine xr_icmp_ne C dX10_isOfOneWith_19 rfl (by first | omega | (dsimp only; omega)) (by first | omega | (dsimp only; omega)) (fun hq6 => ?_) (fun hq6 => ?_)
    · refine xr_iconst (n := 0) C dX10_isOfOneWith_48 (by decide +kernel) ?_
      exact xr_zret C hr (by decide +kernel) hlk ⟨_, rfl, by rw [show vOne d d2 = false from decide_eq_false (fun q => by obtain ⟨q0, q1, q2, q3⟩ := q; omega)]; rfl, rfl⟩ (by omega) (by omega) dX10_isOfOneWith_49
    · refine xr_aload_n C dX10_isOfOneWith_22 rfl ?_
      refine xr_callV0i C (c_bodyTold l G x ch b a h d vd M hV) (cwV 0 C.1.2.2.2.2 gX10_isOfOneWith_X10_bodyTold rfl rfl rfl (by decide +kernel) ⟨Nat.le_of_ble_eq_true rfl, Nat.le_of_ble_eq_true rfl⟩) hV.1 rfl (Nat.le_of_ble_eq_true rfl) ⟨by dsimp only; omega, by dsimp only; omega⟩ dX10_isOfOneWith_23 (fun r7 M9 hp9 => ?_)
      obtain ⟨rfl, rfl⟩ := hp9
      refine xr_aload_n C dX10_isOfOneWith_26 rfl ?_
      refine xr_callV0i C (c_bodyTold l G x2 ch b2 a2 h2 d2 vd2 M hV2) (cwV 0 C.1.2.2.2.2 gX10_isOfOneWith_X10_bodyTold rfl rfl rfl (by decide +kernel) ⟨Nat.le_of_ble_eq_true rfl, Nat.le_of_ble_eq_true rfl⟩) hV2.1 rfl (Nat.le_of_ble_eq_true rfl) ⟨by dsimp only; omega, by dsimp only; omega⟩ dX10_isOfOneWith_27 (fun r8 M9 hp9 => ?_)
      obtain ⟨rfl, rfl⟩ := hp9
      refine xr_icmp_ne C dX10_isOfOneWith_30 rfl (by first | omega | (dsimp only; omega)) (by first | omega | (dsimp only; omega)) (fun hq9 => ?_) (fun hq9 => ?_)
      · refine xr_iconst (n := 0) C dX10_isOfOneWith_48 (by decide +kernel) ?_
        exact xr_zret C hr (by decide +kernel) hlk ⟨_, rfl, by rw [show vOne d d2 = false from decide_eq_false (fun q => by obtain ⟨q0, q1, q2, q3⟩ := q; omega)]; rfl, rfl⟩ (by omega) (by omega) dX10_isOfOneWith_49
      · refine xr_aload_n C dX10_isOfOneWith_33 rfl ?_
        refine xr_callV0i C (c_streamTold l G x ch b a h d vd M hV) (cwV 0 C.1.2.2.2.2 gX10_isOfOneWith_X10_streamTold rfl rfl rfl (by decide +kernel) ⟨Nat.le_of_ble_eq_true rfl, Nat.le_of_ble_eq_true rfl⟩) hV.1 rfl (Nat.le_of_ble_eq_true rfl) ⟨by dsimp only; omega, by dsimp only; omega⟩ dX10_isOfOneWith_34 (fun r10 M9 hp9 => ?_)
        obtain ⟨rfl, rfl⟩ := hp9
        refine xr_aload_n C dX10_isOfOneWith_37 rfl ?_
        refine xr_callV0i C (c_streamTold l G x2 ch b2 a2 h2 d2 vd2 M hV2) (cwV 0 C.1.2.2.2.2 gX10_isOfOneWith_X10_streamTold rfl rfl rfl (by decide +kernel) ⟨Nat.le_of_ble_eq_true rfl, Nat.le_of_ble_eq_true rfl⟩) hV2.1 rfl (Nat.le_of_ble_eq_true rfl) ⟨by dsimp only; omega, by dsimp only; omega⟩ dX10_isOfOneWith_38 (fun r11 M9 hp9 => ?_)
        obtain ⟨rfl, rfl⟩ := hp9
        refine xr_icmp_ne C dX10_isOfOneWith_41 rfl (by first | omega | (dsimp only; omega)) (by first | omega | (dsimp only; omega)) (fun hq12 => ?_) (fun hq12 => ?_)
        · refine xr_iconst (n := 0) C dX10_isOfOneWith_48 (by decide +kernel) ?_
          exact xr_zret C hr (by decide +kernel) hlk ⟨_, rfl, by rw [show vOne d d2 = false from decide_eq_false (fun q => by obtain ⟨q0, q1, q2, q3⟩ := q; omega)]; rfl, rfl⟩ (by omega) (by omega) dX10_isOfOneWith_49
        · refine xr_iconst (n := 1) C dX10_isOfOneWith_44 (by decide +kernel) ?_
          refine xr_goto C dX10_isOfOneWith_45 rfl ?_
          exact xr_zret C hr (by decide +kernel) hlk ⟨_, rfl, by rw [show vOne d d2 = true from decide_eq_true (by omega)]; rfl, rfl⟩ (by omega) (by omega) dX10_isOfOneWith_49
