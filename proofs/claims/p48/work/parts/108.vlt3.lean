set_option maxHeartbeats 4000000 in
set_option maxRecDepth 100000 in
theorem c_reqOpen (l : Launch) (G : mq_G) (La : Nat → Nat) (hI : mq_inj La) (M : mq_M) (hO : vtO M La) (da pa : Int) (ix : Bool) (n : Nat) (S : List Nat) (fc : Nat → List Nat) (fk fp ft : Nat → Int) (fg : Nat → Bool) (hR : rdI G M La true da pa ix n S fc fk fp ft fg) : mq_T l yX11_requireOpen wsX11_requireOpen { frames := 0, cells := 0, slots := 0, locals := 0 } G [.ref (La 0)] M (mq_pv (fun M2 => M = M2)) 0 0 := by
  refine mq_Met.of (cc := cX11_requireOpen) (maxL := 1) (ret := none) (by decide) rfl (Nat.le_of_ble_eq_true rfl) rfl rfl ?_
  intro p_ e_ s_ m_ args_ below_ meth_ c_ z_ C hr hlk hname
  refine xr_aload_n C dX11_requireOpen_0 rfl ?_
  refine xr_get C (Cn := RX11) (T := TX11) (N := 5) (by decide +kernel) hO rfl 4 (by decide) (C.1.2.2.2.2 (.fieldLink RX11 49 "OssuaryVault" "reading" "LOssuaryVault$Reading;") (by decide +kernel)) (fun _ h => h) rfl dX11_requireOpen_1 ?_
  refine xr_getN C (Cn := RX7) (T := TX7) (N := 8) (by decide +kernel) hR.1 rfl 3 (by decide) (va_Nw.use rfl (C.2.2.1 ("OssuaryVault", 327, "OssuaryVault$Reading", "isOpen", "Z", "OssuaryVault") (by decide +kernel))) (fun _ h => h) rfl dX11_requireOpen_4 ?_
  refine xr_if_ne C dX11_requireOpen_7 rfl (by decide) (fun _ => ?_) (fun hq => absurd hq (by decide))
  exact xr_vret C hr hlk ⟨rfl, rfl⟩ (by omega) (by omega) dX11_requireOpen_21
set_option maxHeartbeats 4000000 in
set_option maxRecDepth 100000 in
theorem c_readFile (l : Launch) (G : mq_G) (La : Nat → Nat) (hI : mq_inj La) (M : mq_M) (hO : vtO M La) (da pa : Int) (ix : Bool) (n : Nat) (S : List Nat) (fc : Nat → List Nat) (fk fp ft : Nat → Int) (fg : Nat → Bool) (hR : rdI G M La true da pa ix n S fc fk fp ft fg) (hn40 : n ≤ 40) (i : Nat) (hi : i < n) : mq_T l yX11_readFile wsX11_readFile { frames := 1, cells := 0, slots := 0, locals := 21 } G [.ref (La 0), .int (zI (i : Int))] M (mq_pa (fun r M2 => r = La (155 + 3 * i) ∧ M = M2)) 0 0 := by
  refine mq_Met.of (cc := cX11_readFile) (maxL := 3) (ret := (some (.object "OssuaryVault$FoundFile"))) (by decide) rfl (Nat.le_of_ble_eq_true rfl) rfl rfl ?_
  intro p_ e_ s_ m_ args_ below_ meth_ c_ z_ C hr hlk hname
  refine xr_aload_n C dX11_readFile_0 rfl ?_
  refine xr_callV0v C (c_reqOpen l G La hI M hO da pa ix n S fc fk fp ft fg hR) (cwV 0 C.1.2.2.2.2 gX11_readFile_X11_requireOpen rfl rfl rfl (by decide +kernel) ⟨Nat.le_of_ble_eq_true rfl, Nat.le_of_ble_eq_true rfl⟩) hO rfl (Nat.le_of_ble_eq_true rfl) ⟨by dsimp only; omega, by dsimp only; omega⟩ dX11_readFile_1 (fun M9 hp9 => ?_)
  subst hp9
  refine xr_aload_n C dX11_readFile_4 rfl ?_
  refine xr_get C (Cn := RX11) (T := TX11) (N := 5) (by decide +kernel) hO rfl 4 (by decide) (C.1.2.2.2.2 (.fieldLink RX11 49 "OssuaryVault" "reading" "LOssuaryVault$Reading;") (by decide +kernel)) (fun _ h => h) rfl dX11_readFile_5 ?_
  refine xr_iload_n C dX11_readFile_8 rfl ?_
  refine xr_callV1a C (c_rdAt l G La hI true da pa ix n S fc fk fp ft fg M hR i hi (by omega) hn40) (cwV 1 C.1.2.2.2.2 gX11_readFile_X7_at rfl rfl rfl (by decide +kernel) ⟨Nat.le_of_ble_eq_true rfl, Nat.le_of_ble_eq_true rfl⟩) hR.1 rfl (Nat.le_of_ble_eq_true rfl) ⟨by dsimp only; omega, by dsimp only; omega⟩ dX11_readFile_9 (fun r9 M9 hp9 => ?_)
  obtain ⟨rfl, rfl⟩ := hp9
  refine xr_astore_n C dX11_readFile_12 (by decide) rfl ?_
  refine xr_aload_n C dX11_readFile_13 rfl ?_
  refine xr_ifnonnull_s C dX11_readFile_14 rfl ?_
  refine xr_aload_n C dX11_readFile_28 rfl ?_
  exact xr_aret (v := some _) C hr (Or.inl ⟨_, rfl⟩) hlk ⟨_, rfl, rfl, rfl⟩ (by omega) (by omega) dX11_readFile_29
set_option maxHeartbeats 4000000 in
set_option maxRecDepth 100000 in
theorem c_opened (l : Launch) (G : mq_G) (La : Nat → Nat) (hI : mq_inj La) (sh : List Nat) (k : vtD) (h : Nat → Bool) (d : Nat → List Nat) (da pa : Int) (ix : Bool) (n : Nat) (S : List Nat) (fc : Nat → List Nat) (fk fp ft : Nat → Int) (fg : Nat → Bool) (M : mq_M) (hV : vtI G M La sh k h d (true, da, pa, ix, n, S, fc, fk, fp, ft, fg)) : mq_T l yX11_opened wsX11_opened { frames := 1, cells := 0, slots := 0, locals := 20 } G [.ref (La 0)] M (mq_ri M (S.length : Int)) 0 0 := by
  refine mq_Met.of (cc := cX11_opened) (maxL := 1) (ret := (some .int)) (by decide) rfl (Nat.le_of_ble_eq_true rfl) rfl rfl ?_
  intro p_ e_ s_ m_ args_ below_ meth_ c_ z_ C hr hlk hname
  obtain ⟨v1, v2, v3, v4, v5, v6, v7, v8, v9⟩ := id hV
  have hR : rdI G M La true da pa ix n S fc fk fp ft fg := v9.1
  have hn40 : n ≤ 40 := v9.2.2
  refine xr_aload_n C dX11_opened_0 rfl ?_
  refine xr_callV0v C (c_reqOpen l G La hI M v1 da pa ix n S fc fk fp ft fg hR) (cwV 0 C.1.2.2.2.2 gX11_opened_X11_requireOpen rfl rfl rfl (by decide +kernel) ⟨Nat.le_of_ble_eq_true rfl, Nat.le_of_ble_eq_true rfl⟩) v1 rfl (Nat.le_of_ble_eq_true rfl) ⟨by dsimp only; omega, by dsimp only; omega⟩ dX11_opened_1 (fun M9 hp9 => ?_)
  subst hp9
  refine xr_aload_n C dX11_opened_4 rfl ?_
  refine xr_get C (Cn := RX11) (T := TX11) (N := 5) (by decide +kernel) v1 rfl 4 (by decide) (C.1.2.2.2.2 (.fieldLink RX11 49 "OssuaryVault" "reading" "LOssuaryVault$Reading;") (by decide +kernel)) (fun _ h => h) rfl dX11_opened_5 ?_
  refine xr_getN C (Cn := RX7) (T := TX7) (N := 8) (by decide +kernel) hR.1 rfl 1 (by decide) (va_Nw.use rfl (C.2.2.1 ("OssuaryVault", 248, "OssuaryVault$Reading", "stream", "LOssuaryVault$Bytes;", "OssuaryVault") (by decide +kernel))) (fun _ h => h) rfl dX11_opened_8 ?_
  refine xr_callV0i C (c_size l G _ _ _ _ M hR.2.1) (cwV 0 C.1.2.2.2.2 gX11_opened_X0_size rfl rfl rfl (by decide +kernel) ⟨Nat.le_of_ble_eq_true rfl, Nat.le_of_ble_eq_true rfl⟩) hR.2.1.1 rfl (Nat.le_of_ble_eq_true rfl) ⟨by dsimp only; omega, by dsimp only; omega⟩ dX11_opened_11 (fun r1 M9 hp9 => ?_)
  obtain ⟨rfl, rfl⟩ := hp9
  exact xr_iret C hr hlk ⟨_, rfl, rfl, rfl⟩ (by omega) (by omega) dX11_opened_14
set_option maxHeartbeats 4000000 in
set_option maxRecDepth 100000 in
theorem c_streamAt (l : Launch) (G : mq_G) (La : Nat → Nat) (hI : mq_inj La) (sh : List Nat) (k : vtD) (h : Nat → Bool) (d : Nat → List Nat) (da pa : Int) (ix : Bool) (n : Nat) (S : List Nat) (fc : Nat → List Nat) (fk fp ft : Nat → Int) (fg : Nat → Bool) (M : mq_M) (hV : vtI G M La sh k h d (true, da, pa, ix, n, S, fc, fk, fp, ft, fg)) (q : Nat) (hq : q < S.length) : mq_T l yX11_streamAt wsX11_streamAt { frames := 2, cells := 0, slots := 0, locals := 42 } G [.ref (La 0), .int (zI (q : Int))] M (mq_ri M (mq_gd S (q : Int) : Int)) 0 0 := by
  refine mq_Met.of (cc := cX11_streamAt) (maxL := 2) (ret := (some .int)) (by decide) rfl (Nat.le_of_ble_eq_true rfl) rfl rfl ?_
  intro p_ e_ s_ m_ args_ below_ meth_ c_ z_ C hr hlk hname
  obtain ⟨v1, v2, v3, v4, v5, v6, v7, v8, v9⟩ := id hV
  have hR : rdI G M La true da pa ix n S fc fk fp ft fg := v9.1
  have hn40 : n ≤ 40 := v9.2.2
  refine xr_aload_n C dX11_streamAt_0 rfl ?_
  refine xr_callV0v C (c_reqOpen l G La hI M v1 da pa ix n S fc fk fp ft fg hR) (cwV 0 C.1.2.2.2.2 gX11_streamAt_X11_requireOpen rfl rfl rfl (by decide +kernel) ⟨Nat.le_of_ble_eq_true rfl, Nat.le_of_ble_eq_true rfl⟩) v1 rfl (Nat.le_of_ble_eq_true rfl) ⟨by dsimp only; omega, by dsimp only; omega⟩ dX11_streamAt_1 (fun M9 hp9 => ?_)
  subst hp9
  refine xr_aload_n C dX11_streamAt_4 rfl ?_
  refine xr_get C (Cn := RX11) (T := TX11) (N := 5) (by decide +kernel) v1 rfl 4 (by decide) (C.1.2.2.2.2 (.fieldLink RX11 49 "OssuaryVault" "reading" "LOssuaryVault$Reading;") (by decide +kernel)) (fun _ h => h) rfl dX11_streamAt_5 ?_
  refine xr_getN C (Cn := RX7) (T := TX7) (N := 8) (by decide +kernel) hR.1 rfl 1 (by decide) (va_Nw.use rfl (C.2.2.1 ("OssuaryVault", 248, "OssuaryVault$Reading", "stream", "LOssuaryVault$Bytes;", "OssuaryVault") (by decide +kernel))) (fun _ h => h) rfl dX11_streamAt_8 ?_
  refine xr_iload_n C dX11_streamAt_11 rfl ?_
  refine xr_callS2i C (c_byteIn l G _ _ _ _ M hR.2.1 q hq) (cwS 2 C.1.2.2.2.2 gX11_streamAt_X11_byteIn rfl rfl rfl (by decide +kernel) ⟨Nat.le_of_ble_eq_true rfl, Nat.le_of_ble_eq_true rfl⟩) (Nat.le_of_ble_eq_true rfl) ⟨by dsimp only; omega, by dsimp only; omega⟩ dX11_streamAt_12 (fun r1 M9 hp9 => ?_)
  obtain ⟨rfl, rfl⟩ := hp9
  exact xr_iret C hr hlk ⟨_, rfl, rfl, rfl⟩ (by omega) (by omega) dX11_streamAt_15
set_option maxHeartbeats 4000000 in
set_option maxRecDepth 100000 in
theorem c_found (l : Launch) (G : mq_G) (La : Nat → Nat) (hI : mq_inj La) (sh : List Nat) (k : vtD) (h : Nat → Bool) (d : Nat → List Nat) (da pa : Int) (ix : Bool) (n : Nat) (S : List Nat) (fc : Nat → List Nat) (fk fp ft : Nat → Int) (fg : Nat → Bool) (M : mq_M) (hV : vtI G M La sh k h d (true, da, pa, ix, n, S, fc, fk, fp, ft, fg)) : mq_T l yX11_found wsX11_found { frames := 1, cells := 0, slots := 0, locals := 20 } G [.ref (La 0)] M (mq_ri M (n : Int)) 0 0 := by
  refine mq_Met.of (cc := cX11_found) (maxL := 1) (ret := (some .int)) (by decide) rfl (Nat.le_of_ble_eq_true rfl) rfl rfl ?_
  intro p_ e_ s_ m_ args_ below_ meth_ c_ z_ C hr hlk hname
  obtain ⟨v1, v2, v3, v4, v5, v6, v7, v8, v9⟩ := id hV
  have hR : rdI G M La true da pa ix n S fc fk fp ft fg := v9.1
  have hn40 : n ≤ 40 := v9.2.2
  refine xr_aload_n C dX11_found_0 rfl ?_
  refine xr_callV0v C (c_reqOpen l G La hI M v1 da pa ix n S fc fk fp ft fg hR) (cwV 0 C.1.2.2.2.2 gX11_found_X11_requireOpen rfl rfl rfl (by decide +kernel) ⟨Nat.le_of_ble_eq_true rfl, Nat.le_of_ble_eq_true rfl⟩) v1 rfl (Nat.le_of_ble_eq_true rfl) ⟨by dsimp only; omega, by dsimp only; omega⟩ dX11_found_1 (fun M9 hp9 => ?_)
  subst hp9
  refine xr_aload_n C dX11_found_4 rfl ?_
  refine xr_get C (Cn := RX11) (T := TX11) (N := 5) (by decide +kernel) v1 rfl 4 (by decide) (C.1.2.2.2.2 (.fieldLink RX11 49 "OssuaryVault" "reading" "LOssuaryVault$Reading;") (by decide +kernel)) (fun _ h => h) rfl dX11_found_5 ?_
  refine xr_getN C (Cn := RX7) (T := TX7) (N := 8) (by decide +kernel) hR.1 rfl 7 (by decide) (va_Nw.use rfl (C.2.2.1 ("OssuaryVault", 280, "OssuaryVault$Reading", "count", "I", "OssuaryVault") (by decide +kernel))) (fun _ h => h) rfl dX11_found_8 ?_
  exact xr_iret C hr hlk ⟨_, rfl, rfl, rfl⟩ (by omega) (by omega) dX11_found_11
set_option maxHeartbeats 4000000 in
set_option maxRecDepth 100000 in
theorem c_keyFound (l : Launch) (G : mq_G) (La : Nat → Nat) (hI : mq_inj La) (sh : List Nat) (k : vtD) (h : Nat → Bool) (d : Nat → List Nat) (da pa : Int) (ix : Bool) (n : Nat) (S : List Nat) (fc : Nat → List Nat) (fk fp ft : Nat → Int) (fg : Nat → Bool) (M : mq_M) (hV : vtI G M La sh k h d (true, da, pa, ix, n, S, fc, fk, fp, ft, fg)) (i : Nat) (hi : i < n) : mq_T l yX11_keyFound wsX11_keyFound { frames := 2, cells := 0, slots := 0, locals := 43 } G [.ref (La 0), .int (zI (i : Int))] M (mq_ri M (fk i)) 0 0 := by
  refine mq_Met.of (cc := cX11_keyFound) (maxL := 2) (ret := (some .int)) (by decide) rfl (Nat.le_of_ble_eq_true rfl) rfl rfl ?_
  intro p_ e_ s_ m_ args_ below_ meth_ c_ z_ C hr hlk hname
  obtain ⟨v1, v2, v3, v4, v5, v6, v7, v8, v9⟩ := id hV
  have hR : rdI G M La true da pa ix n S fc fk fp ft fg := v9.1
  have hn40 : n ≤ 40 := v9.2.2
  refine xr_aload_n C dX11_keyFound_0 rfl ?_
  refine xr_iload_n C dX11_keyFound_1 rfl ?_
  refine xr_callV1a C (c_readFile l G La hI M v1 da pa ix n S fc fk fp ft fg hR hn40 i hi) (cwV 1 C.1.2.2.2.2 gX11_keyFound_X11_readFile rfl rfl rfl (by decide +kernel) ⟨Nat.le_of_ble_eq_true rfl, Nat.le_of_ble_eq_true rfl⟩) v1 rfl (Nat.le_of_ble_eq_true rfl) ⟨by dsimp only; omega, by dsimp only; omega⟩ dX11_keyFound_2 (fun r9 M9 hp9 => ?_)
  obtain ⟨rfl, rfl⟩ := hp9
  have hF := hR.2.2.2 i (by omega)
  refine xr_getN C (Cn := RX5) (T := TX5) (N := 5) (by decide +kernel) hF.1 rfl 1 (by decide) (va_Nw.use rfl (C.2.2.1 ("OssuaryVault", 286, "OssuaryVault$FoundFile", "key", "I", "OssuaryVault") (by decide +kernel))) (fun _ h => h) rfl dX11_keyFound_5 ?_
  exact xr_iret C hr hlk ⟨_, rfl, rfl, rfl⟩ (by omega) (by omega) dX11_keyFound_8
set_option maxHeartbeats 4000000 in
set_option maxRecDepth 100000 in
theorem c_placeFound (l : Launch) (G : mq_G) (La : Nat → Nat) (hI : mq_inj La) (sh : List Nat) (k : vtD) (h : Nat → Bool) (d : Nat → List Nat) (da pa : Int) (ix : Bool) (n : Nat) (S : List Nat) (fc : Nat → List Nat) (fk fp ft : Nat → Int) (fg : Nat → Bool) (M : mq_M) (hV : vtI G M La sh k h d (true, da, pa, ix, n, S, fc, fk, fp, ft, fg)) (i : Nat) (hi : i < n) : mq_T l yX11_placeFound wsX11_placeFound { frames := 2, cells := 0, slots := 0, locals := 43 } G [.ref (La 0), .int (zI (i : Int))] M (mq_ri M (fp i)) 0 0 := by
  refine mq_Met.of (cc := cX11_placeFound) (maxL := 2) (ret := (some .int)) (by decide) rfl (Nat.le_of_ble_eq_true rfl) rfl rfl ?_
  intro p_ e_ s_ m_ args_ below_ meth_ c_ z_ C hr hlk hname
  obtain ⟨v1, v2, v3, v4, v5, v6, v7, v8, v9⟩ := id hV
  have hR : rdI G M La true da pa ix n S fc fk fp ft fg := v9.1
  have hn40 : n ≤ 40 := v9.2.2
  refine xr_aload_n C dX11_placeFound_0 rfl ?_
  refine xr_iload_n C dX11_placeFound_1 rfl ?_
  refine xr_callV1a C (c_readFile l G La hI M v1 da pa ix n S fc fk fp ft fg hR hn40 i hi) (cwV 1 C.1.2.2.2.2 gX11_placeFound_X11_readFile rfl rfl rfl (by decide +kernel) ⟨Nat.le_of_ble_eq_true rfl, Nat.le_of_ble_eq_true rfl⟩) v1 rfl (Nat.le_of_ble_eq_true rfl) ⟨by dsimp only; omega, by dsimp only; omega⟩ dX11_placeFound_2 (fun r9 M9 hp9 => ?_)
  obtain ⟨rfl, rfl⟩ := hp9
  have hF := hR.2.2.2 i (by omega)
  refine xr_getN C (Cn := RX5) (T := TX5) (N := 5) (by decide +kernel) hF.1 rfl 2 (by decide) (va_Nw.use rfl (C.2.2.1 ("OssuaryVault", 289, "OssuaryVault$FoundFile", "place", "I", "OssuaryVault") (by decide +kernel))) (fun _ h => h) rfl dX11_placeFound_5 ?_
  exact xr_iret C hr hlk ⟨_, rfl, rfl, rfl⟩ (by omega) (by omega) dX11_placeFound_8
set_option maxHeartbeats 4000000 in
set_option maxRecDepth 100000 in
theorem c_isGood (l : Launch) (G : mq_G) (La : Nat → Nat) (hI : mq_inj La) (sh : List Nat) (k : vtD) (h : Nat → Bool) (d : Nat → List Nat) (da pa : Int) (ix : Bool) (n : Nat) (S : List Nat) (fc : Nat → List Nat) (fk fp ft : Nat → Int) (fg : Nat → Bool) (M : mq_M) (hV : vtI G M La sh k h d (true, da, pa, ix, n, S, fc, fk, fp, ft, fg)) (i : Nat) (hi : i < n) : mq_T l yX11_isGood wsX11_isGood { frames := 2, cells := 0, slots := 0, locals := 43 } G [.ref (La 0), .int (zI (i : Int))] M (mq_ri M (mq_b (fg i))) 0 0 := by
  refine mq_Met.of (cc := cX11_isGood) (maxL := 2) (ret := (some .boolean)) (by decide) rfl (Nat.le_of_ble_eq_true rfl) rfl rfl ?_
  intro p_ e_ s_ m_ args_ below_ meth_ c_ z_ C hr hlk hname
  obtain ⟨v1, v2, v3, v4, v5, v6, v7, v8, v9⟩ := id hV
  have hR : rdI G M La true da pa ix n S fc fk fp ft fg := v9.1
  have hn40 : n ≤ 40 := v9.2.2
  refine xr_aload_n C dX11_isGood_0 rfl ?_
  refine xr_iload_n C dX11_isGood_1 rfl ?_
  refine xr_callV1a C (c_readFile l G La hI M v1 da pa ix n S fc fk fp ft fg hR hn40 i hi) (cwV 1 C.1.2.2.2.2 gX11_isGood_X11_readFile rfl rfl rfl (by decide +kernel) ⟨Nat.le_of_ble_eq_true rfl, Nat.le_of_ble_eq_true rfl⟩) v1 rfl (Nat.le_of_ble_eq_true rfl) ⟨by dsimp only; omega, by dsimp only; omega⟩ dX11_isGood_2 (fun r9 M9 hp9 => ?_)
  obtain ⟨rfl, rfl⟩ := hp9
  have hF := hR.2.2.2 i (by omega)
  refine xr_getN C (Cn := RX5) (T := TX5) (N := 5) (by decide +kernel) hF.1 rfl 4 (by decide) (va_Nw.use rfl (C.2.2.1 ("OssuaryVault", 292, "OssuaryVault$FoundFile", "good", "Z", "OssuaryVault") (by decide +kernel))) (fun _ h => h) rfl dX11_isGood_5 ?_
  cases hg : fg i
  · exact xr_zret C hr (by decide +kernel) hlk ⟨_, rfl, rfl, rfl⟩ (by omega) (by omega) dX11_isGood_8
  · exact xr_zret C hr (by decide +kernel) hlk ⟨_, rfl, rfl, rfl⟩ (by omega) (by omega) dX11_isGood_8
set_option maxHeartbeats 4000000 in
set_option maxRecDepth 100000 in
theorem c_lengthFound (l : Launch) (G : mq_G) (La : Nat → Nat) (hI : mq_inj La) (sh : List Nat) (k : vtD) (h : Nat → Bool) (d : Nat → List Nat) (da pa : Int) (ix : Bool) (n : Nat) (S : List Nat) (fc : Nat → List Nat) (fk fp ft : Nat → Int) (fg : Nat → Bool) (M : mq_M) (hV : vtI G M La sh k h d (true, da, pa, ix, n, S, fc, fk, fp, ft, fg)) (i : Nat) (hi : i < n) : mq_T l yX11_lengthFound wsX11_lengthFound { frames := 2, cells := 0, slots := 0, locals := 43 } G [.ref (La 0), .int (zI (i : Int))] M (mq_ri M (vsz (fg i) (fc i))) 0 0 := by
  refine mq_Met.of (cc := cX11_lengthFound) (maxL := 2) (ret := (some .int)) (by decide) rfl (Nat.le_of_ble_eq_true rfl) rfl rfl ?_
  intro p_ e_ s_ m_ args_ below_ meth_ c_ z_ C hr hlk hname
  obtain ⟨v1, v2, v3, v4, v5, v6, v7, v8, v9⟩ := id hV
  have hR : rdI G M La true da pa ix n S fc fk fp ft fg := v9.1
  have hn40 : n ≤ 40 := v9.2.2
  refine xr_aload_n C dX11_lengthFound_0 rfl ?_
  refine xr_iload_n C dX11_lengthFound_1 rfl ?_
  refine xr_callV1a C (c_readFile l G La hI M v1 da pa ix n S fc fk fp ft fg hR hn40 i hi) (cwV 1 C.1.2.2.2.2 gX11_lengthFound_X11_readFile rfl rfl rfl (by decide +kernel) ⟨Nat.le_of_ble_eq_true rfl, Nat.le_of_ble_eq_true rfl⟩) v1 rfl (Nat.le_of_ble_eq_true rfl) ⟨by dsimp only; omega, by dsimp only; omega⟩ dX11_lengthFound_2 (fun r9 M9 hp9 => ?_)
  obtain ⟨rfl, rfl⟩ := hp9
  have hF := hR.2.2.2 i (by omega)
  refine xr_callV0i C (c_ffsize l G _ _ _ _ _ _ _ _ M hF) (cwV 0 C.1.2.2.2.2 gX11_lengthFound_X5_size rfl rfl rfl (by decide +kernel) ⟨Nat.le_of_ble_eq_true rfl, Nat.le_of_ble_eq_true rfl⟩) hF.1 rfl (Nat.le_of_ble_eq_true rfl) ⟨by dsimp only; omega, by dsimp only; omega⟩ dX11_lengthFound_5 (fun r1 M9 hp9 => ?_)
  obtain ⟨rfl, rfl⟩ := hp9
  exact xr_iret C hr hlk ⟨_, rfl, rfl, rfl⟩ (by omega) (by omega) dX11_lengthFound_8
set_option maxHeartbeats 4000000 in
set_option maxRecDepth 100000 in
theorem c_byteFound (l : Launch) (G : mq_G) (La : Nat → Nat) (hI : mq_inj La) (sh : List Nat) (k : vtD) (h : Nat → Bool) (d : Nat → List Nat) (da pa : Int) (ix : Bool) (n : Nat) (S : List Nat) (fc : Nat → List Nat) (fk fp ft : Nat → Int) (fg : Nat → Bool) (M : mq_M) (hV : vtI G M La sh k h d (true, da, pa, ix, n, S, fc, fk, fp, ft, fg)) (i : Nat) (hi : i < n) (hg : fg i = true) (q : Nat) (hq : q < (fc i).length) : mq_T l yX11_byteFound wsX11_byteFound { frames := 2, cells := 0, slots := 0, locals := 43 } G [.ref (La 0), .int (zI (i : Int)), .int (zI (q : Int))] M (mq_ri M (mq_gd (fc i) (q : Int) : Int)) 0 0 := by
  refine mq_Met.of (cc := cX11_byteFound) (maxL := 4) (ret := (some .int)) (by decide) rfl (Nat.le_of_ble_eq_true rfl) rfl rfl ?_
  intro p_ e_ s_ m_ args_ below_ meth_ c_ z_ C hr hlk hname
  obtain ⟨v1, v2, v3, v4, v5, v6, v7, v8, v9⟩ := id hV
  have hR : rdI G M La true da pa ix n S fc fk fp ft fg := v9.1
  have hn40 : n ≤ 40 := v9.2.2
  refine xr_aload_n C dX11_byteFound_0 rfl ?_
  refine xr_iload_n C dX11_byteFound_1 rfl ?_
  refine xr_callV1a C (c_readFile l G La hI M v1 da pa ix n S fc fk fp ft fg hR hn40 i hi) (cwV 1 C.1.2.2.2.2 gX11_byteFound_X11_readFile rfl rfl rfl (by decide +kernel) ⟨Nat.le_of_ble_eq_true rfl, Nat.le_of_ble_eq_true rfl⟩) v1 rfl (Nat.le_of_ble_eq_true rfl) ⟨by dsimp only; omega, by dsimp only; omega⟩ dX11_byteFound_2 (fun r9 M9 hp9 => ?_)
  obtain ⟨rfl, rfl⟩ := hp9
  have hF := hR.2.2.2 i (by omega)
  refine xr_astore_n C dX11_byteFound_5 (by decide) rfl ?_
  refine xr_aload_n C dX11_byteFound_6 rfl ?_
  refine xr_getN C (Cn := RX5) (T := TX5) (N := 5) (by decide +kernel) hF.1 rfl 4 (by decide) (va_Nw.use rfl (C.2.2.1 ("OssuaryVault", 292, "OssuaryVault$FoundFile", "good", "Z", "OssuaryVault") (by decide +kernel))) (fun _ h => h) rfl dX11_byteFound_7 ?_
  rw [hg, show mq_b true = 1 from rfl]
  refine xr_if_ne C dX11_byteFound_10 rfl (by first | omega | (dsimp only; omega)) (fun _ => ?_) (fun hq => absurd hq (by decide))
  refine xr_aload_n C dX11_byteFound_24 rfl ?_
  refine xr_getN C (Cn := RX5) (T := TX5) (N := 5) (by decide +kernel) hF.1 rfl 0 (by decide) (va_Nw.use rfl (C.2.2.1 ("OssuaryVault", 298, "OssuaryVault$FoundFile", "content", "LOssuaryVault$Bytes;", "OssuaryVault") (by decide +kernel))) (fun _ h => h) rfl dX11_byteFound_25 ?_
  refine xr_iload_n C dX11_byteFound_28 rfl ?_
  refine xr_callS2i C (c_byteIn l G _ _ _ _ M hF.2 q hq) (cwS 2 C.1.2.2.2.2 gX11_byteFound_X11_byteIn rfl rfl rfl (by decide +kernel) ⟨Nat.le_of_ble_eq_true rfl, Nat.le_of_ble_eq_true rfl⟩) (Nat.le_of_ble_eq_true rfl) ⟨by dsimp only; omega, by dsimp only; omega⟩ dX11_byteFound_29 (fun r1 M9 hp9 => ?_)
  obtain ⟨rfl, rfl⟩ := hp9
  exact xr_iret C hr hlk ⟨_, rfl, rfl, rfl⟩ (by omega) (by omega) dX11_byteFound_32
set_option maxHeartbeats 4000000 in
set_option maxRecDepth 100000 in
theorem c_repair (l : Launch) (G : mq_G) (La : Nat → Nat) (hI : mq_inj La) (sh : List Nat) (k : vtD) (h : Nat → Bool) (d : Nat → List Nat) (dn pn : Nat) (ix : Bool) (n : Nat) (S : List Nat) (fc : Nat → List Nat) (fk fp ft : Nat → Int) (fg : Nat → Bool) (M : mq_M) (hV : vtI G M La sh k h d (true, (dn : Int), (pn : Int), ix, n, S, fc, fk, fp, ft, fg)) (hdn : 0 < dn ∧ dn ≤ 10) (hpn : pn ≤ 6) (hbd : bdS S.length dn ≤ 4070) : mq_T l yX11_repair wsX11_repair { frames := 6, cells := 0, slots := 0, locals := 143 } G [.ref (La 0)] M (mq_pi (fun r9 M2 => r9 = (fwC h d S dn pn 16 : Int) ∧ (∃ (h2 : Nat → Bool) (d2 : Nat → List Nat), (∀ i, i < 16 → h2 i = fwH dn pn i ∧ d2 i = fwD S dn pn i) ∧ vtI G M2 La sh k h2 d2 (true, (dn : Int), (pn : Int), ix, n, S, fc, fk, fp, ft, fg)) ∧ mq_FR La vtA M M2)) 0 0 := by
  refine mq_Met.of (cc := cX11_repair) (maxL := 1) (ret := (some .int)) (by decide) rfl (Nat.le_of_ble_eq_true rfl) rfl rfl ?_
  intro p_ e_ s_ m_ args_ below_ meth_ c_ z_ C hr hlk hname
  obtain ⟨v1, v2, v3, v4, v5, v6, ⟨pv, vd, ld, mb, nu, ho, hP, hH⟩, v8, v9⟩ := id hV
  have hR : rdI G M La true (dn : Int) (pn : Int) ix n S fc fk fp ft fg := v9.1
  refine xr_aload_n C dX11_repair_0 rfl ?_
  refine xr_callV0v C (c_reqOpen l G La hI M v1 (dn : Int) (pn : Int) ix n S fc fk fp ft fg hR) (cwV 0 C.1.2.2.2.2 gX11_repair_X11_requireOpen rfl rfl rfl (by decide +kernel) ⟨Nat.le_of_ble_eq_true rfl, Nat.le_of_ble_eq_true rfl⟩) v1 rfl (Nat.le_of_ble_eq_true rfl) ⟨by dsimp only; omega, by dsimp only; omega⟩ dX11_repair_1 (fun M9 hp9 => ?_)
  subst hp9
  refine xr_aload_n C dX11_repair_4 rfl ?_
  refine xr_get C (Cn := RX11) (T := TX11) (N := 5) (by decide +kernel) v1 rfl 2 (by decide) (C.1.2.2.2.2 (.fieldLink RX11 33 "OssuaryVault" "shelf" "LOssuaryVault$Shelf;") (by decide +kernel)) (fun _ h => h) rfl dX11_repair_5 ?_
  refine xr_aload_n C dX11_repair_8 rfl ?_
  refine xr_get C (Cn := RX11) (T := TX11) (N := 5) (by decide +kernel) v1 rfl 4 (by decide) (C.1.2.2.2.2 (.fieldLink RX11 49 "OssuaryVault" "reading" "LOssuaryVault$Reading;") (by decide +kernel)) (fun _ h => h) rfl dX11_repair_9 ?_
  refine xr_getN C (Cn := RX7) (T := TX7) (N := 8) (by decide +kernel) hR.1 rfl 1 (by decide) (va_Nw.use rfl (C.2.2.1 ("OssuaryVault", 248, "OssuaryVault$Reading", "stream", "LOssuaryVault$Bytes;", "OssuaryVault") (by decide +kernel))) (fun _ h => h) rfl dX11_repair_12 ?_
  refine xr_aload_n C dX11_repair_15 rfl ?_
  refine xr_get C (Cn := RX11) (T := TX11) (N := 5) (by decide +kernel) v1 rfl 4 (by decide) (C.1.2.2.2.2 (.fieldLink RX11 49 "OssuaryVault" "reading" "LOssuaryVault$Reading;") (by decide +kernel)) (fun _ h => h) rfl dX11_repair_16 ?_
  refine xr_getN C (Cn := RX7) (T := TX7) (N := 8) (by decide +kernel) hR.1 rfl 4 (by decide) (va_Nw.use rfl (C.2.2.1 ("OssuaryVault", 251, "OssuaryVault$Reading", "data", "I", "OssuaryVault") (by decide +kernel))) (fun _ h => h) rfl dX11_repair_19 ?_
  refine xr_aload_n C dX11_repair_22 rfl ?_
  refine xr_get C (Cn := RX11) (T := TX11) (N := 5) (by decide +kernel) v1 rfl 4 (by decide) (C.1.2.2.2.2 (.fieldLink RX11 49 "OssuaryVault" "reading" "LOssuaryVault$Reading;") (by decide +kernel)) (fun _ h => h) rfl dX11_repair_23 ?_
  refine xr_getN C (Cn := RX7) (T := TX7) (N := 8) (by decide +kernel) hR.1 rfl 5 (by decide) (va_Nw.use rfl (C.2.2.1 ("OssuaryVault", 254, "OssuaryVault$Reading", "parity", "I", "OssuaryVault") (by decide +kernel))) (fun _ h => h) rfl dX11_repair_26 ?_
  have hSl := hR.2.1.2.2.1
  refine xr_callV3i C (c_fillWith l G La hI pv h d vd ld mb nu ho M hP hH v3 v2 21 40700 S (by decide) (by decide) (by decide) hR.2.1 dn pn hdn hpn (by omega) hbd) (cwV 3 C.1.2.2.2.2 gX11_repair_X9_fillWith rfl rfl rfl (by decide +kernel) ⟨Nat.le_of_ble_eq_true rfl, Nat.le_of_ble_eq_true rfl⟩) hH.1 rfl (Nat.le_of_ble_eq_true rfl) ⟨by dsimp only; omega, by dsimp only; omega⟩ dX11_repair_29 (fun r2 M2 hp2 => ?_)
  obtain ⟨rfl, ⟨pv2, h2, d2, vd2, hP2, hH2, hA2⟩, hF2⟩ := hp2
  have hV9 := hV.shelf hI hF2 (fun q hq => by have := mq_TTm.mp hq; omega) ⟨pv2, vd2, _, _, _, _, hP2, hH2⟩
  have F8 := hF2.all mq_TTl
  exact xr_iret C hr hlk ⟨_, rfl, rfl, ⟨h2, d2, hA2, hV9⟩, F8⟩ (by omega) (by omega) dX11_repair_32
