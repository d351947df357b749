set_option maxHeartbeats 4000000 in
set_option maxRecDepth 100000 in
theorem c_place (l : Launch) (G : mq_G) (La : Nat → Nat) (hI : mq_inj La) (M : mq_M) (hO : vtO M La) (pv : Nat → Nat) (h : Nat → Bool) (d : Nat → List Nat) (vd : Nat → Int) (ld mb : Int) (nu ho : Nat → Int) (hP : shP pv h d vd) (hH : shI G M La pv h d vd ld mb nu ho) (i : Nat) (hi : i < 16) : mq_T l yX11_placeOnShelf wsX11_placeOnShelf { frames := 1, cells := 0, slots := 0, locals := 21 } G [.ref (La 0), .int (zI (i : Int))] M (mq_pa (fun r M2 => r = La (104 + 3 * pv i) ∧ M = M2)) 0 0 := by
  refine mq_Met.of (cc := cX11_placeOnShelf) (maxL := 3) (ret := (some (.object "OssuaryVault$Volume"))) (by decide) rfl (Nat.le_of_ble_eq_true rfl) rfl rfl ?_
  intro p_ e_ s_ m_ args_ below_ meth_ c_ z_ C hr hlk hname
  refine xr_aload_n C dX11_placeOnShelf_0 rfl ?_
  refine xr_get C (Cn := RX11) (T := TX11) (N := 5) (by decide +kernel) hO rfl 2 (by decide) (C.1.2.2.2.2 (.fieldLink RX11 33 "OssuaryVault" "shelf" "LOssuaryVault$Shelf;") (by decide +kernel)) (fun _ h => h) rfl dX11_placeOnShelf_1 ?_
  refine xr_iload_n C dX11_placeOnShelf_4 rfl ?_
  refine xr_callV1a C (c_shAt l G La hI pv h d vd ld mb nu ho M hP hH i hi) (cwV 1 C.1.2.2.2.2 gX11_placeOnShelf_X9_at rfl rfl rfl (by decide +kernel) ⟨Nat.le_of_ble_eq_true rfl, Nat.le_of_ble_eq_true rfl⟩) hH.1 rfl (Nat.le_of_ble_eq_true rfl) ⟨by dsimp only; omega, by dsimp only; omega⟩ dX11_placeOnShelf_5 (fun r9 M9 hp9 => ?_)
  obtain ⟨rfl, rfl⟩ := hp9
  refine xr_astore_n C dX11_placeOnShelf_8 (by decide) rfl ?_
  refine xr_aload_n C dX11_placeOnShelf_9 rfl ?_
  refine xr_ifnonnull_s C dX11_placeOnShelf_10 rfl ?_
  refine xr_aload_n C dX11_placeOnShelf_24 rfl ?_
  exact xr_aret (v := some _) C hr (Or.inl ⟨_, rfl⟩) hlk ⟨_, rfl, rfl, rfl⟩ (by omega) (by omega) dX11_placeOnShelf_25
set_option maxHeartbeats 4000000 in
set_option maxRecDepth 100000 in
theorem c_volume (l : Launch) (G : mq_G) (La : Nat → Nat) (hI : mq_inj La) (M : mq_M) (hO : vtO M La) (pv : Nat → Nat) (h : Nat → Bool) (d : Nat → List Nat) (vd : Nat → Int) (ld mb : Int) (nu ho : Nat → Int) (hP : shP pv h d vd) (hH : shI G M La pv h d vd ld mb nu ho) (i : Nat) (hi : i < 16) (hh : h i = true) : mq_T l yX11_volumeOnShelf wsX11_volumeOnShelf { frames := 2, cells := 0, slots := 0, locals := 43 } G [.ref (La 0), .int (zI (i : Int))] M (mq_pa (fun r M2 => r = La (104 + 3 * pv i) ∧ M = M2)) 0 0 := by
  refine mq_Met.of (cc := cX11_volumeOnShelf) (maxL := 3) (ret := (some (.object "OssuaryVault$Volume"))) (by decide) rfl (Nat.le_of_ble_eq_true rfl) rfl rfl ?_
  intro p_ e_ s_ m_ args_ below_ meth_ c_ z_ C hr hlk hname
  refine xr_aload_n C dX11_volumeOnShelf_0 rfl ?_
  refine xr_iload_n C dX11_volumeOnShelf_1 rfl ?_
  refine xr_callV1a C (c_place l G La hI M hO pv h d vd ld mb nu ho hP hH i (by omega)) (cwV 1 C.1.2.2.2.2 gX11_volumeOnShelf_X11_placeOnShelf rfl rfl rfl (by decide +kernel) ⟨Nat.le_of_ble_eq_true rfl, Nat.le_of_ble_eq_true rfl⟩) hO rfl (Nat.le_of_ble_eq_true rfl) ⟨by dsimp only; omega, by dsimp only; omega⟩ dX11_volumeOnShelf_2 (fun r9 M9 hp9 => ?_)
  obtain ⟨rfl, rfl⟩ := hp9
  refine xr_astore_n C dX11_volumeOnShelf_5 (by decide) rfl ?_
  refine xr_aload_n C dX11_volumeOnShelf_6 rfl ?_
  refine xr_callV0i C (c_isHere l G _ _ _ _ _ _ _ M (hH.2.2.2.2 i (by omega))) (cwV 0 C.1.2.2.2.2 gX11_volumeOnShelf_X10_isHere rfl rfl rfl (by decide +kernel) ⟨Nat.le_of_ble_eq_true rfl, Nat.le_of_ble_eq_true rfl⟩) (hH.2.2.2.2 i (by omega)).1 rfl (Nat.le_of_ble_eq_true rfl) ⟨by dsimp only; omega, by dsimp only; omega⟩ dX11_volumeOnShelf_7 (fun r1 M9 hp9 => ?_)
  obtain ⟨rfl, rfl⟩ := hp9
  rw [hh, show mq_b true = 1 from rfl]
  refine xr_if_ne C dX11_volumeOnShelf_10 rfl (by first | omega | (dsimp only; omega)) (fun _ => ?_) (fun hq => absurd hq (by decide))
  refine xr_aload_n C dX11_volumeOnShelf_24 rfl ?_
  exact xr_aret (v := some _) C hr (Or.inl ⟨_, rfl⟩) hlk ⟨_, rfl, rfl, rfl⟩ (by omega) (by omega) dX11_volumeOnShelf_25
set_option maxHeartbeats 4000000 in
set_option maxRecDepth 100000 in
theorem c_byteIn (l : Launch) (G : mq_G) (b a n : Nat) (d : List Nat) (M : mq_M) (hB : bI G M b a n d) (k : Nat) (hk : k < d.length) : mq_T l yX11_byteIn wsX11_byteIn { frames := 1, cells := 0, slots := 0, locals := 21 } G [.ref b, .int (zI (k : Int))] M (mq_ri M (mq_gd d (k : Int) : Int)) 0 0 := by
  refine mq_Met.of (cc := cX11_byteIn) (maxL := 2) (ret := (some .int)) (by decide) rfl (Nat.le_of_ble_eq_true rfl) rfl rfl ?_
  intro p_ e_ s_ m_ args_ below_ meth_ c_ z_ C hr hlk hname
  have hl := hB.2.2.1
  have hn := hB.2.2.2.1
  refine xr_iload_n C dX11_byteIn_0 rfl ?_
  refine xr_if_lt C dX11_byteIn_1 rfl (by first | omega | (dsimp only; omega)) (fun hq => absurd hq (by omega)) (fun _ => ?_)
  refine xr_iload_n C dX11_byteIn_4 rfl ?_
  refine xr_aload_n C dX11_byteIn_5 rfl ?_
  refine xr_callV0i C (c_size l G _ _ _ _ M hB) (cwV 0 C.1.2.2.2.2 gX11_byteIn_X0_size rfl rfl rfl (by decide +kernel) ⟨Nat.le_of_ble_eq_true rfl, Nat.le_of_ble_eq_true rfl⟩) hB.1 rfl (Nat.le_of_ble_eq_true rfl) ⟨by dsimp only; omega, by dsimp only; omega⟩ dX11_byteIn_6 (fun r1 M9 hp9 => ?_)
  obtain ⟨rfl, rfl⟩ := hp9
  refine xr_icmp_lt C dX11_byteIn_9 rfl (by first | omega | (dsimp only; omega)) (by first | omega | (dsimp only; omega)) (fun _ => ?_) (fun hq => absurd hq (by omega))
  refine xr_aload_n C dX11_byteIn_23 rfl ?_
  refine xr_iload_n C dX11_byteIn_24 rfl ?_
  refine xr_callV1i C (c_at l G _ _ _ _ M hB (k : Int) (by omega)) (cwV 1 C.1.2.2.2.2 gX11_byteIn_X0_at rfl rfl rfl (by decide +kernel) ⟨Nat.le_of_ble_eq_true rfl, Nat.le_of_ble_eq_true rfl⟩) hB.1 rfl (Nat.le_of_ble_eq_true rfl) ⟨by dsimp only; omega, by dsimp only; omega⟩ dX11_byteIn_25 (fun r2 M9 hp9 => ?_)
  obtain ⟨rfl, rfl⟩ := hp9
  exact xr_iret C hr hlk ⟨_, rfl, rfl, rfl⟩ (by omega) (by omega) dX11_byteIn_28
set_option maxHeartbeats 4000000 in
set_option maxRecDepth 100000 in
theorem c_sizeOf (l : Launch) (G : mq_G) (La : Nat → Nat) (hI : mq_inj La) (sh : List Nat) (k : vtD) (h : Nat → Bool) (d : Nat → List Nat) (r : vtR) (M : mq_M) (hV : vtI G M La sh k h d r) (i : Nat) (hi : i < 16) : mq_T l yX11_sizeOf wsX11_sizeOf { frames := 2, cells := 0, slots := 0, locals := 43 } G [.ref (La 0), .int (zI (i : Int))] M (mq_ri M (vsz (h i) (d i))) 0 0 := by
  refine mq_Met.of (cc := cX11_sizeOf) (maxL := 2) (ret := (some .int)) (by decide) rfl (Nat.le_of_ble_eq_true rfl) rfl rfl ?_
  intro p_ e_ s_ m_ args_ below_ meth_ c_ z_ C hr hlk hname
  obtain ⟨v1, v2, v3, v4, v5, v6, ⟨pv, vd, ld, mb, nu, ho, hP, hH⟩, v8, v9⟩ := id hV
  refine xr_aload_n C dX11_sizeOf_0 rfl ?_
  refine xr_iload_n C dX11_sizeOf_1 rfl ?_
  refine xr_callV1a C (c_place l G La hI M v1 pv h d vd ld mb nu ho hP hH i (by omega)) (cwV 1 C.1.2.2.2.2 gX11_sizeOf_X11_placeOnShelf rfl rfl rfl (by decide +kernel) ⟨Nat.le_of_ble_eq_true rfl, Nat.le_of_ble_eq_true rfl⟩) v1 rfl (Nat.le_of_ble_eq_true rfl) ⟨by dsimp only; omega, by dsimp only; omega⟩ dX11_sizeOf_2 (fun r9 M9 hp9 => ?_)
  obtain ⟨rfl, rfl⟩ := hp9
  refine xr_callV0i C (c_vsize l G _ _ _ _ _ _ _ M (hH.2.2.2.2 i (by omega))) (cwV 0 C.1.2.2.2.2 gX11_sizeOf_X10_size rfl rfl rfl (by decide +kernel) ⟨Nat.le_of_ble_eq_true rfl, Nat.le_of_ble_eq_true rfl⟩) (hH.2.2.2.2 i (by omega)).1 rfl (Nat.le_of_ble_eq_true rfl) ⟨by dsimp only; omega, by dsimp only; omega⟩ dX11_sizeOf_5 (fun r1 M9 hp9 => ?_)
  obtain ⟨rfl, rfl⟩ := hp9
  exact xr_iret C hr hlk ⟨_, rfl, rfl, rfl⟩ (by omega) (by omega) dX11_sizeOf_8
set_option maxHeartbeats 4000000 in
set_option maxRecDepth 100000 in
theorem c_byteAt (l : Launch) (G : mq_G) (La : Nat → Nat) (hI : mq_inj La) (sh : List Nat) (k : vtD) (h : Nat → Bool) (d : Nat → List Nat) (r : vtR) (M : mq_M) (hV : vtI G M La sh k h d r) (i : Nat) (hi : i < 16) (hh : h i = true) (q : Nat) (hq : q < (d i).length) : mq_T l yX11_byteAt wsX11_byteAt { frames := 3, cells := 0, slots := 0, locals := 65 } G [.ref (La 0), .int (zI (i : Int)), .int (zI (q : Int))] M (mq_ri M (mq_gd (d i) (q : Int) : Int)) 0 0 := by
  refine mq_Met.of (cc := cX11_byteAt) (maxL := 3) (ret := (some .int)) (by decide) rfl (Nat.le_of_ble_eq_true rfl) rfl rfl ?_
  intro p_ e_ s_ m_ args_ below_ meth_ c_ z_ C hr hlk hname
  obtain ⟨v1, v2, v3, v4, v5, v6, ⟨pv, vd, ld, mb, nu, ho, hP, hH⟩, v8, v9⟩ := id hV
  refine xr_aload_n C dX11_byteAt_0 rfl ?_
  refine xr_iload_n C dX11_byteAt_1 rfl ?_
  refine xr_callV1a C (c_volume l G La hI M v1 pv h d vd ld mb nu ho hP hH i (by omega) hh) (cwV 1 C.1.2.2.2.2 gX11_byteAt_X11_volumeOnShelf rfl rfl rfl (by decide +kernel) ⟨Nat.le_of_ble_eq_true rfl, Nat.le_of_ble_eq_true rfl⟩) v1 rfl (Nat.le_of_ble_eq_true rfl) ⟨by dsimp only; omega, by dsimp only; omega⟩ dX11_byteAt_2 (fun r9 M9 hp9 => ?_)
  obtain ⟨rfl, rfl⟩ := hp9
  refine xr_getN C (Cn := RX10) (T := TX10) (N := 4) (by decide +kernel) (hH.2.2.2.2 i (by omega)).1 rfl 1 (by decide) (va_Nw.use rfl (C.2.2.1 ("OssuaryVault", 195, "OssuaryVault$Volume", "bytes", "LOssuaryVault$Bytes;", "OssuaryVault") (by decide +kernel))) (fun _ h => h) rfl dX11_byteAt_5 ?_
  refine xr_iload_n C dX11_byteAt_8 rfl ?_
  refine xr_callS2i C (c_byteIn l G _ _ _ _ M (hH.2.2.2.2 i (by omega)).2 q hq) (cwS 2 C.1.2.2.2.2 gX11_byteAt_X11_byteIn rfl rfl rfl (by decide +kernel) ⟨Nat.le_of_ble_eq_true rfl, Nat.le_of_ble_eq_true rfl⟩) (Nat.le_of_ble_eq_true rfl) ⟨by dsimp only; omega, by dsimp only; omega⟩ dX11_byteAt_9 (fun r1 M9 hp9 => ?_)
  obtain ⟨rfl, rfl⟩ := hp9
  exact xr_iret C hr hlk ⟨_, rfl, rfl, rfl⟩ (by omega) (by omega) dX11_byteAt_12
set_option maxHeartbeats 4000000 in
set_option maxRecDepth 100000 in
theorem c_isByte (l : Launch) (G : mq_G) (M : mq_M) (v : Nat) (hv : v < 256) : mq_T l yX11_isByte wsX11_isByte { frames := 0, cells := 0, slots := 0, locals := 0 } G [.int (zI (v : Int))] M (mq_ri M 1) 0 0 := by
  refine mq_Met.of (cc := cX11_isByte) (maxL := 1) (ret := (some .boolean)) (by decide) rfl (Nat.le_of_ble_eq_true rfl) rfl rfl ?_
  intro p_ e_ s_ m_ args_ below_ meth_ c_ z_ C hr hlk hname
  refine xr_iload_n C dX11_isByte_0 rfl ?_
  refine xr_if_lt C dX11_isByte_1 rfl (by first | omega | (dsimp only; omega)) (fun hq => absurd hq (by omega)) (fun _ => ?_)
  refine xr_iload_n C dX11_isByte_4 rfl ?_
  refine xr_sipush (n := 255) C dX11_isByte_5 (by decide +kernel) ?_
  refine xr_icmp_gt C dX11_isByte_8 rfl (by first | omega | (dsimp only; omega)) (by first | omega | (dsimp only; omega)) (fun hq => absurd hq (by omega)) (fun _ => ?_)
  refine xr_iconst (n := 1) C dX11_isByte_11 (by decide +kernel) ?_
  refine xr_goto C dX11_isByte_12 rfl ?_
  exact xr_zret C hr (by decide +kernel) hlk ⟨_, rfl, rfl, rfl⟩ (by omega) (by omega) dX11_isByte_16
set_option maxHeartbeats 4000000 in
set_option maxRecDepth 100000 in
theorem c_spoil (l : Launch) (G : mq_G) (La : Nat → Nat) (hI : mq_inj La) (sh : List Nat) (k : vtD) (h : Nat → Bool) (d : Nat → List Nat) (r : vtR) (M : mq_M) (hV : vtI G M La sh k h d r) (i : Nat) (hi : i < 16) (hh : h i = true) (q : Nat) (hq : q < (d i).length) (bb : Nat) (hb : bb < 256) : mq_T l yX11_spoil wsX11_spoil { frames := 3, cells := 0, slots := 0, locals := 65 } G [.ref (La 0), .int (zI (i : Int)), .int (zI (q : Int)), .int (zI (bb : Int))] M (mq_pi (fun _ M2 => vtI G M2 La sh k h (fnU d i ((d i).set q (mq_gd (d i) (q : Int) ^^^ bb))) r ∧ mq_FR La vtA M M2)) 0 0 := by
  refine mq_Met.of (cc := cX11_spoil) (maxL := 5) (ret := (some .int)) (by decide) rfl (Nat.le_of_ble_eq_true rfl) rfl rfl ?_
  intro p_ e_ s_ m_ args_ below_ meth_ c_ z_ C hr hlk hname
  obtain ⟨v1, v2, v3, v4, v5, v6, ⟨pv, vd, ld, mb, nu, ho, hP, hH⟩, v8, v9⟩ := id hV
  have hl := (hH.2.2.2.2 i (by omega)).2.2.2.1
  refine xr_aload_n C dX11_spoil_0 rfl ?_
  refine xr_iload_n C dX11_spoil_1 rfl ?_
  refine xr_callV1a C (c_volume l G La hI M v1 pv h d vd ld mb nu ho hP hH i (by omega) hh) (cwV 1 C.1.2.2.2.2 gX11_spoil_X11_volumeOnShelf rfl rfl rfl (by decide +kernel) ⟨Nat.le_of_ble_eq_true rfl, Nat.le_of_ble_eq_true rfl⟩) v1 rfl (Nat.le_of_ble_eq_true rfl) ⟨by dsimp only; omega, by dsimp only; omega⟩ dX11_spoil_2 (fun r9 M9 hp9 => ?_)
  obtain ⟨rfl, rfl⟩ := hp9
  refine xr_astore C dX11_spoil_5 (by decide) rfl ?_
  refine xr_iload_n C dX11_spoil_7 rfl ?_
  refine xr_if_lt C dX11_spoil_8 rfl (by first | omega | (dsimp only; omega)) (fun hq => absurd hq (by omega)) (fun _ => ?_)
  refine xr_iload_n C dX11_spoil_11 rfl ?_
  refine xr_aload C dX11_spoil_12 rfl ?_
  refine xr_callV0i C (c_vsize l G _ _ _ _ _ _ _ M (hH.2.2.2.2 i (by omega))) (cwV 0 C.1.2.2.2.2 gX11_spoil_X10_size rfl rfl rfl (by decide +kernel) ⟨Nat.le_of_ble_eq_true rfl, Nat.le_of_ble_eq_true rfl⟩) (hH.2.2.2.2 i (by omega)).1 rfl (Nat.le_of_ble_eq_true rfl) ⟨by dsimp only; omega, by dsimp only; omega⟩ dX11_spoil_14 (fun r1 M9 hp9 => ?_)
  obtain ⟨rfl, rfl⟩ := hp9
  rw [hh]
  change mq_X _ _ _ _ _ _ _ _ _ _ _ _ _ _ _ _ _ _ _ _ (.int (zI ((d i).length : Int)) :: _)
  refine xr_icmp_lt C dX11_spoil_17 rfl (by first | omega | (dsimp only; omega)) (by first | omega | (dsimp only; omega)) (fun _ => ?_) (fun hq => absurd hq (by omega))
  refine xr_iload_n C dX11_spoil_30 rfl ?_
  refine xr_callS1i C (c_isByte l G M bb hb) (cwS 1 C.1.2.2.2.2 gX11_spoil_X11_isByte rfl rfl rfl (by decide +kernel) ⟨Nat.le_of_ble_eq_true rfl, Nat.le_of_ble_eq_true rfl⟩) (Nat.le_of_ble_eq_true rfl) ⟨by dsimp only; omega, by dsimp only; omega⟩ dX11_spoil_31 (fun r2 M9 hp9 => ?_)
  obtain ⟨rfl, rfl⟩ := hp9
  refine xr_if_ne C dX11_spoil_34 rfl (by first | omega | (dsimp only; omega)) (fun _ => ?_) (fun hq => absurd hq (by decide))
  refine xr_aload C dX11_spoil_47 rfl ?_
  refine xr_iload_n C dX11_spoil_49 rfl ?_
  refine xr_iload_n C dX11_spoil_50 rfl ?_
  refine xr_callV2i C (c_mix l G _ _ _ _ _ _ _ M (hH.2.2.2.2 i (by omega)) (mq_vnd hI (hP.1 i (by omega))) q hq bb hb) (cwV 2 C.1.2.2.2.2 gX11_spoil_X10_mix rfl rfl rfl (by decide +kernel) ⟨Nat.le_of_ble_eq_true rfl, Nat.le_of_ble_eq_true rfl⟩) (hH.2.2.2.2 i (by omega)).1 rfl (Nat.le_of_ble_eq_true rfl) ⟨by dsimp only; omega, by dsimp only; omega⟩ dX11_spoil_51 (fun r2 M2 hp2 => ?_)
  obtain ⟨rfl, hV2, hF2⟩ := hp2
  have hpi := hP.1 i (by omega)
  have F9 : mq_FR La [104 + 3 * pv i, 105 + 3 * pv i, 106 + 3 * pv i] M M2 := hF2
  have hS9 : vtS G M2 La (fnU h i (h i)) (fnU d i _) := ⟨pv, _, ld, mb, nu, ho, hP.set i (Or.inl rfl), hH.set hI hP (by omega) F9 hV2⟩
  have hV9 := hV.shelf hI F9 (vtT_l hpi) hS9
  have F8 := F9.all (vtT_a hpi)
  rw [fnU_self] at hV9
  exact xr_iret C hr hlk ⟨_, rfl, hV9, F8⟩ (by omega) (by omega) dX11_spoil_54
set_option maxHeartbeats 4000000 in
set_option maxRecDepth 100000 in
theorem c_sign (l : Launch) (G : mq_G) (La : Nat → Nat) (hI : mq_inj La) (sh : List Nat) (k : vtD) (h : Nat → Bool) (d : Nat → List Nat) (r : vtR) (M : mq_M) (hV : vtI G M La sh k h d r) (i : Nat) (hi : i < 16) (hh : h i = true) (hq : 10 ≤ (d i).length) : mq_T l yX11_sign wsX11_sign { frames := 4, cells := 0, slots := 0, locals := 89 } G [.ref (La 0), .int (zI (i : Int))] M (mq_pi (fun _ M2 => vtI G M2 La sh k h (fnU d i (((d i).set 8 (vChk (d i) / 256)).set 9 (vChk (d i) % 256))) r ∧ mq_FR La vtA M M2)) 0 0 := by
  refine mq_Met.of (cc := cX11_sign) (maxL := 3) (ret := (some .int)) (by decide) rfl (Nat.le_of_ble_eq_true rfl) rfl rfl ?_
  intro p_ e_ s_ m_ args_ below_ meth_ c_ z_ C hr hlk hname
  obtain ⟨v1, v2, v3, v4, v5, v6, ⟨pv, vd, ld, mb, nu, ho, hP, hH⟩, v8, v9⟩ := id hV
  have hl := (hH.2.2.2.2 i (by omega)).2.2.2.1
  refine xr_aload_n C dX11_sign_0 rfl ?_
  refine xr_iload_n C dX11_sign_1 rfl ?_
  refine xr_callV1a C (c_volume l G La hI M v1 pv h d vd ld mb nu ho hP hH i (by omega) hh) (cwV 1 C.1.2.2.2.2 gX11_sign_X11_volumeOnShelf rfl rfl rfl (by decide +kernel) ⟨Nat.le_of_ble_eq_true rfl, Nat.le_of_ble_eq_true rfl⟩) v1 rfl (Nat.le_of_ble_eq_true rfl) ⟨by dsimp only; omega, by dsimp only; omega⟩ dX11_sign_2 (fun r9 M9 hp9 => ?_)
  obtain ⟨rfl, rfl⟩ := hp9
  refine xr_astore_n C dX11_sign_5 (by decide) rfl ?_
  refine xr_aload_n C dX11_sign_6 rfl ?_
  refine xr_callV0i C (c_vsize l G _ _ _ _ _ _ _ M (hH.2.2.2.2 i (by omega))) (cwV 0 C.1.2.2.2.2 gX11_sign_X10_size rfl rfl rfl (by decide +kernel) ⟨Nat.le_of_ble_eq_true rfl, Nat.le_of_ble_eq_true rfl⟩) (hH.2.2.2.2 i (by omega)).1 rfl (Nat.le_of_ble_eq_true rfl) ⟨by dsimp only; omega, by dsimp only; omega⟩ dX11_sign_7 (fun r1 M9 hp9 => ?_)
  obtain ⟨rfl, rfl⟩ := hp9
  rw [hh]
  change mq_X _ _ _ _ _ _ _ _ _ _ _ _ _ _ _ _ _ _ _ _ (.int (zI ((d i).length : Int)) :: _)
  refine xr_bipush (n := 10) C dX11_sign_10 (by decide +kernel) ?_
  refine xr_icmp_ge C dX11_sign_12 rfl (by first | omega | (dsimp only; omega)) (by first | omega | (dsimp only; omega)) (fun _ => ?_) (fun hq => absurd hq (by omega))
  refine xr_aload_n C dX11_sign_25 rfl ?_
  refine xr_callV0i C (c_seal l G _ _ _ _ _ _ _ M (hH.2.2.2.2 i (by omega)) _ v2 (mq_vnd hI (hP.1 i (by omega))) hq) (cwV 0 C.1.2.2.2.2 gX11_sign_X10_seal rfl rfl rfl (by decide +kernel) ⟨Nat.le_of_ble_eq_true rfl, Nat.le_of_ble_eq_true rfl⟩) (hH.2.2.2.2 i (by omega)).1 rfl (Nat.le_of_ble_eq_true rfl) ⟨by dsimp only; omega, by dsimp only; omega⟩ dX11_sign_26 (fun r2 M2 hp2 => ?_)
  obtain ⟨rfl, hV2, hF2⟩ := hp2
  have hpi := hP.1 i (by omega)
  have F9 : mq_FR La [104 + 3 * pv i, 105 + 3 * pv i, 106 + 3 * pv i] M M2 := hF2
  have hS9 : vtS G M2 La (fnU h i (h i)) (fnU d i _) := ⟨pv, _, ld, mb, nu, ho, hP.set i (Or.inl rfl), hH.set hI hP (by omega) F9 hV2⟩
  have hV9 := hV.shelf hI F9 (vtT_l hpi) hS9
  have F8 := F9.all (vtT_a hpi)
  rw [fnU_self] at hV9
  exact xr_iret C hr hlk ⟨_, rfl, hV9, F8⟩ (by omega) (by omega) dX11_sign_29
set_option maxHeartbeats 4000000 in
set_option maxRecDepth 100000 in
theorem c_cut (l : Launch) (G : mq_G) (La : Nat → Nat) (hI : mq_inj La) (sh : List Nat) (k : vtD) (h : Nat → Bool) (d : Nat → List Nat) (r : vtR) (M : mq_M) (hV : vtI G M La sh k h d r) (i : Nat) (hi : i < 16) (hh : h i = true) (q : Nat) (hq : q ≤ (d i).length) : mq_T l yX11_cut wsX11_cut { frames := 3, cells := 0, slots := 0, locals := 65 } G [.ref (La 0), .int (zI (i : Int)), .int (zI (q : Int))] M (mq_pi (fun _ M2 => vtI G M2 La sh k h (fnU d i ((d i).take q)) r ∧ mq_FR La vtA M M2)) 0 0 := by
  refine mq_Met.of (cc := cX11_cut) (maxL := 5) (ret := (some .int)) (by decide) rfl (Nat.le_of_ble_eq_true rfl) rfl rfl ?_
  intro p_ e_ s_ m_ args_ below_ meth_ c_ z_ C hr hlk hname
  obtain ⟨v1, v2, v3, v4, v5, v6, ⟨pv, vd, ld, mb, nu, ho, hP, hH⟩, v8, v9⟩ := id hV
  have hl := (hH.2.2.2.2 i (by omega)).2.2.2.1
  refine xr_aload_n C dX11_cut_0 rfl ?_
  refine xr_iload_n C dX11_cut_1 rfl ?_
  refine xr_callV1a C (c_volume l G La hI M v1 pv h d vd ld mb nu ho hP hH i (by omega) hh) (cwV 1 C.1.2.2.2.2 gX11_cut_X11_volumeOnShelf rfl rfl rfl (by decide +kernel) ⟨Nat.le_of_ble_eq_true rfl, Nat.le_of_ble_eq_true rfl⟩) v1 rfl (Nat.le_of_ble_eq_true rfl) ⟨by dsimp only; omega, by dsimp only; omega⟩ dX11_cut_2 (fun r9 M9 hp9 => ?_)
  obtain ⟨rfl, rfl⟩ := hp9
  refine xr_astore_n C dX11_cut_5 (by decide) rfl ?_
  refine xr_aload_n C dX11_cut_6 rfl ?_
  refine xr_callV0i C (c_vsize l G _ _ _ _ _ _ _ M (hH.2.2.2.2 i (by omega))) (cwV 0 C.1.2.2.2.2 gX11_cut_X10_size rfl rfl rfl (by decide +kernel) ⟨Nat.le_of_ble_eq_true rfl, Nat.le_of_ble_eq_true rfl⟩) (hH.2.2.2.2 i (by omega)).1 rfl (Nat.le_of_ble_eq_true rfl) ⟨by dsimp only; omega, by dsimp only; omega⟩ dX11_cut_7 (fun r1 M9 hp9 => ?_)
  obtain ⟨rfl, rfl⟩ := hp9
  rw [hh]
  change mq_X _ _ _ _ _ _ _ _ _ _ _ _ _ _ _ _ _ _ _ _ (.int (zI ((d i).length : Int)) :: _)
  refine xr_istore C dX11_cut_10 (by decide) rfl ?_
  refine xr_iload_n C dX11_cut_12 rfl ?_
  refine xr_if_lt C dX11_cut_13 rfl (by first | omega | (dsimp only; omega)) (fun hq => absurd hq (by omega)) (fun _ => ?_)
  refine xr_iload_n C dX11_cut_16 rfl ?_
  refine xr_iload C dX11_cut_17 rfl ?_
  refine xr_icmp_le C dX11_cut_19 rfl (by first | omega | (dsimp only; omega)) (by first | omega | (dsimp only; omega)) (fun _ => ?_) (fun hq => absurd hq (by omega))
  refine xr_aload_n C dX11_cut_32 rfl ?_
  refine xr_iload_n C dX11_cut_33 rfl ?_
  refine xr_callV1v C (c_vshorten l G _ _ _ _ _ _ _ M (hH.2.2.2.2 i (by omega)) (mq_vnd hI (hP.1 i (by omega))) q hq) (cwV 1 C.1.2.2.2.2 gX11_cut_X10_shorten rfl rfl rfl (by decide +kernel) ⟨Nat.le_of_ble_eq_true rfl, Nat.le_of_ble_eq_true rfl⟩) (hH.2.2.2.2 i (by omega)).1 rfl (Nat.le_of_ble_eq_true rfl) ⟨by dsimp only; omega, by dsimp only; omega⟩ dX11_cut_34 (fun M2 hp2 => ?_)
  obtain ⟨hV2, hF2⟩ := hp2
  have hpi := hP.1 i (by omega)
  have F9 : mq_FR La [104 + 3 * pv i, 105 + 3 * pv i, 106 + 3 * pv i] M M2 := hF2
  have hS9 : vtS G M2 La (fnU h i (h i)) (fnU d i _) := ⟨pv, _, ld, mb, nu, ho, hP.set i (Or.inl rfl), hH.set hI hP (by omega) F9 hV2⟩
  have hV9 := hV.shelf hI F9 (vtT_l hpi) hS9
  have F8 := F9.all (vtT_a hpi)
  rw [fnU_self] at hV9
  refine xr_iload C dX11_cut_37 rfl ?_
  exact xr_iret C hr hlk ⟨_, rfl, hV9, F8⟩ (by omega) (by omega) dX11_cut_39
set_option maxHeartbeats 4000000 in
set_option maxRecDepth 100000 in
theorem c_lose (l : Launch) (G : mq_G) (La : Nat → Nat) (hI : mq_inj La) (sh : List Nat) (k : vtD) (h : Nat → Bool) (d : Nat → List Nat) (r : vtR) (M : mq_M) (hV : vtI G M La sh k h d r) (i : Nat) (hi : i < 16) : mq_T l yX11_lose wsX11_lose { frames := 2, cells := 0, slots := 0, locals := 43 } G [.ref (La 0), .int (zI (i : Int))] M (mq_pi (fun r9 M2 => r9 = mq_b (h i) ∧ vtI G M2 La sh k (fnU h i false) (fnU d i []) r ∧ mq_FR La vtA M M2)) 0 0 := by
  refine mq_Met.of (cc := cX11_lose) (maxL := 4) (ret := (some .boolean)) (by decide) rfl (Nat.le_of_ble_eq_true rfl) rfl rfl ?_
  intro p_ e_ s_ m_ args_ below_ meth_ c_ z_ C hr hlk hname
  obtain ⟨v1, v2, v3, v4, v5, v6, ⟨pv, vd, ld, mb, nu, ho, hP, hH⟩, v8, v9⟩ := id hV
  refine xr_aload_n C dX11_lose_0 rfl ?_
  refine xr_iload_n C dX11_lose_1 rfl ?_
  refine xr_callV1a C (c_place l G La hI M v1 pv h d vd ld mb nu ho hP hH i (by omega)) (cwV 1 C.1.2.2.2.2 gX11_lose_X11_placeOnShelf rfl rfl rfl (by decide +kernel) ⟨Nat.le_of_ble_eq_true rfl, Nat.le_of_ble_eq_true rfl⟩) v1 rfl (Nat.le_of_ble_eq_true rfl) ⟨by dsimp only; omega, by dsimp only; omega⟩ dX11_lose_2 (fun r9 M9 hp9 => ?_)
  obtain ⟨rfl, rfl⟩ := hp9
  refine xr_astore_n C dX11_lose_5 (by decide) rfl ?_
  refine xr_aload_n C dX11_lose_6 rfl ?_
  refine xr_callV0i C (c_isHere l G _ _ _ _ _ _ _ M (hH.2.2.2.2 i (by omega))) (cwV 0 C.1.2.2.2.2 gX11_lose_X10_isHere rfl rfl rfl (by decide +kernel) ⟨Nat.le_of_ble_eq_true rfl, Nat.le_of_ble_eq_true rfl⟩) (hH.2.2.2.2 i (by omega)).1 rfl (Nat.le_of_ble_eq_true rfl) ⟨by dsimp only; omega, by dsimp only; omega⟩ dX11_lose_7 (fun r1 M9 hp9 => ?_)
  obtain ⟨rfl, rfl⟩ := hp9
  refine xr_istore_n C dX11_lose_10 (by decide) rfl ?_
  refine xr_aload_n C dX11_lose_11 rfl ?_
  refine xr_callV0v C (c_vanish l G _ _ _ _ _ _ _ M (hH.2.2.2.2 i (by omega)) (mq_vnd hI (hP.1 i (by omega)))) (cwV 0 C.1.2.2.2.2 gX11_lose_X10_vanish rfl rfl rfl (by decide +kernel) ⟨Nat.le_of_ble_eq_true rfl, Nat.le_of_ble_eq_true rfl⟩) (hH.2.2.2.2 i (by omega)).1 rfl (Nat.le_of_ble_eq_true rfl) ⟨by dsimp only; omega, by dsimp only; omega⟩ dX11_lose_12 (fun M2 hp2 => ?_)
  obtain ⟨hV2, hF2⟩ := hp2
  have hpi := hP.1 i (by omega)
  have F9 : mq_FR La [104 + 3 * pv i, 105 + 3 * pv i, 106 + 3 * pv i] M M2 := hF2
  have hS9 : vtS G M2 La (fnU h i _) (fnU d i _) := ⟨pv, _, ld, mb, nu, ho, hP.set i (Or.inl rfl), hH.set hI hP (by omega) F9 hV2⟩
  have hV9 := hV.shelf hI F9 (vtT_l hpi) hS9
  have F8 := F9.all (vtT_a hpi)
  refine xr_iload_n C dX11_lose_15 rfl ?_
  cases h i
  · exact xr_zret C hr (by decide +kernel) hlk ⟨_, rfl, rfl, hV9, F8⟩ (by omega) (by omega) dX11_lose_16
  · exact xr_zret C hr (by decide +kernel) hlk ⟨_, rfl, rfl, hV9, F8⟩ (by omega) (by omega) dX11_lose_16
set_option maxHeartbeats 4000000 in
set_option maxRecDepth 100000 in
theorem c_isSound (l : Launch) (G : mq_G) (La : Nat → Nat) (hI : mq_inj La) (sh : List Nat) (k : vtD) (h : Nat → Bool) (d : Nat → List Nat) (r : vtR) (M : mq_M) (hV : vtI G M La sh k h d r) (i : Nat) (hi : i < 16) : mq_T l yX11_isSound wsX11_isSound { frames := 5, cells := 0, slots := 0, locals := 102 } G [.ref (La 0), .int (zI (i : Int))] M (mq_pi (fun r9 M2 => r9 = mq_b (vWhl (h i) (d i)) ∧ vtI G M2 La sh k h d r ∧ mq_FR La vtA M M2)) 0 0 := by
  refine mq_Met.of (cc := cX11_isSound) (maxL := 2) (ret := (some .boolean)) (by decide) rfl (Nat.le_of_ble_eq_true rfl) rfl rfl ?_
  intro p_ e_ s_ m_ args_ below_ meth_ c_ z_ C hr hlk hname
  obtain ⟨v1, v2, v3, v4, v5, v6, ⟨pv, vd, ld, mb, nu, ho, hP, hH⟩, v8, v9⟩ := id hV
  refine xr_aload_n C dX11_isSound_0 rfl ?_
  refine xr_iload_n C dX11_isSound_1 rfl ?_
  refine xr_callV1a C (c_place l G La hI M v1 pv h d vd ld mb nu ho hP hH i (by omega)) (cwV 1 C.1.2.2.2.2 gX11_isSound_X11_placeOnShelf rfl rfl rfl (by decide +kernel) ⟨Nat.le_of_ble_eq_true rfl, Nat.le_of_ble_eq_true rfl⟩) v1 rfl (Nat.le_of_ble_eq_true rfl) ⟨by dsimp only; omega, by dsimp only; omega⟩ dX11_isSound_2 (fun r9 M9 hp9 => ?_)
  obtain ⟨rfl, rfl⟩ := hp9
  refine xr_callV0i C (c_isWhole l G _ _ _ _ _ _ _ M (hH.2.2.2.2 i (by omega)) _ v2 (mq_vnd hI (hP.1 i (by omega))) (hP.2.2 i (by omega)) (hP.2.2 i (by omega)).rng) (cwV 0 C.1.2.2.2.2 gX11_isSound_X10_isWhole rfl rfl rfl (by decide +kernel) ⟨Nat.le_of_ble_eq_true rfl, Nat.le_of_ble_eq_true rfl⟩) (hH.2.2.2.2 i (by omega)).1 rfl (Nat.le_of_ble_eq_true rfl) ⟨by dsimp only; omega, by dsimp only; omega⟩ dX11_isSound_5 (fun r2 M2 hp2 => ?_)
  obtain ⟨rfl, ⟨vd2, hV2, hvd⟩, hF2⟩ := hp2
  have hpi := hP.1 i (by omega)
  have F9 : mq_FR La [104 + 3 * pv i, 105 + 3 * pv i, 106 + 3 * pv i] M M2 := hF2.mono (by simp)
  have hS9 : vtS G M2 La (fnU h i (h i)) (fnU d i (d i)) := ⟨pv, _, ld, mb, nu, ho, hP.set i (Or.inr hvd), hH.set hI hP (by omega) F9 hV2⟩
  have hV9 := hV.shelf hI F9 (vtT_l hpi) hS9
  have F8 := F9.all (vtT_a hpi)
  rw [fnU_self, fnU_self] at hV9
  cases vWhl (h i) (d i)
  · exact xr_zret C hr (by decide +kernel) hlk ⟨_, rfl, rfl, hV9, F8⟩ (by omega) (by omega) dX11_isSound_8
  · exact xr_zret C hr (by decide +kernel) hlk ⟨_, rfl, rfl, hV9, F8⟩ (by omega) (by omega) dX11_isSound_8
