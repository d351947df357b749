set_option maxHeartbeats 4000000 in
set_option maxRecDepth 100000 in
theorem c_leader (l : Launch) (G : mq_G) (La : Nat → Nat) (hI : mq_inj La) (sh : List Nat) (k : vtD) (h : Nat → Bool) (d : Nat → List Nat) (r : vtR) (M : mq_M) (hV : vtI G M La sh k h d r) : mq_T l yX11_leader wsX11_leader { frames := 6, cells := 0, slots := 0, locals := 128 } G [.ref (La 0)] M (mq_pi (fun r9 M2 => r9 = (svS h d 16).1 ∧ vtI G M2 La sh k h d r ∧ mq_FR La vtA M M2)) 0 0 := by
  refine mq_Met.of (cc := cX11_leader) (maxL := 1) (ret := (some .int)) (by decide) rfl (Nat.le_of_ble_eq_true rfl) rfl rfl ?_
  intro p_ e_ s_ m_ args_ below_ meth_ c_ z_ C hr hlk hname
  obtain ⟨v1, v2, v3, v4, v5, v6, ⟨pv, vd, ld, mb, nu, ho, hP, hH⟩, v8, v9⟩ := id hV
  refine xr_aload_n C dX11_leader_0 rfl ?_
  refine xr_get C (Cn := RX11) (T := TX11) (N := 5) (by decide +kernel) v1 rfl 2 (by decide) (C.1.2.2.2.2 (.fieldLink RX11 33 "OssuaryVault" "shelf" "LOssuaryVault$Shelf;") (by decide +kernel)) (fun _ h => h) rfl dX11_leader_1 ?_
  refine xr_callV0v C (c_survey l G La hI pv h d vd ld mb nu ho M hP hH v2) (cwV 0 C.1.2.2.2.2 gX11_leader_X9_survey rfl rfl rfl (by decide +kernel) ⟨Nat.le_of_ble_eq_true rfl, Nat.le_of_ble_eq_true rfl⟩) hH.1 rfl (Nat.le_of_ble_eq_true rfl) ⟨by dsimp only; omega, by dsimp only; omega⟩ dX11_leader_4 (fun M2 hp2 => ?_)
  obtain ⟨⟨vd2, hP2, hH2⟩, hF2⟩ := hp2
  have hV9 := hV.shelf hI hF2 (fun q hq => mq_TVm.mp hq) ⟨pv, vd2, _, _, _, _, hP2, hH2⟩
  have F8 := hF2.all mq_TVl
  have v1b := v1.fr hI hF2 mq_TVl (by decide)
  have hrg := svS_rng h d 16 (by decide)
  unfold svR at hrg
  refine xr_aload_n C dX11_leader_7 rfl ?_
  refine xr_get C (Cn := RX11) (T := TX11) (N := 5) (by decide +kernel) v1b rfl 2 (by decide) (C.1.2.2.2.2 (.fieldLink RX11 33 "OssuaryVault" "shelf" "LOssuaryVault$Shelf;") (by decide +kernel)) (fun _ h => h) rfl dX11_leader_8 ?_
  refine xr_getN C (Cn := RX9) (T := TX9) (N := 7) (by decide +kernel) hH2.1 rfl 5 (by decide) (va_Nw.use rfl (C.2.2.1 ("OssuaryVault", 233, "OssuaryVault$Shelf", "leaderPlace", "I", "OssuaryVault") (by decide +kernel))) (fun _ h => h) rfl dX11_leader_11 ?_
  exact xr_iret C hr hlk ⟨_, rfl, rfl, hV9, F8⟩ (by omega) (by omega) dX11_leader_14
set_option maxHeartbeats 4000000 in
set_option maxRecDepth 100000 in
theorem c_present (l : Launch) (G : mq_G) (La : Nat → Nat) (hI : mq_inj La) (sh : List Nat) (k : vtD) (h : Nat → Bool) (d : Nat → List Nat) (r : vtR) (M : mq_M) (hV : vtI G M La sh k h d r) : mq_T l yX11_present wsX11_present { frames := 6, cells := 0, slots := 0, locals := 128 } G [.ref (La 0)] M (mq_pi (fun r9 M2 => r9 = (svS h d 16).2.1 ∧ vtI G M2 La sh k h d r ∧ mq_FR La vtA M M2)) 0 0 := by
  refine mq_Met.of (cc := cX11_present) (maxL := 1) (ret := (some .int)) (by decide) rfl (Nat.le_of_ble_eq_true rfl) rfl rfl ?_
  intro p_ e_ s_ m_ args_ below_ meth_ c_ z_ C hr hlk hname
  obtain ⟨v1, v2, v3, v4, v5, v6, ⟨pv, vd, ld, mb, nu, ho, hP, hH⟩, v8, v9⟩ := id hV
  refine xr_aload_n C dX11_present_0 rfl ?_
  refine xr_get C (Cn := RX11) (T := TX11) (N := 5) (by decide +kernel) v1 rfl 2 (by decide) (C.1.2.2.2.2 (.fieldLink RX11 33 "OssuaryVault" "shelf" "LOssuaryVault$Shelf;") (by decide +kernel)) (fun _ h => h) rfl dX11_present_1 ?_
  refine xr_callV0v C (c_survey l G La hI pv h d vd ld mb nu ho M hP hH v2) (cwV 0 C.1.2.2.2.2 gX11_present_X9_survey rfl rfl rfl (by decide +kernel) ⟨Nat.le_of_ble_eq_true rfl, Nat.le_of_ble_eq_true rfl⟩) hH.1 rfl (Nat.le_of_ble_eq_true rfl) ⟨by dsimp only; omega, by dsimp only; omega⟩ dX11_present_4 (fun M2 hp2 => ?_)
  obtain ⟨⟨vd2, hP2, hH2⟩, hF2⟩ := hp2
  have hV9 := hV.shelf hI hF2 (fun q hq => mq_TVm.mp hq) ⟨pv, vd2, _, _, _, _, hP2, hH2⟩
  have F8 := hF2.all mq_TVl
  have v1b := v1.fr hI hF2 mq_TVl (by decide)
  have hrg := svS_rng h d 16 (by decide)
  unfold svR at hrg
  refine xr_aload_n C dX11_present_7 rfl ?_
  refine xr_get C (Cn := RX11) (T := TX11) (N := 5) (by decide +kernel) v1b rfl 2 (by decide) (C.1.2.2.2.2 (.fieldLink RX11 33 "OssuaryVault" "shelf" "LOssuaryVault$Shelf;") (by decide +kernel)) (fun _ h => h) rfl dX11_present_8 ?_
  refine xr_getN C (Cn := RX9) (T := TX9) (N := 7) (by decide +kernel) hH2.1 rfl 6 (by decide) (va_Nw.use rfl (C.2.2.1 ("OssuaryVault", 236, "OssuaryVault$Shelf", "members", "I", "OssuaryVault") (by decide +kernel))) (fun _ h => h) rfl dX11_present_11 ?_
  exact xr_iret C hr hlk ⟨_, rfl, rfl, hV9, F8⟩ (by omega) (by omega) dX11_present_14
set_option maxHeartbeats 4000000 in
set_option maxRecDepth 100000 in
theorem c_numberOf (l : Launch) (G : mq_G) (La : Nat → Nat) (hI : mq_inj La) (sh : List Nat) (k : vtD) (h : Nat → Bool) (d : Nat → List Nat) (r : vtR) (M : mq_M) (hV : vtI G M La sh k h d r) (i : Nat) (hi : i < 16) : mq_T l yX11_numberOf wsX11_numberOf { frames := 6, cells := 0, slots := 0, locals := 128 } G [.ref (La 0), .int (zI (i : Int))] M (mq_pi (fun r9 M2 => r9 = (svS h d 16).2.2.1 i ∧ vtI G M2 La sh k h d r ∧ mq_FR La vtA M M2)) 0 0 := by
  refine mq_Met.of (cc := cX11_numberOf) (maxL := 2) (ret := (some .int)) (by decide) rfl (Nat.le_of_ble_eq_true rfl) rfl rfl ?_
  intro p_ e_ s_ m_ args_ below_ meth_ c_ z_ C hr hlk hname
  obtain ⟨v1, v2, v3, v4, v5, v6, ⟨pv, vd, ld, mb, nu, ho, hP, hH⟩, v8, v9⟩ := id hV
  refine xr_aload_n C dX11_numberOf_0 rfl ?_
  refine xr_iload_n C dX11_numberOf_1 rfl ?_
  refine xr_callV1a C (c_place l G La hI M v1 pv h d vd ld mb nu ho hP hH i (by omega)) (cwV 1 C.1.2.2.2.2 gX11_numberOf_X11_placeOnShelf rfl rfl rfl (by decide +kernel) ⟨Nat.le_of_ble_eq_true rfl, Nat.le_of_ble_eq_true rfl⟩) v1 rfl (Nat.le_of_ble_eq_true rfl) ⟨by dsimp only; omega, by dsimp only; omega⟩ dX11_numberOf_2 (fun r9 M9 hp9 => ?_)
  obtain ⟨rfl, rfl⟩ := hp9
  refine xr_pop C dX11_numberOf_5 rfl ?_
  refine xr_aload_n C dX11_numberOf_6 rfl ?_
  refine xr_get C (Cn := RX11) (T := TX11) (N := 5) (by decide +kernel) v1 rfl 2 (by decide) (C.1.2.2.2.2 (.fieldLink RX11 33 "OssuaryVault" "shelf" "LOssuaryVault$Shelf;") (by decide +kernel)) (fun _ h => h) rfl dX11_numberOf_7 ?_
  refine xr_callV0v C (c_survey l G La hI pv h d vd ld mb nu ho M hP hH v2) (cwV 0 C.1.2.2.2.2 gX11_numberOf_X9_survey rfl rfl rfl (by decide +kernel) ⟨Nat.le_of_ble_eq_true rfl, Nat.le_of_ble_eq_true rfl⟩) hH.1 rfl (Nat.le_of_ble_eq_true rfl) ⟨by dsimp only; omega, by dsimp only; omega⟩ dX11_numberOf_10 (fun M2 hp2 => ?_)
  obtain ⟨⟨vd2, hP2, hH2⟩, hF2⟩ := hp2
  have hV9 := hV.shelf hI hF2 (fun q hq => mq_TVm.mp hq) ⟨pv, vd2, _, _, _, _, hP2, hH2⟩
  have F8 := hF2.all mq_TVl
  have v1b := v1.fr hI hF2 mq_TVl (by decide)
  have hrg := svS_rng h d 16 (by decide)
  unfold svR at hrg
  refine xr_aload_n C dX11_numberOf_13 rfl ?_
  refine xr_get C (Cn := RX11) (T := TX11) (N := 5) (by decide +kernel) v1b rfl 2 (by decide) (C.1.2.2.2.2 (.fieldLink RX11 33 "OssuaryVault" "shelf" "LOssuaryVault$Shelf;") (by decide +kernel)) (fun _ h => h) rfl dX11_numberOf_14 ?_
  refine xr_iload_n C dX11_numberOf_17 rfl ?_
  refine xr_callV1i C (c_memberNumber l G La hI pv h d vd2 _ _ _ _ M2 hP2 hH2 i hi) (cwV 1 C.1.2.2.2.2 gX11_numberOf_X9_memberNumber rfl rfl rfl (by decide +kernel) ⟨Nat.le_of_ble_eq_true rfl, Nat.le_of_ble_eq_true rfl⟩) hH2.1 rfl (Nat.le_of_ble_eq_true rfl) ⟨by dsimp only; omega, by dsimp only; omega⟩ dX11_numberOf_18 (fun r1 M9 hp9 => ?_)
  obtain ⟨rfl, rfl⟩ := hp9
  exact xr_iret C hr hlk ⟨_, rfl, rfl, hV9, F8⟩ (by omega) (by omega) dX11_numberOf_21
set_option maxHeartbeats 4000000 in
set_option maxRecDepth 100000 in
theorem c_spare (l : Launch) (G : mq_G) (La : Nat → Nat) (hI : mq_inj La) (sh : List Nat) (k : vtD) (h : Nat → Bool) (d : Nat → List Nat) (r : vtR) (M : mq_M) (hV : vtI G M La sh k h d r) : mq_T l yX11_spare wsX11_spare { frames := 6, cells := 0, slots := 0, locals := 128 } G [.ref (La 0)] M (mq_pi (fun r9 M2 => r9 = spF h d ∧ vtI G M2 La sh k h d r ∧ mq_FR La vtA M M2)) 0 0 := by
  refine mq_Met.of (cc := cX11_spare) (maxL := 1) (ret := (some .int)) (by decide) rfl (Nat.le_of_ble_eq_true rfl) rfl rfl ?_
  intro p_ e_ s_ m_ args_ below_ meth_ c_ z_ C hr hlk hname
  obtain ⟨v1, v2, v3, v4, v5, v6, ⟨pv, vd, ld, mb, nu, ho, hP, hH⟩, v8, v9⟩ := id hV
  refine xr_aload_n C dX11_spare_0 rfl ?_
  refine xr_get C (Cn := RX11) (T := TX11) (N := 5) (by decide +kernel) v1 rfl 2 (by decide) (C.1.2.2.2.2 (.fieldLink RX11 33 "OssuaryVault" "shelf" "LOssuaryVault$Shelf;") (by decide +kernel)) (fun _ h => h) rfl dX11_spare_1 ?_
  refine xr_callV0v C (c_survey l G La hI pv h d vd ld mb nu ho M hP hH v2) (cwV 0 C.1.2.2.2.2 gX11_spare_X9_survey rfl rfl rfl (by decide +kernel) ⟨Nat.le_of_ble_eq_true rfl, Nat.le_of_ble_eq_true rfl⟩) hH.1 rfl (Nat.le_of_ble_eq_true rfl) ⟨by dsimp only; omega, by dsimp only; omega⟩ dX11_spare_4 (fun M2 hp2 => ?_)
  obtain ⟨⟨vd2, hP2, hH2⟩, hF2⟩ := hp2
  have hV9 := hV.shelf hI hF2 (fun q hq => mq_TVm.mp hq) ⟨pv, vd2, _, _, _, _, hP2, hH2⟩
  have F8 := hF2.all mq_TVl
  have v1b := v1.fr hI hF2 mq_TVl (by decide)
  have hrg := svS_rng h d 16 (by decide)
  unfold svR at hrg
  by_cases hld : (svS h d 16).1 < 0
  · refine xr_aload_n C dX11_spare_7 rfl ?_
    refine xr_get C (Cn := RX11) (T := TX11) (N := 5) (by decide +kernel) v1b rfl 2 (by decide) (C.1.2.2.2.2 (.fieldLink RX11 33 "OssuaryVault" "shelf" "LOssuaryVault$Shelf;") (by decide +kernel)) (fun _ h => h) rfl dX11_spare_8 ?_
    refine xr_callV0i C (c_surplusN l G La hI pv h d vd2 _ _ _ _ M2 hP2 hH2 (by omega)) (cwV 0 C.1.2.2.2.2 gX11_spare_X9_surplus rfl rfl rfl (by decide +kernel) ⟨Nat.le_of_ble_eq_true rfl, Nat.le_of_ble_eq_true rfl⟩) hH2.1 rfl (Nat.le_of_ble_eq_true rfl) ⟨by dsimp only; omega, by dsimp only; omega⟩ dX11_spare_11 (fun r1 M9 hp9 => ?_)
    obtain ⟨rfl, rfl⟩ := hp9
    exact xr_iret C hr hlk ⟨_, rfl, by unfold spF; rw [if_pos hld], hV9, F8⟩ (by omega) (by omega) dX11_spare_14
  · refine xr_aload_n C dX11_spare_7 rfl ?_
    refine xr_get C (Cn := RX11) (T := TX11) (N := 5) (by decide +kernel) v1b rfl 2 (by decide) (C.1.2.2.2.2 (.fieldLink RX11 33 "OssuaryVault" "shelf" "LOssuaryVault$Shelf;") (by decide +kernel)) (fun _ h => h) rfl dX11_spare_8 ?_
    refine xr_callV0i C (c_surplus l G La hI pv h d vd2 _ _ _ _ M2 hP2 hH2 (svS h d 16).1.toNat (by omega) (by omega) (by omega)) (cwV 0 C.1.2.2.2.2 gX11_spare_X9_surplus rfl rfl rfl (by decide +kernel) ⟨Nat.le_of_ble_eq_true rfl, Nat.le_of_ble_eq_true rfl⟩) hH2.1 rfl (Nat.le_of_ble_eq_true rfl) ⟨by dsimp only; omega, by dsimp only; omega⟩ dX11_spare_11 (fun r2 M9 hp9 => ?_)
    obtain ⟨rfl, rfl⟩ := hp9
    exact xr_iret C hr hlk ⟨_, rfl, by unfold spF; rw [if_neg hld], hV9, F8⟩ (by omega) (by omega) dX11_spare_14
set_option maxHeartbeats 4000000 in
set_option maxRecDepth 100000 in
theorem c_exchange (l : Launch) (G : mq_G) (La : Nat → Nat) (hI : mq_inj La) (sh : List Nat) (k : vtD) (h : Nat → Bool) (d : Nat → List Nat) (r : vtR) (M : mq_M) (hV : vtI G M La sh k h d r) (i j : Nat) (hi : i < 16) (hj : j < 16) : mq_T l yX11_exchange wsX11_exchange { frames := 2, cells := 0, slots := 0, locals := 45 } G [.ref (La 0), .int (zI (i : Int)), .int (zI (j : Int))] M (mq_pi (fun r9 M2 => r9 = mq_b (h i) + mq_b (h j) ∧ vtI G M2 La sh k (swF h i j) (swF d i j) r ∧ mq_FR La vtA M M2)) 0 0 := by
  refine mq_Met.of (cc := cX11_exchange) (maxL := 5) (ret := (some .int)) (by decide) rfl (Nat.le_of_ble_eq_true rfl) rfl rfl ?_
  intro p_ e_ s_ m_ args_ below_ meth_ c_ z_ C hr hlk hname
  obtain ⟨v1, v2, v3, v4, v5, v6, ⟨pv, vd, ld, mb, nu, ho, hP, hH⟩, v8, v9⟩ := id hV
  refine xr_aload_n C dX11_exchange_0 rfl ?_
  refine xr_iload_n C dX11_exchange_1 rfl ?_
  refine xr_callV1a C (c_place l G La hI M v1 pv h d vd ld mb nu ho hP hH i (by omega)) (cwV 1 C.1.2.2.2.2 gX11_exchange_X11_placeOnShelf rfl rfl rfl (by decide +kernel) ⟨Nat.le_of_ble_eq_true rfl, Nat.le_of_ble_eq_true rfl⟩) v1 rfl (Nat.le_of_ble_eq_true rfl) ⟨by dsimp only; omega, by dsimp only; omega⟩ dX11_exchange_2 (fun r9 M9 hp9 => ?_)
  obtain ⟨rfl, rfl⟩ := hp9
  refine xr_astore_n C dX11_exchange_5 (by decide) rfl ?_
  refine xr_aload_n C dX11_exchange_6 rfl ?_
  refine xr_iload_n C dX11_exchange_7 rfl ?_
  refine xr_callV1a C (c_place l G La hI M v1 pv h d vd ld mb nu ho hP hH j (by omega)) (cwV 1 C.1.2.2.2.2 gX11_exchange_X11_placeOnShelf rfl rfl rfl (by decide +kernel) ⟨Nat.le_of_ble_eq_true rfl, Nat.le_of_ble_eq_true rfl⟩) v1 rfl (Nat.le_of_ble_eq_true rfl) ⟨by dsimp only; omega, by dsimp only; omega⟩ dX11_exchange_8 (fun r9 M9 hp9 => ?_)
  obtain ⟨rfl, rfl⟩ := hp9
  refine xr_astore C dX11_exchange_11 (by decide) rfl ?_
  refine xr_aload_n C dX11_exchange_13 rfl ?_
  refine xr_get C (Cn := RX11) (T := TX11) (N := 5) (by decide +kernel) v1 rfl 2 (by decide) (C.1.2.2.2.2 (.fieldLink RX11 33 "OssuaryVault" "shelf" "LOssuaryVault$Shelf;") (by decide +kernel)) (fun _ h => h) rfl dX11_exchange_14 ?_
  refine xr_iload_n C dX11_exchange_17 rfl ?_
  refine xr_iload_n C dX11_exchange_18 rfl ?_
  refine xr_callV2v C (c_swap l G La hI pv h d vd ld mb nu ho M hP hH i j hi hj) (cwV 2 C.1.2.2.2.2 gX11_exchange_X9_swap rfl rfl rfl (by decide +kernel) ⟨Nat.le_of_ble_eq_true rfl, Nat.le_of_ble_eq_true rfl⟩) hH.1 rfl (Nat.le_of_ble_eq_true rfl) ⟨by dsimp only; omega, by dsimp only; omega⟩ dX11_exchange_19 (fun M2 hp2 => ?_)
  obtain ⟨hH2, hF2⟩ := hp2
  have hT13 : ∀ q ∈ [13], q < 275 := by decide
  have hV9 := hV.shelf hI hF2 (by decide) ⟨_, _, _, _, _, _, hP.sw hi hj, hH2⟩
  have F8 := hF2.all hT13
  have wi : shV G M2 La (pv i) (h i) (d i) (vd i) := (hH.2.2.2.2 i (by omega)).fr hI hF2 (hP.1 i (by omega)) hT13 (by simp; omega) (by simp; omega) (by simp; omega)
  have wj : shV G M2 La (pv j) (h j) (d j) (vd j) := (hH.2.2.2.2 j (by omega)).fr hI hF2 (hP.1 j (by omega)) hT13 (by simp; omega) (by simp; omega) (by simp; omega)
  have bi := mq_b_rng (h i)
  have bj := mq_b_rng (h j)
  refine xr_aload_n C dX11_exchange_22 rfl ?_
  refine xr_callV0i C (c_isHere l G _ _ _ _ _ _ _ M2 wi) (cwV 0 C.1.2.2.2.2 gX11_exchange_X10_isHere rfl rfl rfl (by decide +kernel) ⟨Nat.le_of_ble_eq_true rfl, Nat.le_of_ble_eq_true rfl⟩) wi.1 rfl (Nat.le_of_ble_eq_true rfl) ⟨by dsimp only; omega, by dsimp only; omega⟩ dX11_exchange_23 (fun r1 M9 hp9 => ?_)
  obtain ⟨rfl, rfl⟩ := hp9
  refine xr_if_eq C dX11_exchange_26 rfl (by first | omega | (dsimp only; omega)) (fun hq2 => ?_) (fun hq2 => ?_)
  · refine xr_iconst (n := 0) C dX11_exchange_33 (by decide +kernel) ?_
    refine xr_aload C dX11_exchange_34 rfl ?_
    refine xr_callV0i C (c_isHere l G _ _ _ _ _ _ _ M2 wj) (cwV 0 C.1.2.2.2.2 gX11_exchange_X10_isHere rfl rfl rfl (by decide +kernel) ⟨Nat.le_of_ble_eq_true rfl, Nat.le_of_ble_eq_true rfl⟩) wj.1 rfl (Nat.le_of_ble_eq_true rfl) ⟨by dsimp only; omega, by dsimp only; omega⟩ dX11_exchange_36 (fun r3 M9 hp9 => ?_)
    obtain ⟨rfl, rfl⟩ := hp9
    refine xr_if_eq C dX11_exchange_39 rfl (by first | omega | (dsimp only; omega)) (fun hq4 => ?_) (fun hq4 => ?_)
    · refine xr_iconst (n := 0) C dX11_exchange_46 (by decide +kernel) ?_
      refine xr_iadd C dX11_exchange_47 ?_
      exact xr_iret C hr hlk ⟨_, rfl, by omega, hV9, F8⟩ (by omega) (by omega) dX11_exchange_48
    · refine xr_iconst (n := 1) C dX11_exchange_42 (by decide +kernel) ?_
      refine xr_goto C dX11_exchange_43 rfl ?_
      refine xr_iadd C dX11_exchange_47 ?_
      exact xr_iret C hr hlk ⟨_, rfl, by omega, hV9, F8⟩ (by omega) (by omega) dX11_exchange_48
  · refine xr_iconst (n := 1) C dX11_exchange_29 (by decide +kernel) ?_
    refine xr_goto C dX11_exchange_30 rfl ?_
    refine xr_aload C dX11_exchange_34 rfl ?_
    refine xr_callV0i C (c_isHere l G _ _ _ _ _ _ _ M2 wj) (cwV 0 C.1.2.2.2.2 gX11_exchange_X10_isHere rfl rfl rfl (by decide +kernel) ⟨Nat.le_of_ble_eq_true rfl, Nat.le_of_ble_eq_true rfl⟩) wj.1 rfl (Nat.le_of_ble_eq_true rfl) ⟨by dsimp only; omega, by dsimp only; omega⟩ dX11_exchange_36 (fun r5 M9 hp9 => ?_)
    obtain ⟨rfl, rfl⟩ := hp9
    refine xr_if_eq C dX11_exchange_39 rfl (by first | omega | (dsimp only; omega)) (fun hq6 => ?_) (fun hq6 => ?_)
    · refine xr_iconst (n := 0) C dX11_exchange_46 (by decide +kernel) ?_
      refine xr_iadd C dX11_exchange_47 ?_
      exact xr_iret C hr hlk ⟨_, rfl, by omega, hV9, F8⟩ (by omega) (by omega) dX11_exchange_48
    · refine xr_iconst (n := 1) C dX11_exchange_42 (by decide +kernel) ?_
      refine xr_goto C dX11_exchange_43 rfl ?_
      refine xr_iadd C dX11_exchange_47 ?_
      exact xr_iret C hr hlk ⟨_, rfl, by omega, hV9, F8⟩ (by omega) (by omega) dX11_exchange_48
set_option maxHeartbeats 4000000 in
set_option maxRecDepth 100000 in
theorem c_copy (l : Launch) (G : mq_G) (La : Nat → Nat) (hI : mq_inj La) (sh : List Nat) (k : vtD) (h : Nat → Bool) (d : Nat → List Nat) (r : vtR) (M : mq_M) (hV : vtI G M La sh k h d r) (i j : Nat) (hi : i < 16) (hj : j < 16) (hh : h i = true) : mq_T l yX11_copy wsX11_copy { frames := 4, cells := 0, slots := 0, locals := 87 } G [.ref (La 0), .int (zI (i : Int)), .int (zI (j : Int))] M (mq_pi (fun _ M2 => vtI G M2 La sh k (fnU h j (h i)) (fnU d j (d i)) r ∧ mq_FR La vtA M M2)) 0 0 := by
  refine mq_Met.of (cc := cX11_copy) (maxL := 4) (ret := (some .int)) (by decide) rfl (Nat.le_of_ble_eq_true rfl) rfl rfl ?_
  intro p_ e_ s_ m_ args_ below_ meth_ c_ z_ C hr hlk hname
  obtain ⟨v1, v2, v3, v4, v5, v6, ⟨pv, vd, ld, mb, nu, ho, hP, hH⟩, v8, v9⟩ := id hV
  refine xr_aload_n C dX11_copy_0 rfl ?_
  refine xr_iload_n C dX11_copy_1 rfl ?_
  refine xr_callV1a C (c_volume l G La hI M v1 pv h d vd ld mb nu ho hP hH i (by omega) hh) (cwV 1 C.1.2.2.2.2 gX11_copy_X11_volumeOnShelf rfl rfl rfl (by decide +kernel) ⟨Nat.le_of_ble_eq_true rfl, Nat.le_of_ble_eq_true rfl⟩) v1 rfl (Nat.le_of_ble_eq_true rfl) ⟨by dsimp only; omega, by dsimp only; omega⟩ dX11_copy_2 (fun r9 M9 hp9 => ?_)
  obtain ⟨rfl, rfl⟩ := hp9
  refine xr_astore_n C dX11_copy_5 (by decide) rfl ?_
  refine xr_aload_n C dX11_copy_6 rfl ?_
  refine xr_iload_n C dX11_copy_7 rfl ?_
  refine xr_callV1a C (c_place l G La hI M v1 pv h d vd ld mb nu ho hP hH j (by omega)) (cwV 1 C.1.2.2.2.2 gX11_copy_X11_placeOnShelf rfl rfl rfl (by decide +kernel) ⟨Nat.le_of_ble_eq_true rfl, Nat.le_of_ble_eq_true rfl⟩) v1 rfl (Nat.le_of_ble_eq_true rfl) ⟨by dsimp only; omega, by dsimp only; omega⟩ dX11_copy_8 (fun r9 M9 hp9 => ?_)
  obtain ⟨rfl, rfl⟩ := hp9
  refine xr_aload_n C dX11_copy_11 rfl ?_
  have hpi := hP.1 i (by omega)
  have hpj := hP.1 j (by omega)
  by_cases hij : j = i
  · subst hij
    refine xr_callV1v C (c_becomeS l G _ _ _ _ _ _ _ M (hH.2.2.2.2 j (by omega)) (mq_vnd hI (hP.1 j (by omega)))) (cwV 1 C.1.2.2.2.2 gX11_copy_X10_become rfl rfl rfl (by decide +kernel) ⟨Nat.le_of_ble_eq_true rfl, Nat.le_of_ble_eq_true rfl⟩) (hH.2.2.2.2 j (by omega)).1 rfl (Nat.le_of_ble_eq_true rfl) ⟨by dsimp only; omega, by dsimp only; omega⟩ dX11_copy_12 (fun M2 hp2 => ?_)
    obtain ⟨hV2, hF2⟩ := hp2
    have F9 : mq_FR La [104 + 3 * pv j, 105 + 3 * pv j, 106 + 3 * pv j] M M2 := hF2
    have hH9 := hH.set hI hP (by omega) F9 hV2
    have hV9 := hV.shelf hI F9 (vtT_l hpj) ⟨_, _, _, _, _, _, hP.set j (hP.2.2 j (by omega)), hH9⟩
    have F8 := F9.all (vtT_a hpj)
    have wi := hH9.2.2.2.2 j (by omega)
    refine xr_aload_n C dX11_copy_15 rfl ?_
    refine xr_callV0i C (c_vsize l G _ _ _ _ _ _ _ M2 wi) (cwV 0 C.1.2.2.2.2 gX11_copy_X10_size rfl rfl rfl (by decide +kernel) ⟨Nat.le_of_ble_eq_true rfl, Nat.le_of_ble_eq_true rfl⟩) wi.1 rfl (Nat.le_of_ble_eq_true rfl) ⟨by dsimp only; omega, by dsimp only; omega⟩ dX11_copy_16 (fun r1 M9 hp9 => ?_)
    obtain ⟨rfl, rfl⟩ := hp9
    exact xr_iret C hr hlk ⟨_, rfl, hV9, F8⟩ (by omega) (by omega) dX11_copy_19
  · refine xr_callV1v C (c_become l G _ _ _ _ _ _ _ M (hH.2.2.2.2 j (by omega)) _ _ _ _ _ _ (hH.2.2.2.2 i (by omega)) (vt_nd6 hI hpj hpi (fun hc => hij (hP.2.1 j i (by omega) (by omega) hc)))) (cwV 1 C.1.2.2.2.2 gX11_copy_X10_become rfl rfl rfl (by decide +kernel) ⟨Nat.le_of_ble_eq_true rfl, Nat.le_of_ble_eq_true rfl⟩) (hH.2.2.2.2 j (by omega)).1 rfl (Nat.le_of_ble_eq_true rfl) ⟨by dsimp only; omega, by dsimp only; omega⟩ dX11_copy_12 (fun M2 hp2 => ?_)
    obtain ⟨hV2, hF2⟩ := hp2
    have F9 : mq_FR La [104 + 3 * pv j, 105 + 3 * pv j, 106 + 3 * pv j] M M2 := hF2
    have hH9 := hH.set hI hP (by omega) F9 hV2
    have hV9 := hV.shelf hI F9 (vtT_l hpj) ⟨_, _, _, _, _, _, hP.set j (hP.2.2 i (by omega)), hH9⟩
    have F8 := F9.all (vtT_a hpj)
    have wi := hH9.2.2.2.2 i (by omega)
    refine xr_aload_n C dX11_copy_15 rfl ?_
    refine xr_callV0i C (c_vsize l G _ _ _ _ _ _ _ M2 wi) (cwV 0 C.1.2.2.2.2 gX11_copy_X10_size rfl rfl rfl (by decide +kernel) ⟨Nat.le_of_ble_eq_true rfl, Nat.le_of_ble_eq_true rfl⟩) wi.1 rfl (Nat.le_of_ble_eq_true rfl) ⟨by dsimp only; omega, by dsimp only; omega⟩ dX11_copy_16 (fun r2 M9 hp9 => ?_)
    obtain ⟨rfl, rfl⟩ := hp9
    exact xr_iret C hr hlk ⟨_, rfl, hV9, F8⟩ (by omega) (by omega) dX11_copy_19
