/-! ===== p1: the class on a new object: what throws ===== -/
def vk0 : vtD := (0, fun _ => 0, fun _ => [], fun _ => [], fun _ => 0)
def vr0 : vtR := (false, 0, 0, false, 0, [], fun _ => [], fun _ => 0, fun _ => 0, fun _ => 0, fun _ => false)
/-- a new vault -/
def vF (G : mq_G) (M : mq_M) (La : Nat → Nat) : Prop := vtI G M La [] vk0 (fun _ => false) (fun _ => []) vr0
set_option maxHeartbeats 4000000 in
set_option maxRecDepth 100000 in
theorem c_isByteG (l : Launch) (G : mq_G) (M : mq_M) (v : Int) (hvr : -2147483648 ≤ v ∧ v < 2147483648) : mq_T l yX11_isByte wsX11_isByte { frames := 0, cells := 0, slots := 0, locals := 0 } G [.int (zI v)] M (mq_ri M (if 0 ≤ v ∧ v ≤ 255 then 1 else 0)) 0 0 := by
  refine mq_Met.of (cc := cX11_isByte) (maxL := 1) (ret := (some .boolean)) (by decide) rfl (Nat.le_of_ble_eq_true rfl) rfl rfl ?_
  intro p_ e_ s_ m_ args_ below_ meth_ c_ z_ C hr hlk hname
  refine xr_iload_n C dX11_isByte_0 rfl ?_
  refine xr_if_lt C dX11_isByte_1 rfl (by first | omega | (dsimp only; omega)) (fun hq1 => ?_) (fun hq1 => ?_)
  · refine xr_iconst (n := 0) C dX11_isByte_15 (by decide +kernel) ?_
    exact xr_zret C hr (by decide +kernel) hlk ⟨_, rfl, by rw [if_neg (by omega)], rfl⟩ (by omega) (by omega) dX11_isByte_16
  · refine xr_iload_n C dX11_isByte_4 rfl ?_
    refine xr_sipush (n := 255) C dX11_isByte_5 (by decide +kernel) ?_
    refine xr_icmp_gt C dX11_isByte_8 rfl (by first | omega | (dsimp only; omega)) (by first | omega | (dsimp only; omega)) (fun hq2 => ?_) (fun hq2 => ?_)
    · refine xr_iconst (n := 0) C dX11_isByte_15 (by decide +kernel) ?_
      exact xr_zret C hr (by decide +kernel) hlk ⟨_, rfl, by rw [if_neg (by omega)], rfl⟩ (by omega) (by omega) dX11_isByte_16
    · refine xr_iconst (n := 1) C dX11_isByte_11 (by decide +kernel) ?_
      refine xr_goto C dX11_isByte_12 rfl ?_
      exact xr_zret C hr (by decide +kernel) hlk ⟨_, rfl, by rw [if_pos (by omega)], rfl⟩ (by omega) (by omega) dX11_isByte_16
set_option maxHeartbeats 4000000 in
set_option maxRecDepth 100000 in
theorem c_isWordG (l : Launch) (G : mq_G) (M : mq_M) (v : Int) (hvr : -2147483648 ≤ v ∧ v < 2147483648) : mq_T l yX11_isWord wsX11_isWord { frames := 0, cells := 0, slots := 0, locals := 0 } G [.int (zI v)] M (mq_ri M (if 0 ≤ v ∧ v ≤ 65535 then 1 else 0)) 0 0 := by
  refine mq_Met.of (cc := cX11_isWord) (maxL := 1) (ret := (some .boolean)) (by decide) rfl (Nat.le_of_ble_eq_true rfl) rfl rfl ?_
  intro p_ e_ s_ m_ args_ below_ meth_ c_ z_ C hr hlk hname
  refine xr_iload_n C dX11_isWord_0 rfl ?_
  refine xr_if_lt C dX11_isWord_1 rfl (by first | omega | (dsimp only; omega)) (fun hq1 => ?_) (fun hq1 => ?_)
  · refine xr_iconst (n := 0) C dX11_isWord_15 (by decide +kernel) ?_
    exact xr_zret C hr (by decide +kernel) hlk ⟨_, rfl, by rw [if_neg (by omega)], rfl⟩ (by omega) (by omega) dX11_isWord_16
  · refine xr_iload_n C dX11_isWord_4 rfl ?_
    refine xr_ldcw (k0 := 65535) C (C.1.2.2.2.2 (.constant RX11 344 (zI 65535)) (by decide +kernel)) dX11_isWord_5 ?_
    refine xr_icmp_gt C dX11_isWord_8 rfl (by first | omega | (dsimp only; omega)) (by first | omega | (dsimp only; omega)) (fun hq2 => ?_) (fun hq2 => ?_)
    · refine xr_iconst (n := 0) C dX11_isWord_15 (by decide +kernel) ?_
      exact xr_zret C hr (by decide +kernel) hlk ⟨_, rfl, by rw [if_neg (by omega)], rfl⟩ (by omega) (by omega) dX11_isWord_16
    · refine xr_iconst (n := 1) C dX11_isWord_11 (by decide +kernel) ?_
      refine xr_goto C dX11_isWord_12 rfl ?_
      exact xr_zret C hr (by decide +kernel) hlk ⟨_, rfl, by rw [if_pos (by omega)], rfl⟩ (by omega) (by omega) dX11_isWord_16
set_option maxHeartbeats 4000000 in
set_option maxRecDepth 100000 in
theorem c_shAtO (l : Launch) (G : mq_G) (La : Nat → Nat) (hI : mq_inj La) (pv : Nat → Nat) (h : Nat → Bool) (d : Nat → List Nat) (vd : Nat → Int) (ld mb : Int) (nu ho : Nat → Int) (M : mq_M) (hP : shP pv h d vd) (hS : shI G M La pv h d vd ld mb nu ho) (k : Int) (hkr : -2147483648 ≤ k ∧ k < 2147483648) (hk2 : k < 0 ∨ 16 ≤ k) : mq_T l yX9_at wsX9_at { frames := 0, cells := 0, slots := 0, locals := 0 } G [.ref (La 12), .int (zI k)] M (mq_pn (fun M2 => M = M2)) 0 0 := by
  refine mq_Met.of (cc := cX9_at) (maxL := 2) (ret := (some (.object "OssuaryVault$Volume"))) (by decide) rfl (Nat.le_of_ble_eq_true rfl) rfl rfl ?_
  intro p_ e_ s_ m_ args_ below_ meth_ c_ z_ C hr hlk hname
  obtain ⟨g1, ⟨fp, g2, g3⟩, g4⟩ := hS
  refine xr_iload_n C dX9_at_0 rfl ?_
  refine xr_if_lt C dX9_at_1 rfl (by first | omega | (dsimp only; omega)) (fun hq1 => ?_) (fun hq1 => ?_)
  · refine xr_null C dX9_at_22 ?_
    exact xr_aret (v := none) C hr (Or.inl ⟨_, rfl⟩) hlk ⟨rfl, rfl⟩ (by omega) (by omega) dX9_at_23
  · refine xr_iload_n C dX9_at_4 rfl ?_
    refine xr_aload_n C dX9_at_5 rfl ?_
    refine xr_get C (Cn := RX9) (T := TX9) (N := 7) (by decide +kernel) g1 rfl 1 (by decide) (C.1.2.2.2.2 (.fieldLink RX9 11 "OssuaryVault$Shelf" "places" "[LOssuaryVault$Volume;") (by decide +kernel)) (fun _ h => h) rfl dX9_at_6 ?_
    refine xr_alen C g2 mq_tV dX9_at_9 ?_
    refine xr_icmp_ge C dX9_at_10 rfl (by first | omega | (dsimp only; omega)) (by first | omega | (dsimp only; omega)) (fun _ => ?_) (fun hq => absurd hq (by dsimp only at *; omega))
    refine xr_null C dX9_at_22 ?_
    exact xr_aret (v := none) C hr (Or.inl ⟨_, rfl⟩) hlk ⟨rfl, rfl⟩ (by omega) (by omega) dX9_at_23
set_option maxHeartbeats 4000000 in
set_option maxRecDepth 100000 in
theorem c_dkAtO (l : Launch) (G : mq_G) (La : Nat → Nat) (hI : mq_inj La) (pf : Nat → Nat) (n : Nat) (ky : Nat → Nat) (c pk : Nat → List Nat) (ck : Nat → Nat) (M : mq_M) (hP : dkP pf n ky c ck) (hS : dkI G M La pf n ky c pk ck) (k : Int) (hkr : -2147483648 ≤ k ∧ k < 2147483648) (hk2 : k < 0 ∨ (n : Int) ≤ k) : mq_T l yX2_at wsX2_at { frames := 0, cells := 0, slots := 0, locals := 0 } G [.ref (La 6), .int (zI k)] M (mq_pn (fun M2 => M = M2)) 0 0 := by
  refine mq_Met.of (cc := cX2_at) (maxL := 2) (ret := (some (.object "OssuaryVault$DeskFile"))) (by decide) rfl (Nat.le_of_ble_eq_true rfl) rfl rfl ?_
  intro p_ e_ s_ m_ args_ below_ meth_ c_ z_ C hr hlk hname
  obtain ⟨g1, ⟨fp, g2, g3⟩, g4⟩ := hS
  have hn := hP.2.2.1
  refine xr_iload_n C dX2_at_0 rfl ?_
  refine xr_if_lt C dX2_at_1 rfl (by first | omega | (dsimp only; omega)) (fun hq1 => ?_) (fun hq1 => ?_)
  · refine xr_null C dX2_at_30 ?_
    exact xr_aret (v := none) C hr (Or.inl ⟨_, rfl⟩) hlk ⟨rfl, rfl⟩ (by omega) (by omega) dX2_at_31
  · refine xr_iload_n C dX2_at_4 rfl ?_
    refine xr_aload_n C dX2_at_5 rfl ?_
    refine xr_get C (Cn := RX2) (T := TX2) (N := 5) (by decide +kernel) g1 rfl 4 (by decide) (C.1.2.2.2.2 (.fieldLink RX2 34 "OssuaryVault$Desk" "count" "I") (by decide +kernel)) (fun _ h => h) rfl dX2_at_6 ?_
    refine xr_icmp_ge C dX2_at_9 rfl (by first | omega | (dsimp only; omega)) (by first | omega | (dsimp only; omega)) (fun _ => ?_) (fun hq => absurd hq (by omega))
    refine xr_null C dX2_at_30 ?_
    exact xr_aret (v := none) C hr (Or.inl ⟨_, rfl⟩) hlk ⟨rfl, rfl⟩ (by omega) (by omega) dX2_at_31
set_option maxHeartbeats 4000000 in
set_option maxRecDepth 100000 in
theorem x_place (l : Launch) (hlt : l.stackTraces = false) (G : mq_G) (sb sn : Nat) (sx : Nat → Int32) (hG : pG G sb sn sx) (La : Nat → Nat) (hI : mq_inj La) (M : mq_M) (hV : vF G M La) (i : Int) (hir : -2147483648 ≤ i ∧ i < 2147483648) (hbad : i < 0 ∨ 16 ≤ i) : mq_MetX l yX11_placeOnShelf wsX11_placeOnShelf { frames := 6, cells := 1, slots := 6, locals := 82 } G.1.1 (mq_tys G) [.ref (La 0), .int (zI i)] M (mq_pa (fun _ _ => False)) (fun E M2 => E = eIO ∧ M = M2) 1 6 := by
  refine mq_MetX.of (cc := cX11_placeOnShelf) (maxL := 3) (ret := (some (.object "OssuaryVault$Volume"))) (by decide) rfl (Nat.le_of_ble_eq_true rfl) rfl rfl ?_
  intro p_ e_ s_ m_ args_ below_ meth_ c_ z_ C hr hlk hex
  obtain ⟨v1, v2, v3, v4, v5, ⟨pf, hkP, hkI⟩, ⟨pv, vd, ld, mb, nu, ho, hP, hH⟩, v8, v9⟩ := id hV
  have hkP' : dkP pf 0 (fun _ => 0) (fun _ => []) (fun _ => 0) := hkP
  have hkI' : dkI G M La pf 0 (fun _ => 0) (fun _ => []) (fun _ => []) (fun _ => 0) := hkI
  have hrI : rdI G M La false 0 0 false 0 [] (fun _ => []) (fun _ => 0) (fun _ => 0) (fun _ => 0) (fun _ => false) := v9.1
  refine xr_aload_n C dX11_placeOnShelf_0 rfl ?_
  refine xr_get C (Cn := RX11) (T := TX11) (N := 5) (by decide +kernel) v1 rfl 2 (by decide) (C.1.2.2.2.2 (.fieldLink RX11 33 "OssuaryVault" "shelf" "LOssuaryVault$Shelf;") (by decide +kernel)) (fun _ h => h) rfl dX11_placeOnShelf_1 ?_
  refine xr_iload_n C dX11_placeOnShelf_4 rfl ?_
  refine xr_callV1n C (c_shAtO l G La hI pv (fun _ => false) (fun _ => []) vd ld mb nu ho M hP hH i hir hbad) (cwV 1 C.1.2.2.2.2 gX11_placeOnShelf_X9_at rfl rfl rfl (by decide +kernel) ⟨Nat.le_of_ble_eq_true rfl, Nat.le_of_ble_eq_true rfl⟩) hH.1 rfl (Nat.le_of_ble_eq_true rfl) ⟨by dsimp only; omega, by dsimp only; omega⟩ dX11_placeOnShelf_5 (fun M9 hp9 => ?_)
  subst hp9
  refine xr_nstore_n C dX11_placeOnShelf_8 (by decide) rfl ?_
  refine xr_nload_n C dX11_placeOnShelf_9 rfl ?_
  refine xr_ifnonnull_n C dX11_placeOnShelf_10 ?_
  exact pp_throwW hG C hlt hex (eIO, 79, 83) (by decide +kernel) (text := "no such place on the shelf") (is := 334) (by decide +kernel) (by decide +kernel) (by decide +kernel) (fun w hw => List.mem_cons_of_mem _ (List.mem_append_right _ hw)) dX11_placeOnShelf_13 dX11_placeOnShelf_16 dX11_placeOnShelf_17 dX11_placeOnShelf_20 dX11_placeOnShelf_23 (by dsimp only; omega) (Nat.le_of_ble_eq_true rfl) (by dsimp only; omega) (by dsimp only; omega) hlk ⟨rfl, rfl⟩ (by omega) (by omega)
set_option maxHeartbeats 4000000 in
set_option maxRecDepth 100000 in
theorem x_deskFile (l : Launch) (hlt : l.stackTraces = false) (G : mq_G) (sb sn : Nat) (sx : Nat → Int32) (hG : pG G sb sn sx) (La : Nat → Nat) (hI : mq_inj La) (M : mq_M) (hV : vF G M La) (i : Int) (hir : -2147483648 ≤ i ∧ i < 2147483648) : mq_MetX l yX11_deskFile wsX11_deskFile { frames := 6, cells := 1, slots := 6, locals := 82 } G.1.1 (mq_tys G) [.ref (La 0), .int (zI i)] M (mq_pa (fun _ _ => False)) (fun E M2 => E = eIO ∧ M = M2) 1 6 := by
  refine mq_MetX.of (cc := cX11_deskFile) (maxL := 3) (ret := (some (.object "OssuaryVault$DeskFile"))) (by decide) rfl (Nat.le_of_ble_eq_true rfl) rfl rfl ?_
  intro p_ e_ s_ m_ args_ below_ meth_ c_ z_ C hr hlk hex
  obtain ⟨v1, v2, v3, v4, v5, ⟨pf, hkP, hkI⟩, ⟨pv, vd, ld, mb, nu, ho, hP, hH⟩, v8, v9⟩ := id hV
  have hkP' : dkP pf 0 (fun _ => 0) (fun _ => []) (fun _ => 0) := hkP
  have hkI' : dkI G M La pf 0 (fun _ => 0) (fun _ => []) (fun _ => []) (fun _ => 0) := hkI
  have hrI : rdI G M La false 0 0 false 0 [] (fun _ => []) (fun _ => 0) (fun _ => 0) (fun _ => 0) (fun _ => false) := v9.1
  refine xr_aload_n C dX11_deskFile_0 rfl ?_
  refine xr_get C (Cn := RX11) (T := TX11) (N := 5) (by decide +kernel) v1 rfl 1 (by decide) (C.1.2.2.2.2 (.fieldLink RX11 24 "OssuaryVault" "desk" "LOssuaryVault$Desk;") (by decide +kernel)) (fun _ h => h) rfl dX11_deskFile_1 ?_
  refine xr_iload_n C dX11_deskFile_4 rfl ?_
  refine xr_callV1n C (c_dkAtO l G La hI pf 0 _ _ _ _ M hkP' hkI' i hir (by omega)) (cwV 1 C.1.2.2.2.2 gX11_deskFile_X2_at rfl rfl rfl (by decide +kernel) ⟨Nat.le_of_ble_eq_true rfl, Nat.le_of_ble_eq_true rfl⟩) hkI'.1 rfl (Nat.le_of_ble_eq_true rfl) ⟨by dsimp only; omega, by dsimp only; omega⟩ dX11_deskFile_5 (fun M9 hp9 => ?_)
  subst hp9
  refine xr_nstore_n C dX11_deskFile_8 (by decide) rfl ?_
  refine xr_nload_n C dX11_deskFile_9 rfl ?_
  refine xr_ifnonnull_n C dX11_deskFile_10 ?_
  exact pp_throwW hG C hlt hex (eIO, 79, 83) (by decide +kernel) (text := "no such file on the desk") (is := 332) (by decide +kernel) (by decide +kernel) (by decide +kernel) (fun w hw => List.mem_cons_of_mem _ (List.mem_append_right _ hw)) dX11_deskFile_13 dX11_deskFile_16 dX11_deskFile_17 dX11_deskFile_20 dX11_deskFile_23 (by dsimp only; omega) (Nat.le_of_ble_eq_true rfl) (by dsimp only; omega) (by dsimp only; omega) hlk ⟨rfl, rfl⟩ (by omega) (by omega)
set_option maxHeartbeats 4000000 in
set_option maxRecDepth 100000 in
theorem x_volume (l : Launch) (hlt : l.stackTraces = false) (G : mq_G) (sb sn : Nat) (sx : Nat → Int32) (hG : pG G sb sn sx) (La : Nat → Nat) (hI : mq_inj La) (M : mq_M) (hV : vF G M La) (i : Int) (hir : -2147483648 ≤ i ∧ i < 2147483648) : mq_MetX l yX11_volumeOnShelf wsX11_volumeOnShelf { frames := 7, cells := 1, slots := 6, locals := 104 } G.1.1 (mq_tys G) [.ref (La 0), .int (zI i)] M (mq_pa (fun _ _ => False)) (fun E M2 => E = eIO ∧ M = M2) 1 6 := by
  refine mq_MetX.of (cc := cX11_volumeOnShelf) (maxL := 3) (ret := (some (.object "OssuaryVault$Volume"))) (by decide) rfl (Nat.le_of_ble_eq_true rfl) rfl rfl ?_
  intro p_ e_ s_ m_ args_ below_ meth_ c_ z_ C hr hlk hex
  obtain ⟨v1, v2, v3, v4, v5, ⟨pf, hkP, hkI⟩, ⟨pv, vd, ld, mb, nu, ho, hP, hH⟩, v8, v9⟩ := id hV
  have hkP' : dkP pf 0 (fun _ => 0) (fun _ => []) (fun _ => 0) := hkP
  have hkI' : dkI G M La pf 0 (fun _ => 0) (fun _ => []) (fun _ => []) (fun _ => 0) := hkI
  have hrI : rdI G M La false 0 0 false 0 [] (fun _ => []) (fun _ => 0) (fun _ => 0) (fun _ => 0) (fun _ => false) := v9.1
  refine xr_aload_n C dX11_volumeOnShelf_0 rfl ?_
  refine xr_iload_n C dX11_volumeOnShelf_1 rfl ?_
  by_cases hbad : i < 0 ∨ 16 ≤ i
  · refine xr_callXV1a C (x_place l hlt G sb sn sx hG La hI M hV i hir hbad) (cwV 1 C.1.2.2.2.2 gX11_volumeOnShelf_X11_placeOnShelf rfl rfl rfl (by decide +kernel) ⟨Nat.le_of_ble_eq_true rfl, Nat.le_of_ble_eq_true rfl⟩) v1 rfl (Nat.le_of_ble_eq_true rfl) ⟨by dsimp only; omega, by dsimp only; omega⟩ dX11_volumeOnShelf_2 (fun E9 M9 hx9 => ?_) (fun _ _ h9 => h9.elim)
    obtain ⟨rfl, rfl⟩ := hx9
    exact xt_out C hex hlk ⟨rfl, rfl⟩ (by omega) (by omega)
  · obtain ⟨j, rfl⟩ := Int.eq_ofNat_of_zero_le (show 0 ≤ i by omega)
    refine xr_callV1a C (c_place l G La hI M v1 pv _ _ vd ld mb nu ho hP hH j (by omega)) (cwV 1 C.1.2.2.2.2 gX11_volumeOnShelf_X11_placeOnShelf rfl rfl rfl (by decide +kernel) ⟨Nat.le_of_ble_eq_true rfl, Nat.le_of_ble_eq_true rfl⟩) v1 rfl (Nat.le_of_ble_eq_true rfl) ⟨by dsimp only; omega, by dsimp only; omega⟩ dX11_volumeOnShelf_2 (fun r9 M9 hp9 => ?_)
    obtain ⟨rfl, rfl⟩ := hp9
    refine xr_astore_n C dX11_volumeOnShelf_5 (by decide) rfl ?_
    refine xr_aload_n C dX11_volumeOnShelf_6 rfl ?_
    refine xr_callV0i C (c_isHere l G _ _ _ _ _ _ _ M (hH.2.2.2.2 j (by omega))) (cwV 0 C.1.2.2.2.2 gX11_volumeOnShelf_X10_isHere rfl rfl rfl (by decide +kernel) ⟨Nat.le_of_ble_eq_true rfl, Nat.le_of_ble_eq_true rfl⟩) (hH.2.2.2.2 j (by omega)).1 rfl (Nat.le_of_ble_eq_true rfl) ⟨by dsimp only; omega, by dsimp only; omega⟩ dX11_volumeOnShelf_7 (fun r1 M9 hp9 => ?_)
    obtain ⟨rfl, rfl⟩ := hp9
    rw [show mq_b false = 0 from rfl]
    refine xr_if_ne C dX11_volumeOnShelf_10 rfl (by decide) (fun hq => absurd hq (by decide)) (fun _ => ?_)
    exact pp_throwW hG C hlt hex (eIO, 79, 83) (by decide +kernel) (text := "no volume at this place") (is := 336) (by decide +kernel) (by decide +kernel) (by decide +kernel) (fun w hw => List.mem_cons_of_mem _ (List.mem_append_right _ hw)) dX11_volumeOnShelf_13 dX11_volumeOnShelf_16 dX11_volumeOnShelf_17 dX11_volumeOnShelf_20 dX11_volumeOnShelf_23 (by dsimp only; omega) (Nat.le_of_ble_eq_true rfl) (by dsimp only; omega) (by dsimp only; omega) hlk ⟨rfl, rfl⟩ (by omega) (by omega)
set_option maxHeartbeats 4000000 in
set_option maxRecDepth 100000 in
theorem x_reqOpen (l : Launch) (hlt : l.stackTraces = false) (G : mq_G) (sb sn : Nat) (sx : Nat → Int32) (hG : pG G sb sn sx) (La : Nat → Nat) (hI : mq_inj La) (M : mq_M) (hV : vF G M La) : mq_MetX l yX11_requireOpen wsX11_requireOpen { frames := 6, cells := 1, slots := 6, locals := 82 } G.1.1 (mq_tys G) [.ref (La 0)] M (mq_pv (fun _ => False)) (fun E M2 => E = eIS ∧ M = M2) 1 6 := by
  refine mq_MetX.of (cc := cX11_requireOpen) (maxL := 1) (ret := none) (by decide) rfl (Nat.le_of_ble_eq_true rfl) rfl rfl ?_
  intro p_ e_ s_ m_ args_ below_ meth_ c_ z_ C hr hlk hex
  obtain ⟨v1, v2, v3, v4, v5, ⟨pf, hkP, hkI⟩, ⟨pv, vd, ld, mb, nu, ho, hP, hH⟩, v8, v9⟩ := id hV
  have hkP' : dkP pf 0 (fun _ => 0) (fun _ => []) (fun _ => 0) := hkP
  have hkI' : dkI G M La pf 0 (fun _ => 0) (fun _ => []) (fun _ => []) (fun _ => 0) := hkI
  have hrI : rdI G M La false 0 0 false 0 [] (fun _ => []) (fun _ => 0) (fun _ => 0) (fun _ => 0) (fun _ => false) := v9.1
  refine xr_aload_n C dX11_requireOpen_0 rfl ?_
  refine xr_get C (Cn := RX11) (T := TX11) (N := 5) (by decide +kernel) v1 rfl 4 (by decide) (C.1.2.2.2.2 (.fieldLink RX11 49 "OssuaryVault" "reading" "LOssuaryVault$Reading;") (by decide +kernel)) (fun _ h => h) rfl dX11_requireOpen_1 ?_
  refine xr_getN C (Cn := RX7) (T := TX7) (N := 8) (by decide +kernel) hrI.1 rfl 3 (by decide) (va_Nw.use rfl (C.2.2.1 ("OssuaryVault", 327, "OssuaryVault$Reading", "isOpen", "Z", "OssuaryVault") (by decide +kernel))) (fun _ h => h) rfl dX11_requireOpen_4 ?_
  refine xr_if_ne C dX11_requireOpen_7 rfl (by decide) (fun hq => absurd hq (by decide)) (fun _ => ?_)
  exact pp_throwW hG C hlt hex (eIS, 99, 103) (by decide +kernel) (text := "no archive is open") (is := 338) (by decide +kernel) (by decide +kernel) (by decide +kernel) (fun w hw => List.mem_cons_of_mem _ (List.mem_append_right _ hw)) dX11_requireOpen_10 dX11_requireOpen_13 dX11_requireOpen_14 dX11_requireOpen_17 dX11_requireOpen_20 (by dsimp only; omega) (Nat.le_of_ble_eq_true rfl) (by dsimp only; omega) (by dsimp only; omega) hlk ⟨rfl, rfl⟩ (by omega) (by omega)
set_option maxHeartbeats 4000000 in
set_option maxRecDepth 100000 in
theorem x_readFile (l : Launch) (hlt : l.stackTraces = false) (G : mq_G) (sb sn : Nat) (sx : Nat → Int32) (hG : pG G sb sn sx) (La : Nat → Nat) (hI : mq_inj La) (M : mq_M) (hV : vF G M La) (i : Int) (hir : -2147483648 ≤ i ∧ i < 2147483648) : mq_MetX l yX11_readFile wsX11_readFile { frames := 7, cells := 1, slots := 6, locals := 102 } G.1.1 (mq_tys G) [.ref (La 0), .int (zI i)] M (mq_pa (fun _ _ => False)) (fun E M2 => E = eIS ∧ M = M2) 1 6 := by
  refine mq_MetX.of (cc := cX11_readFile) (maxL := 3) (ret := (some (.object "OssuaryVault$FoundFile"))) (by decide) rfl (Nat.le_of_ble_eq_true rfl) rfl rfl ?_
  intro p_ e_ s_ m_ args_ below_ meth_ c_ z_ C hr hlk hex
  obtain ⟨v1, v2, v3, v4, v5, ⟨pf, hkP, hkI⟩, ⟨pv, vd, ld, mb, nu, ho, hP, hH⟩, v8, v9⟩ := id hV
  have hkP' : dkP pf 0 (fun _ => 0) (fun _ => []) (fun _ => 0) := hkP
  have hkI' : dkI G M La pf 0 (fun _ => 0) (fun _ => []) (fun _ => []) (fun _ => 0) := hkI
  have hrI : rdI G M La false 0 0 false 0 [] (fun _ => []) (fun _ => 0) (fun _ => 0) (fun _ => 0) (fun _ => false) := v9.1
  refine xr_aload_n C dX11_readFile_0 rfl ?_
  refine xr_callXV0v C (x_reqOpen l hlt G sb sn sx hG La hI M hV) (cwV 0 C.1.2.2.2.2 gX11_readFile_X11_requireOpen rfl rfl rfl (by decide +kernel) ⟨Nat.le_of_ble_eq_true rfl, Nat.le_of_ble_eq_true rfl⟩) v1 rfl (Nat.le_of_ble_eq_true rfl) ⟨by dsimp only; omega, by dsimp only; omega⟩ dX11_readFile_1 (fun E9 M9 hx9 => ?_) (fun _ h9 => h9.elim)
  obtain ⟨rfl, rfl⟩ := hx9
  exact xt_out C hex hlk ⟨rfl, rfl⟩ (by omega) (by omega)
set_option maxHeartbeats 4000000 in
set_option maxRecDepth 100000 in
theorem x_keyOf (l : Launch) (hlt : l.stackTraces = false) (G : mq_G) (sb sn : Nat) (sx : Nat → Int32) (hG : pG G sb sn sx) (La : Nat → Nat) (hI : mq_inj La) (M : mq_M) (hV : vF G M La) (i : Int) (hir : -2147483648 ≤ i ∧ i < 2147483648) : mq_MetX l yX11_keyOf wsX11_keyOf { frames := 7, cells := 1, slots := 6, locals := 104 } G.1.1 (mq_tys G) [.ref (La 0), .int (zI i)] M (mq_pi (fun _ _ => False)) (fun E M2 => E = eIO ∧ M = M2) 1 6 := by
  refine mq_MetX.of (cc := cX11_keyOf) (maxL := 2) (ret := (some .int)) (by decide) rfl (Nat.le_of_ble_eq_true rfl) rfl rfl ?_
  intro p_ e_ s_ m_ args_ below_ meth_ c_ z_ C hr hlk hex
  obtain ⟨v1, v2, v3, v4, v5, ⟨pf, hkP, hkI⟩, ⟨pv, vd, ld, mb, nu, ho, hP, hH⟩, v8, v9⟩ := id hV
  have hkP' : dkP pf 0 (fun _ => 0) (fun _ => []) (fun _ => 0) := hkP
  have hkI' : dkI G M La pf 0 (fun _ => 0) (fun _ => []) (fun _ => []) (fun _ => 0) := hkI
  have hrI : rdI G M La false 0 0 false 0 [] (fun _ => []) (fun _ => 0) (fun _ => 0) (fun _ => 0) (fun _ => false) := v9.1
  refine xr_aload_n C dX11_keyOf_0 rfl ?_
  refine xr_iload_n C dX11_keyOf_1 rfl ?_
  refine xr_callXV1a C (x_deskFile l hlt G sb sn sx hG La hI M hV i hir) (cwV 1 C.1.2.2.2.2 gX11_keyOf_X11_deskFile rfl rfl rfl (by decide +kernel) ⟨Nat.le_of_ble_eq_true rfl, Nat.le_of_ble_eq_true rfl⟩) v1 rfl (Nat.le_of_ble_eq_true rfl) ⟨by dsimp only; omega, by dsimp only; omega⟩ dX11_keyOf_2 (fun E9 M9 hx9 => ?_) (fun _ _ h9 => h9.elim)
  obtain ⟨rfl, rfl⟩ := hx9
  exact xt_out C hex hlk ⟨rfl, rfl⟩ (by omega) (by omega)
set_option maxHeartbeats 4000000 in
set_option maxRecDepth 100000 in
theorem x_lengthOf (l : Launch) (hlt : l.stackTraces = false) (G : mq_G) (sb sn : Nat) (sx : Nat → Int32) (hG : pG G sb sn sx) (La : Nat → Nat) (hI : mq_inj La) (M : mq_M) (hV : vF G M La) (i : Int) (hir : -2147483648 ≤ i ∧ i < 2147483648) : mq_MetX l yX11_lengthOf wsX11_lengthOf { frames := 7, cells := 1, slots := 6, locals := 104 } G.1.1 (mq_tys G) [.ref (La 0), .int (zI i)] M (mq_pi (fun _ _ => False)) (fun E M2 => E = eIO ∧ M = M2) 1 6 := by
  refine mq_MetX.of (cc := cX11_lengthOf) (maxL := 2) (ret := (some .int)) (by decide) rfl (Nat.le_of_ble_eq_true rfl) rfl rfl ?_
  intro p_ e_ s_ m_ args_ below_ meth_ c_ z_ C hr hlk hex
  obtain ⟨v1, v2, v3, v4, v5, ⟨pf, hkP, hkI⟩, ⟨pv, vd, ld, mb, nu, ho, hP, hH⟩, v8, v9⟩ := id hV
  have hkP' : dkP pf 0 (fun _ => 0) (fun _ => []) (fun _ => 0) := hkP
  have hkI' : dkI G M La pf 0 (fun _ => 0) (fun _ => []) (fun _ => []) (fun _ => 0) := hkI
  have hrI : rdI G M La false 0 0 false 0 [] (fun _ => []) (fun _ => 0) (fun _ => 0) (fun _ => 0) (fun _ => false) := v9.1
  refine xr_aload_n C dX11_lengthOf_0 rfl ?_
  refine xr_iload_n C dX11_lengthOf_1 rfl ?_
  refine xr_callXV1a C (x_deskFile l hlt G sb sn sx hG La hI M hV i hir) (cwV 1 C.1.2.2.2.2 gX11_lengthOf_X11_deskFile rfl rfl rfl (by decide +kernel) ⟨Nat.le_of_ble_eq_true rfl, Nat.le_of_ble_eq_true rfl⟩) v1 rfl (Nat.le_of_ble_eq_true rfl) ⟨by dsimp only; omega, by dsimp only; omega⟩ dX11_lengthOf_2 (fun E9 M9 hx9 => ?_) (fun _ _ h9 => h9.elim)
  obtain ⟨rfl, rfl⟩ := hx9
  exact xt_out C hex hlk ⟨rfl, rfl⟩ (by omega) (by omega)
set_option maxHeartbeats 4000000 in
set_option maxRecDepth 100000 in
theorem x_contentAt (l : Launch) (hlt : l.stackTraces = false) (G : mq_G) (sb sn : Nat) (sx : Nat → Int32) (hG : pG G sb sn sx) (La : Nat → Nat) (hI : mq_inj La) (M : mq_M) (hV : vF G M La) (i : Int) (hir : -2147483648 ≤ i ∧ i < 2147483648) (q : Int) (hqr : -2147483648 ≤ q ∧ q < 2147483648) : mq_MetX l yX11_contentAt wsX11_contentAt { frames := 7, cells := 1, slots := 6, locals := 104 } G.1.1 (mq_tys G) [.ref (La 0), .int (zI i), .int (zI q)] M (mq_pi (fun _ _ => False)) (fun E M2 => E = eIO ∧ M = M2) 1 6 := by
  refine mq_MetX.of (cc := cX11_contentAt) (maxL := 3) (ret := (some .int)) (by decide) rfl (Nat.le_of_ble_eq_true rfl) rfl rfl ?_
  intro p_ e_ s_ m_ args_ below_ meth_ c_ z_ C hr hlk hex
  obtain ⟨v1, v2, v3, v4, v5, ⟨pf, hkP, hkI⟩, ⟨pv, vd, ld, mb, nu, ho, hP, hH⟩, v8, v9⟩ := id hV
  have hkP' : dkP pf 0 (fun _ => 0) (fun _ => []) (fun _ => 0) := hkP
  have hkI' : dkI G M La pf 0 (fun _ => 0) (fun _ => []) (fun _ => []) (fun _ => 0) := hkI
  have hrI : rdI G M La false 0 0 false 0 [] (fun _ => []) (fun _ => 0) (fun _ => 0) (fun _ => 0) (fun _ => false) := v9.1
  refine xr_aload_n C dX11_contentAt_0 rfl ?_
  refine xr_iload_n C dX11_contentAt_1 rfl ?_
  refine xr_callXV1a C (x_deskFile l hlt G sb sn sx hG La hI M hV i hir) (cwV 1 C.1.2.2.2.2 gX11_contentAt_X11_deskFile rfl rfl rfl (by decide +kernel) ⟨Nat.le_of_ble_eq_true rfl, Nat.le_of_ble_eq_true rfl⟩) v1 rfl (Nat.le_of_ble_eq_true rfl) ⟨by dsimp only; omega, by dsimp only; omega⟩ dX11_contentAt_2 (fun E9 M9 hx9 => ?_) (fun _ _ h9 => h9.elim)
  obtain ⟨rfl, rfl⟩ := hx9
  exact xt_out C hex hlk ⟨rfl, rfl⟩ (by omega) (by omega)
set_option maxHeartbeats 4000000 in
set_option maxRecDepth 100000 in
theorem x_checkOf (l : Launch) (hlt : l.stackTraces = false) (G : mq_G) (sb sn : Nat) (sx : Nat → Int32) (hG : pG G sb sn sx) (La : Nat → Nat) (hI : mq_inj La) (M : mq_M) (hV : vF G M La) (i : Int) (hir : -2147483648 ≤ i ∧ i < 2147483648) : mq_MetX l yX11_checkOf wsX11_checkOf { frames := 7, cells := 1, slots := 6, locals := 104 } G.1.1 (mq_tys G) [.ref (La 0), .int (zI i)] M (mq_pi (fun _ _ => False)) (fun E M2 => E = eIO ∧ M = M2) 1 6 := by
  refine mq_MetX.of (cc := cX11_checkOf) (maxL := 2) (ret := (some .int)) (by decide) rfl (Nat.le_of_ble_eq_true rfl) rfl rfl ?_
  intro p_ e_ s_ m_ args_ below_ meth_ c_ z_ C hr hlk hex
  obtain ⟨v1, v2, v3, v4, v5, ⟨pf, hkP, hkI⟩, ⟨pv, vd, ld, mb, nu, ho, hP, hH⟩, v8, v9⟩ := id hV
  have hkP' : dkP pf 0 (fun _ => 0) (fun _ => []) (fun _ => 0) := hkP
  have hkI' : dkI G M La pf 0 (fun _ => 0) (fun _ => []) (fun _ => []) (fun _ => 0) := hkI
  have hrI : rdI G M La false 0 0 false 0 [] (fun _ => []) (fun _ => 0) (fun _ => 0) (fun _ => 0) (fun _ => false) := v9.1
  refine xr_aload_n C dX11_checkOf_0 rfl ?_
  refine xr_iload_n C dX11_checkOf_1 rfl ?_
  refine xr_callXV1a C (x_deskFile l hlt G sb sn sx hG La hI M hV i hir) (cwV 1 C.1.2.2.2.2 gX11_checkOf_X11_deskFile rfl rfl rfl (by decide +kernel) ⟨Nat.le_of_ble_eq_true rfl, Nat.le_of_ble_eq_true rfl⟩) v1 rfl (Nat.le_of_ble_eq_true rfl) ⟨by dsimp only; omega, by dsimp only; omega⟩ dX11_checkOf_2 (fun E9 M9 hx9 => ?_) (fun _ _ h9 => h9.elim)
  obtain ⟨rfl, rfl⟩ := hx9
  exact xt_out C hex hlk ⟨rfl, rfl⟩ (by omega) (by omega)
set_option maxHeartbeats 4000000 in
set_option maxRecDepth 100000 in
theorem x_packedLength (l : Launch) (hlt : l.stackTraces = false) (G : mq_G) (sb sn : Nat) (sx : Nat → Int32) (hG : pG G sb sn sx) (La : Nat → Nat) (hI : mq_inj La) (M : mq_M) (hV : vF G M La) (i : Int) (hir : -2147483648 ≤ i ∧ i < 2147483648) : mq_MetX l yX11_packedLength wsX11_packedLength { frames := 7, cells := 1, slots := 6, locals := 104 } G.1.1 (mq_tys G) [.ref (La 0), .int (zI i)] M (mq_pi (fun _ _ => False)) (fun E M2 => E = eIO ∧ M = M2) 1 6 := by
  refine mq_MetX.of (cc := cX11_packedLength) (maxL := 2) (ret := (some .int)) (by decide) rfl (Nat.le_of_ble_eq_true rfl) rfl rfl ?_
  intro p_ e_ s_ m_ args_ below_ meth_ c_ z_ C hr hlk hex
  obtain ⟨v1, v2, v3, v4, v5, ⟨pf, hkP, hkI⟩, ⟨pv, vd, ld, mb, nu, ho, hP, hH⟩, v8, v9⟩ := id hV
  have hkP' : dkP pf 0 (fun _ => 0) (fun _ => []) (fun _ => 0) := hkP
  have hkI' : dkI G M La pf 0 (fun _ => 0) (fun _ => []) (fun _ => []) (fun _ => 0) := hkI
  have hrI : rdI G M La false 0 0 false 0 [] (fun _ => []) (fun _ => 0) (fun _ => 0) (fun _ => 0) (fun _ => false) := v9.1
  refine xr_aload_n C dX11_packedLength_0 rfl ?_
  refine xr_iload_n C dX11_packedLength_1 rfl ?_
  refine xr_callXV1a C (x_deskFile l hlt G sb sn sx hG La hI M hV i hir) (cwV 1 C.1.2.2.2.2 gX11_packedLength_X11_deskFile rfl rfl rfl (by decide +kernel) ⟨Nat.le_of_ble_eq_true rfl, Nat.le_of_ble_eq_true rfl⟩) v1 rfl (Nat.le_of_ble_eq_true rfl) ⟨by dsimp only; omega, by dsimp only; omega⟩ dX11_packedLength_2 (fun E9 M9 hx9 => ?_) (fun _ _ h9 => h9.elim)
  obtain ⟨rfl, rfl⟩ := hx9
  exact xt_out C hex hlk ⟨rfl, rfl⟩ (by omega) (by omega)
set_option maxHeartbeats 4000000 in
set_option maxRecDepth 100000 in
theorem x_packedAt (l : Launch) (hlt : l.stackTraces = false) (G : mq_G) (sb sn : Nat) (sx : Nat → Int32) (hG : pG G sb sn sx) (La : Nat → Nat) (hI : mq_inj La) (M : mq_M) (hV : vF G M La) (i : Int) (hir : -2147483648 ≤ i ∧ i < 2147483648) (q : Int) (hqr : -2147483648 ≤ q ∧ q < 2147483648) : mq_MetX l yX11_packedAt wsX11_packedAt { frames := 7, cells := 1, slots := 6, locals := 104 } G.1.1 (mq_tys G) [.ref (La 0), .int (zI i), .int (zI q)] M (mq_pi (fun _ _ => False)) (fun E M2 => E = eIO ∧ M = M2) 1 6 := by
  refine mq_MetX.of (cc := cX11_packedAt) (maxL := 3) (ret := (some .int)) (by decide) rfl (Nat.le_of_ble_eq_true rfl) rfl rfl ?_
  intro p_ e_ s_ m_ args_ below_ meth_ c_ z_ C hr hlk hex
  obtain ⟨v1, v2, v3, v4, v5, ⟨pf, hkP, hkI⟩, ⟨pv, vd, ld, mb, nu, ho, hP, hH⟩, v8, v9⟩ := id hV
  have hkP' : dkP pf 0 (fun _ => 0) (fun _ => []) (fun _ => 0) := hkP
  have hkI' : dkI G M La pf 0 (fun _ => 0) (fun _ => []) (fun _ => []) (fun _ => 0) := hkI
  have hrI : rdI G M La false 0 0 false 0 [] (fun _ => []) (fun _ => 0) (fun _ => 0) (fun _ => 0) (fun _ => false) := v9.1
  refine xr_aload_n C dX11_packedAt_0 rfl ?_
  refine xr_iload_n C dX11_packedAt_1 rfl ?_
  refine xr_callXV1a C (x_deskFile l hlt G sb sn sx hG La hI M hV i hir) (cwV 1 C.1.2.2.2.2 gX11_packedAt_X11_deskFile rfl rfl rfl (by decide +kernel) ⟨Nat.le_of_ble_eq_true rfl, Nat.le_of_ble_eq_true rfl⟩) v1 rfl (Nat.le_of_ble_eq_true rfl) ⟨by dsimp only; omega, by dsimp only; omega⟩ dX11_packedAt_2 (fun E9 M9 hx9 => ?_) (fun _ _ h9 => h9.elim)
  obtain ⟨rfl, rfl⟩ := hx9
  exact xt_out C hex hlk ⟨rfl, rfl⟩ (by omega) (by omega)
set_option maxHeartbeats 4000000 in
set_option maxRecDepth 100000 in
theorem x_byteAt (l : Launch) (hlt : l.stackTraces = false) (G : mq_G) (sb sn : Nat) (sx : Nat → Int32) (hG : pG G sb sn sx) (La : Nat → Nat) (hI : mq_inj La) (M : mq_M) (hV : vF G M La) (i : Int) (hir : -2147483648 ≤ i ∧ i < 2147483648) (q : Int) (hqr : -2147483648 ≤ q ∧ q < 2147483648) : mq_MetX l yX11_byteAt wsX11_byteAt { frames := 8, cells := 1, slots := 6, locals := 126 } G.1.1 (mq_tys G) [.ref (La 0), .int (zI i), .int (zI q)] M (mq_pi (fun _ _ => False)) (fun E M2 => E = eIO ∧ M = M2) 1 6 := by
  refine mq_MetX.of (cc := cX11_byteAt) (maxL := 3) (ret := (some .int)) (by decide) rfl (Nat.le_of_ble_eq_true rfl) rfl rfl ?_
  intro p_ e_ s_ m_ args_ below_ meth_ c_ z_ C hr hlk hex
  obtain ⟨v1, v2, v3, v4, v5, ⟨pf, hkP, hkI⟩, ⟨pv, vd, ld, mb, nu, ho, hP, hH⟩, v8, v9⟩ := id hV
  have hkP' : dkP pf 0 (fun _ => 0) (fun _ => []) (fun _ => 0) := hkP
  have hkI' : dkI G M La pf 0 (fun _ => 0) (fun _ => []) (fun _ => []) (fun _ => 0) := hkI
  have hrI : rdI G M La false 0 0 false 0 [] (fun _ => []) (fun _ => 0) (fun _ => 0) (fun _ => 0) (fun _ => false) := v9.1
  refine xr_aload_n C dX11_byteAt_0 rfl ?_
  refine xr_iload_n C dX11_byteAt_1 rfl ?_
  refine xr_callXV1a C (x_volume l hlt G sb sn sx hG La hI M hV i hir) (cwV 1 C.1.2.2.2.2 gX11_byteAt_X11_volumeOnShelf rfl rfl rfl (by decide +kernel) ⟨Nat.le_of_ble_eq_true rfl, Nat.le_of_ble_eq_true rfl⟩) v1 rfl (Nat.le_of_ble_eq_true rfl) ⟨by dsimp only; omega, by dsimp only; omega⟩ dX11_byteAt_2 (fun E9 M9 hx9 => ?_) (fun _ _ h9 => h9.elim)
  obtain ⟨rfl, rfl⟩ := hx9
  exact xt_out C hex hlk ⟨rfl, rfl⟩ (by omega) (by omega)
set_option maxHeartbeats 4000000 in
set_option maxRecDepth 100000 in
theorem x_spoil (l : Launch) (hlt : l.stackTraces = false) (G : mq_G) (sb sn : Nat) (sx : Nat → Int32) (hG : pG G sb sn sx) (La : Nat → Nat) (hI : mq_inj La) (M : mq_M) (hV : vF G M La) (i : Int) (hir : -2147483648 ≤ i ∧ i < 2147483648) (q : Int) (hqr : -2147483648 ≤ q ∧ q < 2147483648) (b : Int) (hbr : -2147483648 ≤ b ∧ b < 2147483648) : mq_MetX l yX11_spoil wsX11_spoil { frames := 8, cells := 1, slots := 6, locals := 126 } G.1.1 (mq_tys G) [.ref (La 0), .int (zI i), .int (zI q), .int (zI b)] M (mq_pi (fun _ _ => False)) (fun E M2 => E = eIO ∧ M = M2) 1 6 := by
  refine mq_MetX.of (cc := cX11_spoil) (maxL := 5) (ret := (some .int)) (by decide) rfl (Nat.le_of_ble_eq_true rfl) rfl rfl ?_
  intro p_ e_ s_ m_ args_ below_ meth_ c_ z_ C hr hlk hex
  obtain ⟨v1, v2, v3, v4, v5, ⟨pf, hkP, hkI⟩, ⟨pv, vd, ld, mb, nu, ho, hP, hH⟩, v8, v9⟩ := id hV
  have hkP' : dkP pf 0 (fun _ => 0) (fun _ => []) (fun _ => 0) := hkP
  have hkI' : dkI G M La pf 0 (fun _ => 0) (fun _ => []) (fun _ => []) (fun _ => 0) := hkI
  have hrI : rdI G M La false 0 0 false 0 [] (fun _ => []) (fun _ => 0) (fun _ => 0) (fun _ => 0) (fun _ => false) := v9.1
  refine xr_aload_n C dX11_spoil_0 rfl ?_
  refine xr_iload_n C dX11_spoil_1 rfl ?_
  refine xr_callXV1a C (x_volume l hlt G sb sn sx hG La hI M hV i hir) (cwV 1 C.1.2.2.2.2 gX11_spoil_X11_volumeOnShelf rfl rfl rfl (by decide +kernel) ⟨Nat.le_of_ble_eq_true rfl, Nat.le_of_ble_eq_true rfl⟩) v1 rfl (Nat.le_of_ble_eq_true rfl) ⟨by dsimp only; omega, by dsimp only; omega⟩ dX11_spoil_2 (fun E9 M9 hx9 => ?_) (fun _ _ h9 => h9.elim)
  obtain ⟨rfl, rfl⟩ := hx9
  exact xt_out C hex hlk ⟨rfl, rfl⟩ (by omega) (by omega)
set_option maxHeartbeats 4000000 in
set_option maxRecDepth 100000 in
theorem x_sign (l : Launch) (hlt : l.stackTraces = false) (G : mq_G) (sb sn : Nat) (sx : Nat → Int32) (hG : pG G sb sn sx) (La : Nat → Nat) (hI : mq_inj La) (M : mq_M) (hV : vF G M La) (i : Int) (hir : -2147483648 ≤ i ∧ i < 2147483648) : mq_MetX l yX11_sign wsX11_sign { frames := 8, cells := 1, slots := 6, locals := 126 } G.1.1 (mq_tys G) [.ref (La 0), .int (zI i)] M (mq_pi (fun _ _ => False)) (fun E M2 => E = eIO ∧ M = M2) 1 6 := by
  refine mq_MetX.of (cc := cX11_sign) (maxL := 3) (ret := (some .int)) (by decide) rfl (Nat.le_of_ble_eq_true rfl) rfl rfl ?_
  intro p_ e_ s_ m_ args_ below_ meth_ c_ z_ C hr hlk hex
  obtain ⟨v1, v2, v3, v4, v5, ⟨pf, hkP, hkI⟩, ⟨pv, vd, ld, mb, nu, ho, hP, hH⟩, v8, v9⟩ := id hV
  have hkP' : dkP pf 0 (fun _ => 0) (fun _ => []) (fun _ => 0) := hkP
  have hkI' : dkI G M La pf 0 (fun _ => 0) (fun _ => []) (fun _ => []) (fun _ => 0) := hkI
  have hrI : rdI G M La false 0 0 false 0 [] (fun _ => []) (fun _ => 0) (fun _ => 0) (fun _ => 0) (fun _ => false) := v9.1
  refine xr_aload_n C dX11_sign_0 rfl ?_
  refine xr_iload_n C dX11_sign_1 rfl ?_
  refine xr_callXV1a C (x_volume l hlt G sb sn sx hG La hI M hV i hir) (cwV 1 C.1.2.2.2.2 gX11_sign_X11_volumeOnShelf rfl rfl rfl (by decide +kernel) ⟨Nat.le_of_ble_eq_true rfl, Nat.le_of_ble_eq_true rfl⟩) v1 rfl (Nat.le_of_ble_eq_true rfl) ⟨by dsimp only; omega, by dsimp only; omega⟩ dX11_sign_2 (fun E9 M9 hx9 => ?_) (fun _ _ h9 => h9.elim)
  obtain ⟨rfl, rfl⟩ := hx9
  exact xt_out C hex hlk ⟨rfl, rfl⟩ (by omega) (by omega)
set_option maxHeartbeats 4000000 in
set_option maxRecDepth 100000 in
theorem x_cut (l : Launch) (hlt : l.stackTraces = false) (G : mq_G) (sb sn : Nat) (sx : Nat → Int32) (hG : pG G sb sn sx) (La : Nat → Nat) (hI : mq_inj La) (M : mq_M) (hV : vF G M La) (i : Int) (hir : -2147483648 ≤ i ∧ i < 2147483648) (q : Int) (hqr : -2147483648 ≤ q ∧ q < 2147483648) : mq_MetX l yX11_cut wsX11_cut { frames := 8, cells := 1, slots := 6, locals := 126 } G.1.1 (mq_tys G) [.ref (La 0), .int (zI i), .int (zI q)] M (mq_pi (fun _ _ => False)) (fun E M2 => E = eIO ∧ M = M2) 1 6 := by
  refine mq_MetX.of (cc := cX11_cut) (maxL := 5) (ret := (some .int)) (by decide) rfl (Nat.le_of_ble_eq_true rfl) rfl rfl ?_
  intro p_ e_ s_ m_ args_ below_ meth_ c_ z_ C hr hlk hex
  obtain ⟨v1, v2, v3, v4, v5, ⟨pf, hkP, hkI⟩, ⟨pv, vd, ld, mb, nu, ho, hP, hH⟩, v8, v9⟩ := id hV
  have hkP' : dkP pf 0 (fun _ => 0) (fun _ => []) (fun _ => 0) := hkP
  have hkI' : dkI G M La pf 0 (fun _ => 0) (fun _ => []) (fun _ => []) (fun _ => 0) := hkI
  have hrI : rdI G M La false 0 0 false 0 [] (fun _ => []) (fun _ => 0) (fun _ => 0) (fun _ => 0) (fun _ => false) := v9.1
  refine xr_aload_n C dX11_cut_0 rfl ?_
  refine xr_iload_n C dX11_cut_1 rfl ?_
  refine xr_callXV1a C (x_volume l hlt G sb sn sx hG La hI M hV i hir) (cwV 1 C.1.2.2.2.2 gX11_cut_X11_volumeOnShelf rfl rfl rfl (by decide +kernel) ⟨Nat.le_of_ble_eq_true rfl, Nat.le_of_ble_eq_true rfl⟩) v1 rfl (Nat.le_of_ble_eq_true rfl) ⟨by dsimp only; omega, by dsimp only; omega⟩ dX11_cut_2 (fun E9 M9 hx9 => ?_) (fun _ _ h9 => h9.elim)
  obtain ⟨rfl, rfl⟩ := hx9
  exact xt_out C hex hlk ⟨rfl, rfl⟩ (by omega) (by omega)
set_option maxHeartbeats 4000000 in
set_option maxRecDepth 100000 in
theorem x_copy (l : Launch) (hlt : l.stackTraces = false) (G : mq_G) (sb sn : Nat) (sx : Nat → Int32) (hG : pG G sb sn sx) (La : Nat → Nat) (hI : mq_inj La) (M : mq_M) (hV : vF G M La) (i : Int) (hir : -2147483648 ≤ i ∧ i < 2147483648) (q : Int) (hqr : -2147483648 ≤ q ∧ q < 2147483648) : mq_MetX l yX11_copy wsX11_copy { frames := 8, cells := 1, slots := 6, locals := 126 } G.1.1 (mq_tys G) [.ref (La 0), .int (zI i), .int (zI q)] M (mq_pi (fun _ _ => False)) (fun E M2 => E = eIO ∧ M = M2) 1 6 := by
  refine mq_MetX.of (cc := cX11_copy) (maxL := 4) (ret := (some .int)) (by decide) rfl (Nat.le_of_ble_eq_true rfl) rfl rfl ?_
  intro p_ e_ s_ m_ args_ below_ meth_ c_ z_ C hr hlk hex
  obtain ⟨v1, v2, v3, v4, v5, ⟨pf, hkP, hkI⟩, ⟨pv, vd, ld, mb, nu, ho, hP, hH⟩, v8, v9⟩ := id hV
  have hkP' : dkP pf 0 (fun _ => 0) (fun _ => []) (fun _ => 0) := hkP
  have hkI' : dkI G M La pf 0 (fun _ => 0) (fun _ => []) (fun _ => []) (fun _ => 0) := hkI
  have hrI : rdI G M La false 0 0 false 0 [] (fun _ => []) (fun _ => 0) (fun _ => 0) (fun _ => 0) (fun _ => false) := v9.1
  refine xr_aload_n C dX11_copy_0 rfl ?_
  refine xr_iload_n C dX11_copy_1 rfl ?_
  refine xr_callXV1a C (x_volume l hlt G sb sn sx hG La hI M hV i hir) (cwV 1 C.1.2.2.2.2 gX11_copy_X11_volumeOnShelf rfl rfl rfl (by decide +kernel) ⟨Nat.le_of_ble_eq_true rfl, Nat.le_of_ble_eq_true rfl⟩) v1 rfl (Nat.le_of_ble_eq_true rfl) ⟨by dsimp only; omega, by dsimp only; omega⟩ dX11_copy_2 (fun E9 M9 hx9 => ?_) (fun _ _ h9 => h9.elim)
  obtain ⟨rfl, rfl⟩ := hx9
  exact xt_out C hex hlk ⟨rfl, rfl⟩ (by omega) (by omega)
set_option maxHeartbeats 4000000 in
set_option maxRecDepth 100000 in
theorem x_keyFound (l : Launch) (hlt : l.stackTraces = false) (G : mq_G) (sb sn : Nat) (sx : Nat → Int32) (hG : pG G sb sn sx) (La : Nat → Nat) (hI : mq_inj La) (M : mq_M) (hV : vF G M La) (i : Int) (hir : -2147483648 ≤ i ∧ i < 2147483648) : mq_MetX l yX11_keyFound wsX11_keyFound { frames := 8, cells := 1, slots := 6, locals := 124 } G.1.1 (mq_tys G) [.ref (La 0), .int (zI i)] M (mq_pi (fun _ _ => False)) (fun E M2 => E = eIS ∧ M = M2) 1 6 := by
  refine mq_MetX.of (cc := cX11_keyFound) (maxL := 2) (ret := (some .int)) (by decide) rfl (Nat.le_of_ble_eq_true rfl) rfl rfl ?_
  intro p_ e_ s_ m_ args_ below_ meth_ c_ z_ C hr hlk hex
  obtain ⟨v1, v2, v3, v4, v5, ⟨pf, hkP, hkI⟩, ⟨pv, vd, ld, mb, nu, ho, hP, hH⟩, v8, v9⟩ := id hV
  have hkP' : dkP pf 0 (fun _ => 0) (fun _ => []) (fun _ => 0) := hkP
  have hkI' : dkI G M La pf 0 (fun _ => 0) (fun _ => []) (fun _ => []) (fun _ => 0) := hkI
  have hrI : rdI G M La false 0 0 false 0 [] (fun _ => []) (fun _ => 0) (fun _ => 0) (fun _ => 0) (fun _ => false) := v9.1
  refine xr_aload_n C dX11_keyFound_0 rfl ?_
  refine xr_iload_n C dX11_keyFound_1 rfl ?_
  refine xr_callXV1a C (x_readFile l hlt G sb sn sx hG La hI M hV i hir) (cwV 1 C.1.2.2.2.2 gX11_keyFound_X11_readFile rfl rfl rfl (by decide +kernel) ⟨Nat.le_of_ble_eq_true rfl, Nat.le_of_ble_eq_true rfl⟩) v1 rfl (Nat.le_of_ble_eq_true rfl) ⟨by dsimp only; omega, by dsimp only; omega⟩ dX11_keyFound_2 (fun E9 M9 hx9 => ?_) (fun _ _ h9 => h9.elim)
  obtain ⟨rfl, rfl⟩ := hx9
  exact xt_out C hex hlk ⟨rfl, rfl⟩ (by omega) (by omega)
set_option maxHeartbeats 4000000 in
set_option maxRecDepth 100000 in
theorem x_placeFound (l : Launch) (hlt : l.stackTraces = false) (G : mq_G) (sb sn : Nat) (sx : Nat → Int32) (hG : pG G sb sn sx) (La : Nat → Nat) (hI : mq_inj La) (M : mq_M) (hV : vF G M La) (i : Int) (hir : -2147483648 ≤ i ∧ i < 2147483648) : mq_MetX l yX11_placeFound wsX11_placeFound { frames := 8, cells := 1, slots := 6, locals := 124 } G.1.1 (mq_tys G) [.ref (La 0), .int (zI i)] M (mq_pi (fun _ _ => False)) (fun E M2 => E = eIS ∧ M = M2) 1 6 := by
  refine mq_MetX.of (cc := cX11_placeFound) (maxL := 2) (ret := (some .int)) (by decide) rfl (Nat.le_of_ble_eq_true rfl) rfl rfl ?_
  intro p_ e_ s_ m_ args_ below_ meth_ c_ z_ C hr hlk hex
  obtain ⟨v1, v2, v3, v4, v5, ⟨pf, hkP, hkI⟩, ⟨pv, vd, ld, mb, nu, ho, hP, hH⟩, v8, v9⟩ := id hV
  have hkP' : dkP pf 0 (fun _ => 0) (fun _ => []) (fun _ => 0) := hkP
  have hkI' : dkI G M La pf 0 (fun _ => 0) (fun _ => []) (fun _ => []) (fun _ => 0) := hkI
  have hrI : rdI G M La false 0 0 false 0 [] (fun _ => []) (fun _ => 0) (fun _ => 0) (fun _ => 0) (fun _ => false) := v9.1
  refine xr_aload_n C dX11_placeFound_0 rfl ?_
  refine xr_iload_n C dX11_placeFound_1 rfl ?_
  refine xr_callXV1a C (x_readFile l hlt G sb sn sx hG La hI M hV i hir) (cwV 1 C.1.2.2.2.2 gX11_placeFound_X11_readFile rfl rfl rfl (by decide +kernel) ⟨Nat.le_of_ble_eq_true rfl, Nat.le_of_ble_eq_true rfl⟩) v1 rfl (Nat.le_of_ble_eq_true rfl) ⟨by dsimp only; omega, by dsimp only; omega⟩ dX11_placeFound_2 (fun E9 M9 hx9 => ?_) (fun _ _ h9 => h9.elim)
  obtain ⟨rfl, rfl⟩ := hx9
  exact xt_out C hex hlk ⟨rfl, rfl⟩ (by omega) (by omega)
set_option maxHeartbeats 4000000 in
set_option maxRecDepth 100000 in
theorem x_isGood (l : Launch) (hlt : l.stackTraces = false) (G : mq_G) (sb sn : Nat) (sx : Nat → Int32) (hG : pG G sb sn sx) (La : Nat → Nat) (hI : mq_inj La) (M : mq_M) (hV : vF G M La) (i : Int) (hir : -2147483648 ≤ i ∧ i < 2147483648) : mq_MetX l yX11_isGood wsX11_isGood { frames := 8, cells := 1, slots := 6, locals := 124 } G.1.1 (mq_tys G) [.ref (La 0), .int (zI i)] M (mq_pi (fun _ _ => False)) (fun E M2 => E = eIS ∧ M = M2) 1 6 := by
  refine mq_MetX.of (cc := cX11_isGood) (maxL := 2) (ret := (some .boolean)) (by decide) rfl (Nat.le_of_ble_eq_true rfl) rfl rfl ?_
  intro p_ e_ s_ m_ args_ below_ meth_ c_ z_ C hr hlk hex
  obtain ⟨v1, v2, v3, v4, v5, ⟨pf, hkP, hkI⟩, ⟨pv, vd, ld, mb, nu, ho, hP, hH⟩, v8, v9⟩ := id hV
  have hkP' : dkP pf 0 (fun _ => 0) (fun _ => []) (fun _ => 0) := hkP
  have hkI' : dkI G M La pf 0 (fun _ => 0) (fun _ => []) (fun _ => []) (fun _ => 0) := hkI
  have hrI : rdI G M La false 0 0 false 0 [] (fun _ => []) (fun _ => 0) (fun _ => 0) (fun _ => 0) (fun _ => false) := v9.1
  refine xr_aload_n C dX11_isGood_0 rfl ?_
  refine xr_iload_n C dX11_isGood_1 rfl ?_
  refine xr_callXV1a C (x_readFile l hlt G sb sn sx hG La hI M hV i hir) (cwV 1 C.1.2.2.2.2 gX11_isGood_X11_readFile rfl rfl rfl (by decide +kernel) ⟨Nat.le_of_ble_eq_true rfl, Nat.le_of_ble_eq_true rfl⟩) v1 rfl (Nat.le_of_ble_eq_true rfl) ⟨by dsimp only; omega, by dsimp only; omega⟩ dX11_isGood_2 (fun E9 M9 hx9 => ?_) (fun _ _ h9 => h9.elim)
  obtain ⟨rfl, rfl⟩ := hx9
  exact xt_out C hex hlk ⟨rfl, rfl⟩ (by omega) (by omega)
set_option maxHeartbeats 4000000 in
set_option maxRecDepth 100000 in
theorem x_lengthFound (l : Launch) (hlt : l.stackTraces = false) (G : mq_G) (sb sn : Nat) (sx : Nat → Int32) (hG : pG G sb sn sx) (La : Nat → Nat) (hI : mq_inj La) (M : mq_M) (hV : vF G M La) (i : Int) (hir : -2147483648 ≤ i ∧ i < 2147483648) : mq_MetX l yX11_lengthFound wsX11_lengthFound { frames := 8, cells := 1, slots := 6, locals := 124 } G.1.1 (mq_tys G) [.ref (La 0), .int (zI i)] M (mq_pi (fun _ _ => False)) (fun E M2 => E = eIS ∧ M = M2) 1 6 := by
  refine mq_MetX.of (cc := cX11_lengthFound) (maxL := 2) (ret := (some .int)) (by decide) rfl (Nat.le_of_ble_eq_true rfl) rfl rfl ?_
  intro p_ e_ s_ m_ args_ below_ meth_ c_ z_ C hr hlk hex
  obtain ⟨v1, v2, v3, v4, v5, ⟨pf, hkP, hkI⟩, ⟨pv, vd, ld, mb, nu, ho, hP, hH⟩, v8, v9⟩ := id hV
  have hkP' : dkP pf 0 (fun _ => 0) (fun _ => []) (fun _ => 0) := hkP
  have hkI' : dkI G M La pf 0 (fun _ => 0) (fun _ => []) (fun _ => []) (fun _ => 0) := hkI
  have hrI : rdI G M La false 0 0 false 0 [] (fun _ => []) (fun _ => 0) (fun _ => 0) (fun _ => 0) (fun _ => false) := v9.1
  refine xr_aload_n C dX11_lengthFound_0 rfl ?_
  refine xr_iload_n C dX11_lengthFound_1 rfl ?_
  refine xr_callXV1a C (x_readFile l hlt G sb sn sx hG La hI M hV i hir) (cwV 1 C.1.2.2.2.2 gX11_lengthFound_X11_readFile rfl rfl rfl (by decide +kernel) ⟨Nat.le_of_ble_eq_true rfl, Nat.le_of_ble_eq_true rfl⟩) v1 rfl (Nat.le_of_ble_eq_true rfl) ⟨by dsimp only; omega, by dsimp only; omega⟩ dX11_lengthFound_2 (fun E9 M9 hx9 => ?_) (fun _ _ h9 => h9.elim)
  obtain ⟨rfl, rfl⟩ := hx9
  exact xt_out C hex hlk ⟨rfl, rfl⟩ (by omega) (by omega)
set_option maxHeartbeats 4000000 in
set_option maxRecDepth 100000 in
theorem x_byteFound (l : Launch) (hlt : l.stackTraces = false) (G : mq_G) (sb sn : Nat) (sx : Nat → Int32) (hG : pG G sb sn sx) (La : Nat → Nat) (hI : mq_inj La) (M : mq_M) (hV : vF G M La) (i : Int) (hir : -2147483648 ≤ i ∧ i < 2147483648) (q : Int) (hqr : -2147483648 ≤ q ∧ q < 2147483648) : mq_MetX l yX11_byteFound wsX11_byteFound { frames := 8, cells := 1, slots := 6, locals := 124 } G.1.1 (mq_tys G) [.ref (La 0), .int (zI i), .int (zI q)] M (mq_pi (fun _ _ => False)) (fun E M2 => E = eIS ∧ M = M2) 1 6 := by
  refine mq_MetX.of (cc := cX11_byteFound) (maxL := 4) (ret := (some .int)) (by decide) rfl (Nat.le_of_ble_eq_true rfl) rfl rfl ?_
  intro p_ e_ s_ m_ args_ below_ meth_ c_ z_ C hr hlk hex
  obtain ⟨v1, v2, v3, v4, v5, ⟨pf, hkP, hkI⟩, ⟨pv, vd, ld, mb, nu, ho, hP, hH⟩, v8, v9⟩ := id hV
  have hkP' : dkP pf 0 (fun _ => 0) (fun _ => []) (fun _ => 0) := hkP
  have hkI' : dkI G M La pf 0 (fun _ => 0) (fun _ => []) (fun _ => []) (fun _ => 0) := hkI
  have hrI : rdI G M La false 0 0 false 0 [] (fun _ => []) (fun _ => 0) (fun _ => 0) (fun _ => 0) (fun _ => false) := v9.1
  refine xr_aload_n C dX11_byteFound_0 rfl ?_
  refine xr_iload_n C dX11_byteFound_1 rfl ?_
  refine xr_callXV1a C (x_readFile l hlt G sb sn sx hG La hI M hV i hir) (cwV 1 C.1.2.2.2.2 gX11_byteFound_X11_readFile rfl rfl rfl (by decide +kernel) ⟨Nat.le_of_ble_eq_true rfl, Nat.le_of_ble_eq_true rfl⟩) v1 rfl (Nat.le_of_ble_eq_true rfl) ⟨by dsimp only; omega, by dsimp only; omega⟩ dX11_byteFound_2 (fun E9 M9 hx9 => ?_) (fun _ _ h9 => h9.elim)
  obtain ⟨rfl, rfl⟩ := hx9
  exact xt_out C hex hlk ⟨rfl, rfl⟩ (by omega) (by omega)
set_option maxHeartbeats 4000000 in
set_option maxRecDepth 100000 in
theorem x_repair (l : Launch) (hlt : l.stackTraces = false) (G : mq_G) (sb sn : Nat) (sx : Nat → Int32) (hG : pG G sb sn sx) (La : Nat → Nat) (hI : mq_inj La) (M : mq_M) (hV : vF G M La)  : mq_MetX l yX11_repair wsX11_repair { frames := 7, cells := 1, slots := 6, locals := 143 } G.1.1 (mq_tys G) [.ref (La 0)] M (mq_pi (fun _ _ => False)) (fun E M2 => E = eIS ∧ M = M2) 1 6 := by
  refine mq_MetX.of (cc := cX11_repair) (maxL := 1) (ret := (some .int)) (by decide) rfl (Nat.le_of_ble_eq_true rfl) rfl rfl ?_
  intro p_ e_ s_ m_ args_ below_ meth_ c_ z_ C hr hlk hex
  obtain ⟨v1, v2, v3, v4, v5, ⟨pf, hkP, hkI⟩, ⟨pv, vd, ld, mb, nu, ho, hP, hH⟩, v8, v9⟩ := id hV
  have hkP' : dkP pf 0 (fun _ => 0) (fun _ => []) (fun _ => 0) := hkP
  have hkI' : dkI G M La pf 0 (fun _ => 0) (fun _ => []) (fun _ => []) (fun _ => 0) := hkI
  have hrI : rdI G M La false 0 0 false 0 [] (fun _ => []) (fun _ => 0) (fun _ => 0) (fun _ => 0) (fun _ => false) := v9.1
  refine xr_aload_n C dX11_repair_0 rfl ?_
  refine xr_callXV0v C (x_reqOpen l hlt G sb sn sx hG La hI M hV) (cwV 0 C.1.2.2.2.2 gX11_repair_X11_requireOpen rfl rfl rfl (by decide +kernel) ⟨Nat.le_of_ble_eq_true rfl, Nat.le_of_ble_eq_true rfl⟩) v1 rfl (Nat.le_of_ble_eq_true rfl) ⟨by dsimp only; omega, by dsimp only; omega⟩ dX11_repair_1 (fun E9 M9 hx9 => ?_) (fun _ h9 => h9.elim)
  obtain ⟨rfl, rfl⟩ := hx9
  exact xt_out C hex hlk ⟨rfl, rfl⟩ (by omega) (by omega)
set_option maxHeartbeats 4000000 in
set_option maxRecDepth 100000 in
theorem x_opened (l : Launch) (hlt : l.stackTraces = false) (G : mq_G) (sb sn : Nat) (sx : Nat → Int32) (hG : pG G sb sn sx) (La : Nat → Nat) (hI : mq_inj La) (M : mq_M) (hV : vF G M La)  : mq_MetX l yX11_opened wsX11_opened { frames := 7, cells := 1, slots := 6, locals := 102 } G.1.1 (mq_tys G) [.ref (La 0)] M (mq_pi (fun _ _ => False)) (fun E M2 => E = eIS ∧ M = M2) 1 6 := by
  refine mq_MetX.of (cc := cX11_opened) (maxL := 1) (ret := (some .int)) (by decide) rfl (Nat.le_of_ble_eq_true rfl) rfl rfl ?_
  intro p_ e_ s_ m_ args_ below_ meth_ c_ z_ C hr hlk hex
  obtain ⟨v1, v2, v3, v4, v5, ⟨pf, hkP, hkI⟩, ⟨pv, vd, ld, mb, nu, ho, hP, hH⟩, v8, v9⟩ := id hV
  have hkP' : dkP pf 0 (fun _ => 0) (fun _ => []) (fun _ => 0) := hkP
  have hkI' : dkI G M La pf 0 (fun _ => 0) (fun _ => []) (fun _ => []) (fun _ => 0) := hkI
  have hrI : rdI G M La false 0 0 false 0 [] (fun _ => []) (fun _ => 0) (fun _ => 0) (fun _ => 0) (fun _ => false) := v9.1
  refine xr_aload_n C dX11_opened_0 rfl ?_
  refine xr_callXV0v C (x_reqOpen l hlt G sb sn sx hG La hI M hV) (cwV 0 C.1.2.2.2.2 gX11_opened_X11_requireOpen rfl rfl rfl (by decide +kernel) ⟨Nat.le_of_ble_eq_true rfl, Nat.le_of_ble_eq_true rfl⟩) v1 rfl (Nat.le_of_ble_eq_true rfl) ⟨by dsimp only; omega, by dsimp only; omega⟩ dX11_opened_1 (fun E9 M9 hx9 => ?_) (fun _ h9 => h9.elim)
  obtain ⟨rfl, rfl⟩ := hx9
  exact xt_out C hex hlk ⟨rfl, rfl⟩ (by omega) (by omega)
set_option maxHeartbeats 4000000 in
set_option maxRecDepth 100000 in
theorem x_streamAt (l : Launch) (hlt : l.stackTraces = false) (G : mq_G) (sb sn : Nat) (sx : Nat → Int32) (hG : pG G sb sn sx) (La : Nat → Nat) (hI : mq_inj La) (M : mq_M) (hV : vF G M La) (i : Int) (hir : -2147483648 ≤ i ∧ i < 2147483648) : mq_MetX l yX11_streamAt wsX11_streamAt { frames := 7, cells := 1, slots := 6, locals := 103 } G.1.1 (mq_tys G) [.ref (La 0), .int (zI i)] M (mq_pi (fun _ _ => False)) (fun E M2 => E = eIS ∧ M = M2) 1 6 := by
  refine mq_MetX.of (cc := cX11_streamAt) (maxL := 2) (ret := (some .int)) (by decide) rfl (Nat.le_of_ble_eq_true rfl) rfl rfl ?_
  intro p_ e_ s_ m_ args_ below_ meth_ c_ z_ C hr hlk hex
  obtain ⟨v1, v2, v3, v4, v5, ⟨pf, hkP, hkI⟩, ⟨pv, vd, ld, mb, nu, ho, hP, hH⟩, v8, v9⟩ := id hV
  have hkP' : dkP pf 0 (fun _ => 0) (fun _ => []) (fun _ => 0) := hkP
  have hkI' : dkI G M La pf 0 (fun _ => 0) (fun _ => []) (fun _ => []) (fun _ => 0) := hkI
  have hrI : rdI G M La false 0 0 false 0 [] (fun _ => []) (fun _ => 0) (fun _ => 0) (fun _ => 0) (fun _ => false) := v9.1
  refine xr_aload_n C dX11_streamAt_0 rfl ?_
  refine xr_callXV0v C (x_reqOpen l hlt G sb sn sx hG La hI M hV) (cwV 0 C.1.2.2.2.2 gX11_streamAt_X11_requireOpen rfl rfl rfl (by decide +kernel) ⟨Nat.le_of_ble_eq_true rfl, Nat.le_of_ble_eq_true rfl⟩) v1 rfl (Nat.le_of_ble_eq_true rfl) ⟨by dsimp only; omega, by dsimp only; omega⟩ dX11_streamAt_1 (fun E9 M9 hx9 => ?_) (fun _ h9 => h9.elim)
  obtain ⟨rfl, rfl⟩ := hx9
  exact xt_out C hex hlk ⟨rfl, rfl⟩ (by omega) (by omega)
set_option maxHeartbeats 4000000 in
set_option maxRecDepth 100000 in
theorem x_hasIndex (l : Launch) (hlt : l.stackTraces = false) (G : mq_G) (sb sn : Nat) (sx : Nat → Int32) (hG : pG G sb sn sx) (La : Nat → Nat) (hI : mq_inj La) (M : mq_M) (hV : vF G M La)  : mq_MetX l yX11_hasIndex wsX11_hasIndex { frames := 7, cells := 1, slots := 6, locals := 102 } G.1.1 (mq_tys G) [.ref (La 0)] M (mq_pi (fun _ _ => False)) (fun E M2 => E = eIS ∧ M = M2) 1 6 := by
  refine mq_MetX.of (cc := cX11_hasIndex) (maxL := 1) (ret := (some .boolean)) (by decide) rfl (Nat.le_of_ble_eq_true rfl) rfl rfl ?_
  intro p_ e_ s_ m_ args_ below_ meth_ c_ z_ C hr hlk hex
  obtain ⟨v1, v2, v3, v4, v5, ⟨pf, hkP, hkI⟩, ⟨pv, vd, ld, mb, nu, ho, hP, hH⟩, v8, v9⟩ := id hV
  have hkP' : dkP pf 0 (fun _ => 0) (fun _ => []) (fun _ => 0) := hkP
  have hkI' : dkI G M La pf 0 (fun _ => 0) (fun _ => []) (fun _ => []) (fun _ => 0) := hkI
  have hrI : rdI G M La false 0 0 false 0 [] (fun _ => []) (fun _ => 0) (fun _ => 0) (fun _ => 0) (fun _ => false) := v9.1
  refine xr_aload_n C dX11_hasIndex_0 rfl ?_
  refine xr_callXV0v C (x_reqOpen l hlt G sb sn sx hG La hI M hV) (cwV 0 C.1.2.2.2.2 gX11_hasIndex_X11_requireOpen rfl rfl rfl (by decide +kernel) ⟨Nat.le_of_ble_eq_true rfl, Nat.le_of_ble_eq_true rfl⟩) v1 rfl (Nat.le_of_ble_eq_true rfl) ⟨by dsimp only; omega, by dsimp only; omega⟩ dX11_hasIndex_1 (fun E9 M9 hx9 => ?_) (fun _ h9 => h9.elim)
  obtain ⟨rfl, rfl⟩ := hx9
  exact xt_out C hex hlk ⟨rfl, rfl⟩ (by omega) (by omega)
set_option maxHeartbeats 4000000 in
set_option maxRecDepth 100000 in
theorem x_found (l : Launch) (hlt : l.stackTraces = false) (G : mq_G) (sb sn : Nat) (sx : Nat → Int32) (hG : pG G sb sn sx) (La : Nat → Nat) (hI : mq_inj La) (M : mq_M) (hV : vF G M La)  : mq_MetX l yX11_found wsX11_found { frames := 7, cells := 1, slots := 6, locals := 102 } G.1.1 (mq_tys G) [.ref (La 0)] M (mq_pi (fun _ _ => False)) (fun E M2 => E = eIS ∧ M = M2) 1 6 := by
  refine mq_MetX.of (cc := cX11_found) (maxL := 1) (ret := (some .int)) (by decide) rfl (Nat.le_of_ble_eq_true rfl) rfl rfl ?_
  intro p_ e_ s_ m_ args_ below_ meth_ c_ z_ C hr hlk hex
  obtain ⟨v1, v2, v3, v4, v5, ⟨pf, hkP, hkI⟩, ⟨pv, vd, ld, mb, nu, ho, hP, hH⟩, v8, v9⟩ := id hV
  have hkP' : dkP pf 0 (fun _ => 0) (fun _ => []) (fun _ => 0) := hkP
  have hkI' : dkI G M La pf 0 (fun _ => 0) (fun _ => []) (fun _ => []) (fun _ => 0) := hkI
  have hrI : rdI G M La false 0 0 false 0 [] (fun _ => []) (fun _ => 0) (fun _ => 0) (fun _ => 0) (fun _ => false) := v9.1
  refine xr_aload_n C dX11_found_0 rfl ?_
  refine xr_callXV0v C (x_reqOpen l hlt G sb sn sx hG La hI M hV) (cwV 0 C.1.2.2.2.2 gX11_found_X11_requireOpen rfl rfl rfl (by decide +kernel) ⟨Nat.le_of_ble_eq_true rfl, Nat.le_of_ble_eq_true rfl⟩) v1 rfl (Nat.le_of_ble_eq_true rfl) ⟨by dsimp only; omega, by dsimp only; omega⟩ dX11_found_1 (fun E9 M9 hx9 => ?_) (fun _ h9 => h9.elim)
  obtain ⟨rfl, rfl⟩ := hx9
  exact xt_out C hex hlk ⟨rfl, rfl⟩ (by omega) (by omega)
set_option maxHeartbeats 4000000 in
set_option maxRecDepth 100000 in
theorem x_restore (l : Launch) (hlt : l.stackTraces = false) (G : mq_G) (sb sn : Nat) (sx : Nat → Int32) (hG : pG G sb sn sx) (La : Nat → Nat) (hI : mq_inj La) (M : mq_M) (hV : vF G M La)  : mq_MetX l yX11_restore wsX11_restore { frames := 7, cells := 1, slots := 6, locals := 136 } G.1.1 (mq_tys G) [.ref (La 0)] M (mq_pi (fun _ _ => False)) (fun E M2 => E = eIS ∧ M = M2) 1 6 := by
  refine mq_MetX.of (cc := cX11_restore) (maxL := 4) (ret := (some .int)) (by decide) rfl (Nat.le_of_ble_eq_true rfl) rfl rfl ?_
  intro p_ e_ s_ m_ args_ below_ meth_ c_ z_ C hr hlk hex
  obtain ⟨v1, v2, v3, v4, v5, ⟨pf, hkP, hkI⟩, ⟨pv, vd, ld, mb, nu, ho, hP, hH⟩, v8, v9⟩ := id hV
  have hkP' : dkP pf 0 (fun _ => 0) (fun _ => []) (fun _ => 0) := hkP
  have hkI' : dkI G M La pf 0 (fun _ => 0) (fun _ => []) (fun _ => []) (fun _ => 0) := hkI
  have hrI : rdI G M La false 0 0 false 0 [] (fun _ => []) (fun _ => 0) (fun _ => 0) (fun _ => 0) (fun _ => false) := v9.1
  refine xr_aload_n C dX11_restore_0 rfl ?_
  refine xr_callXV0v C (x_reqOpen l hlt G sb sn sx hG La hI M hV) (cwV 0 C.1.2.2.2.2 gX11_restore_X11_requireOpen rfl rfl rfl (by decide +kernel) ⟨Nat.le_of_ble_eq_true rfl, Nat.le_of_ble_eq_true rfl⟩) v1 rfl (Nat.le_of_ble_eq_true rfl) ⟨by dsimp only; omega, by dsimp only; omega⟩ dX11_restore_1 (fun E9 M9 hx9 => ?_) (fun _ h9 => h9.elim)
  obtain ⟨rfl, rfl⟩ := hx9
  exact xt_out C hex hlk ⟨rfl, rfl⟩ (by omega) (by omega)
set_option maxHeartbeats 4000000 in
set_option maxRecDepth 100000 in
theorem x_sizeOf (l : Launch) (hlt : l.stackTraces = false) (G : mq_G) (sb sn : Nat) (sx : Nat → Int32) (hG : pG G sb sn sx) (La : Nat → Nat) (hI : mq_inj La) (M : mq_M) (hV : vF G M La) (i : Int) (hir : -2147483648 ≤ i ∧ i < 2147483648) (hbad : i < 0 ∨ 16 ≤ i) : mq_MetX l yX11_sizeOf wsX11_sizeOf { frames := 7, cells := 1, slots := 6, locals := 104 } G.1.1 (mq_tys G) [.ref (La 0), .int (zI i)] M (mq_pi (fun _ _ => False)) (fun E M2 => E = eIO ∧ M = M2) 1 6 := by
  refine mq_MetX.of (cc := cX11_sizeOf) (maxL := 2) (ret := (some .int)) (by decide) rfl (Nat.le_of_ble_eq_true rfl) rfl rfl ?_
  intro p_ e_ s_ m_ args_ below_ meth_ c_ z_ C hr hlk hex
  obtain ⟨v1, v2, v3, v4, v5, ⟨pf, hkP, hkI⟩, ⟨pv, vd, ld, mb, nu, ho, hP, hH⟩, v8, v9⟩ := id hV
  have hkP' : dkP pf 0 (fun _ => 0) (fun _ => []) (fun _ => 0) := hkP
  have hkI' : dkI G M La pf 0 (fun _ => 0) (fun _ => []) (fun _ => []) (fun _ => 0) := hkI
  have hrI : rdI G M La false 0 0 false 0 [] (fun _ => []) (fun _ => 0) (fun _ => 0) (fun _ => 0) (fun _ => false) := v9.1
  refine xr_aload_n C dX11_sizeOf_0 rfl ?_
  refine xr_iload_n C dX11_sizeOf_1 rfl ?_
  refine xr_callXV1a C (x_place l hlt G sb sn sx hG La hI M hV i hir hbad) (cwV 1 C.1.2.2.2.2 gX11_sizeOf_X11_placeOnShelf rfl rfl rfl (by decide +kernel) ⟨Nat.le_of_ble_eq_true rfl, Nat.le_of_ble_eq_true rfl⟩) v1 rfl (Nat.le_of_ble_eq_true rfl) ⟨by dsimp only; omega, by dsimp only; omega⟩ dX11_sizeOf_2 (fun E9 M9 hx9 => ?_) (fun _ _ h9 => h9.elim)
  obtain ⟨rfl, rfl⟩ := hx9
  exact xt_out C hex hlk ⟨rfl, rfl⟩ (by omega) (by omega)
set_option maxHeartbeats 4000000 in
set_option maxRecDepth 100000 in
theorem x_lose (l : Launch) (hlt : l.stackTraces = false) (G : mq_G) (sb sn : Nat) (sx : Nat → Int32) (hG : pG G sb sn sx) (La : Nat → Nat) (hI : mq_inj La) (M : mq_M) (hV : vF G M La) (i : Int) (hir : -2147483648 ≤ i ∧ i < 2147483648) (hbad : i < 0 ∨ 16 ≤ i) : mq_MetX l yX11_lose wsX11_lose { frames := 7, cells := 1, slots := 6, locals := 104 } G.1.1 (mq_tys G) [.ref (La 0), .int (zI i)] M (mq_pi (fun _ _ => False)) (fun E M2 => E = eIO ∧ M = M2) 1 6 := by
  refine mq_MetX.of (cc := cX11_lose) (maxL := 4) (ret := (some .boolean)) (by decide) rfl (Nat.le_of_ble_eq_true rfl) rfl rfl ?_
  intro p_ e_ s_ m_ args_ below_ meth_ c_ z_ C hr hlk hex
  obtain ⟨v1, v2, v3, v4, v5, ⟨pf, hkP, hkI⟩, ⟨pv, vd, ld, mb, nu, ho, hP, hH⟩, v8, v9⟩ := id hV
  have hkP' : dkP pf 0 (fun _ => 0) (fun _ => []) (fun _ => 0) := hkP
  have hkI' : dkI G M La pf 0 (fun _ => 0) (fun _ => []) (fun _ => []) (fun _ => 0) := hkI
  have hrI : rdI G M La false 0 0 false 0 [] (fun _ => []) (fun _ => 0) (fun _ => 0) (fun _ => 0) (fun _ => false) := v9.1
  refine xr_aload_n C dX11_lose_0 rfl ?_
  refine xr_iload_n C dX11_lose_1 rfl ?_
  refine xr_callXV1a C (x_place l hlt G sb sn sx hG La hI M hV i hir hbad) (cwV 1 C.1.2.2.2.2 gX11_lose_X11_placeOnShelf rfl rfl rfl (by decide +kernel) ⟨Nat.le_of_ble_eq_true rfl, Nat.le_of_ble_eq_true rfl⟩) v1 rfl (Nat.le_of_ble_eq_true rfl) ⟨by dsimp only; omega, by dsimp only; omega⟩ dX11_lose_2 (fun E9 M9 hx9 => ?_) (fun _ _ h9 => h9.elim)
  obtain ⟨rfl, rfl⟩ := hx9
  exact xt_out C hex hlk ⟨rfl, rfl⟩ (by omega) (by omega)
set_option maxHeartbeats 4000000 in
set_option maxRecDepth 100000 in
theorem x_isSound (l : Launch) (hlt : l.stackTraces = false) (G : mq_G) (sb sn : Nat) (sx : Nat → Int32) (hG : pG G sb sn sx) (La : Nat → Nat) (hI : mq_inj La) (M : mq_M) (hV : vF G M La) (i : Int) (hir : -2147483648 ≤ i ∧ i < 2147483648) (hbad : i < 0 ∨ 16 ≤ i) : mq_MetX l yX11_isSound wsX11_isSound { frames := 7, cells := 1, slots := 6, locals := 104 } G.1.1 (mq_tys G) [.ref (La 0), .int (zI i)] M (mq_pi (fun _ _ => False)) (fun E M2 => E = eIO ∧ M = M2) 1 6 := by
  refine mq_MetX.of (cc := cX11_isSound) (maxL := 2) (ret := (some .boolean)) (by decide) rfl (Nat.le_of_ble_eq_true rfl) rfl rfl ?_
  intro p_ e_ s_ m_ args_ below_ meth_ c_ z_ C hr hlk hex
  obtain ⟨v1, v2, v3, v4, v5, ⟨pf, hkP, hkI⟩, ⟨pv, vd, ld, mb, nu, ho, hP, hH⟩, v8, v9⟩ := id hV
  have hkP' : dkP pf 0 (fun _ => 0) (fun _ => []) (fun _ => 0) := hkP
  have hkI' : dkI G M La pf 0 (fun _ => 0) (fun _ => []) (fun _ => []) (fun _ => 0) := hkI
  have hrI : rdI G M La false 0 0 false 0 [] (fun _ => []) (fun _ => 0) (fun _ => 0) (fun _ => 0) (fun _ => false) := v9.1
  refine xr_aload_n C dX11_isSound_0 rfl ?_
  refine xr_iload_n C dX11_isSound_1 rfl ?_
  refine xr_callXV1a C (x_place l hlt G sb sn sx hG La hI M hV i hir hbad) (cwV 1 C.1.2.2.2.2 gX11_isSound_X11_placeOnShelf rfl rfl rfl (by decide +kernel) ⟨Nat.le_of_ble_eq_true rfl, Nat.le_of_ble_eq_true rfl⟩) v1 rfl (Nat.le_of_ble_eq_true rfl) ⟨by dsimp only; omega, by dsimp only; omega⟩ dX11_isSound_2 (fun E9 M9 hx9 => ?_) (fun _ _ h9 => h9.elim)
  obtain ⟨rfl, rfl⟩ := hx9
  exact xt_out C hex hlk ⟨rfl, rfl⟩ (by omega) (by omega)
set_option maxHeartbeats 4000000 in
set_option maxRecDepth 100000 in
theorem x_numberOf (l : Launch) (hlt : l.stackTraces = false) (G : mq_G) (sb sn : Nat) (sx : Nat → Int32) (hG : pG G sb sn sx) (La : Nat → Nat) (hI : mq_inj La) (M : mq_M) (hV : vF G M La) (i : Int) (hir : -2147483648 ≤ i ∧ i < 2147483648) (hbad : i < 0 ∨ 16 ≤ i) : mq_MetX l yX11_numberOf wsX11_numberOf { frames := 7, cells := 1, slots := 6, locals := 128 } G.1.1 (mq_tys G) [.ref (La 0), .int (zI i)] M (mq_pi (fun _ _ => False)) (fun E M2 => E = eIO ∧ M = M2) 1 6 := by
  refine mq_MetX.of (cc := cX11_numberOf) (maxL := 2) (ret := (some .int)) (by decide) rfl (Nat.le_of_ble_eq_true rfl) rfl rfl ?_
  intro p_ e_ s_ m_ args_ below_ meth_ c_ z_ C hr hlk hex
  obtain ⟨v1, v2, v3, v4, v5, ⟨pf, hkP, hkI⟩, ⟨pv, vd, ld, mb, nu, ho, hP, hH⟩, v8, v9⟩ := id hV
  have hkP' : dkP pf 0 (fun _ => 0) (fun _ => []) (fun _ => 0) := hkP
  have hkI' : dkI G M La pf 0 (fun _ => 0) (fun _ => []) (fun _ => []) (fun _ => 0) := hkI
  have hrI : rdI G M La false 0 0 false 0 [] (fun _ => []) (fun _ => 0) (fun _ => 0) (fun _ => 0) (fun _ => false) := v9.1
  refine xr_aload_n C dX11_numberOf_0 rfl ?_
  refine xr_iload_n C dX11_numberOf_1 rfl ?_
  refine xr_callXV1a C (x_place l hlt G sb sn sx hG La hI M hV i hir hbad) (cwV 1 C.1.2.2.2.2 gX11_numberOf_X11_placeOnShelf rfl rfl rfl (by decide +kernel) ⟨Nat.le_of_ble_eq_true rfl, Nat.le_of_ble_eq_true rfl⟩) v1 rfl (Nat.le_of_ble_eq_true rfl) ⟨by dsimp only; omega, by dsimp only; omega⟩ dX11_numberOf_2 (fun E9 M9 hx9 => ?_) (fun _ _ h9 => h9.elim)
  obtain ⟨rfl, rfl⟩ := hx9
  exact xt_out C hex hlk ⟨rfl, rfl⟩ (by omega) (by omega)
set_option maxHeartbeats 4000000 in
set_option maxRecDepth 100000 in
theorem x_exchange (l : Launch) (hlt : l.stackTraces = false) (G : mq_G) (sb sn : Nat) (sx : Nat → Int32) (hG : pG G sb sn sx) (La : Nat → Nat) (hI : mq_inj La) (M : mq_M) (hV : vF G M La) (i : Int) (hir : -2147483648 ≤ i ∧ i < 2147483648) (q : Int) (hqr : -2147483648 ≤ q ∧ q < 2147483648) (hbad : ¬ ((0 ≤ i ∧ i < 16) ∧ (0 ≤ q ∧ q < 16))) : mq_MetX l yX11_exchange wsX11_exchange { frames := 7, cells := 1, slots := 6, locals := 104 } G.1.1 (mq_tys G) [.ref (La 0), .int (zI i), .int (zI q)] M (mq_pi (fun _ _ => False)) (fun E M2 => E = eIO ∧ M = M2) 1 6 := by
  refine mq_MetX.of (cc := cX11_exchange) (maxL := 5) (ret := (some .int)) (by decide) rfl (Nat.le_of_ble_eq_true rfl) rfl rfl ?_
  intro p_ e_ s_ m_ args_ below_ meth_ c_ z_ C hr hlk hex
  obtain ⟨v1, v2, v3, v4, v5, ⟨pf, hkP, hkI⟩, ⟨pv, vd, ld, mb, nu, ho, hP, hH⟩, v8, v9⟩ := id hV
  have hkP' : dkP pf 0 (fun _ => 0) (fun _ => []) (fun _ => 0) := hkP
  have hkI' : dkI G M La pf 0 (fun _ => 0) (fun _ => []) (fun _ => []) (fun _ => 0) := hkI
  have hrI : rdI G M La false 0 0 false 0 [] (fun _ => []) (fun _ => 0) (fun _ => 0) (fun _ => 0) (fun _ => false) := v9.1
  refine xr_aload_n C dX11_exchange_0 rfl ?_
  refine xr_iload_n C dX11_exchange_1 rfl ?_
  by_cases hb1 : i < 0 ∨ 16 ≤ i
  · refine xr_callXV1a C (x_place l hlt G sb sn sx hG La hI M hV i hir hb1) (cwV 1 C.1.2.2.2.2 gX11_exchange_X11_placeOnShelf rfl rfl rfl (by decide +kernel) ⟨Nat.le_of_ble_eq_true rfl, Nat.le_of_ble_eq_true rfl⟩) v1 rfl (Nat.le_of_ble_eq_true rfl) ⟨by dsimp only; omega, by dsimp only; omega⟩ dX11_exchange_2 (fun E9 M9 hx9 => ?_) (fun _ _ h9 => h9.elim)
    obtain ⟨rfl, rfl⟩ := hx9
    exact xt_out C hex hlk ⟨rfl, rfl⟩ (by omega) (by omega)
  · obtain ⟨j, rfl⟩ := Int.eq_ofNat_of_zero_le (show 0 ≤ i by omega)
    refine xr_callV1a C (c_place l G La hI M v1 pv _ _ vd ld mb nu ho hP hH j (by omega)) (cwV 1 C.1.2.2.2.2 gX11_exchange_X11_placeOnShelf rfl rfl rfl (by decide +kernel) ⟨Nat.le_of_ble_eq_true rfl, Nat.le_of_ble_eq_true rfl⟩) v1 rfl (Nat.le_of_ble_eq_true rfl) ⟨by dsimp only; omega, by dsimp only; omega⟩ dX11_exchange_2 (fun r9 M9 hp9 => ?_)
    obtain ⟨rfl, rfl⟩ := hp9
    refine xr_astore_n C dX11_exchange_5 (by decide) rfl ?_
    refine xr_aload_n C dX11_exchange_6 rfl ?_
    refine xr_iload_n C dX11_exchange_7 rfl ?_
    refine xr_callXV1a C (x_place l hlt G sb sn sx hG La hI M hV q hqr (by omega)) (cwV 1 C.1.2.2.2.2 gX11_exchange_X11_placeOnShelf rfl rfl rfl (by decide +kernel) ⟨Nat.le_of_ble_eq_true rfl, Nat.le_of_ble_eq_true rfl⟩) v1 rfl (Nat.le_of_ble_eq_true rfl) ⟨by dsimp only; omega, by dsimp only; omega⟩ dX11_exchange_8 (fun E9 M9 hx9 => ?_) (fun _ _ h9 => h9.elim)
    obtain ⟨rfl, rfl⟩ := hx9
    exact xt_out C hex hlk ⟨rfl, rfl⟩ (by omega) (by omega)
set_option maxHeartbeats 4000000 in
set_option maxRecDepth 100000 in
theorem x_product (l : Launch) (hlt : l.stackTraces = false) (G : mq_G) (sb sn : Nat) (sx : Nat → Int32) (hG : pG G sb sn sx) (La : Nat → Nat) (hI : mq_inj La) (M : mq_M) (hV : vF G M La) (a : Int) (har : -2147483648 ≤ a ∧ a < 2147483648) (b : Int) (hbr : -2147483648 ≤ b ∧ b < 2147483648) (hbad : ¬ (0 ≤ a ∧ a ≤ 255 ∧ 0 ≤ b ∧ b ≤ 255)) : mq_MetX l yX11_product wsX11_product { frames := 6, cells := 1, slots := 6, locals := 82 } G.1.1 (mq_tys G) [.ref (La 0), .int (zI a), .int (zI b)] M (mq_pi (fun _ _ => False)) (fun E M2 => E = eIA ∧ M = M2) 1 6 := by
  refine mq_MetX.of (cc := cX11_product) (maxL := 3) (ret := (some .int)) (by decide) rfl (Nat.le_of_ble_eq_true rfl) rfl rfl ?_
  intro p_ e_ s_ m_ args_ below_ meth_ c_ z_ C hr hlk hex
  obtain ⟨v1, v2, v3, v4, v5, ⟨pf, hkP, hkI⟩, ⟨pv, vd, ld, mb, nu, ho, hP, hH⟩, v8, v9⟩ := id hV
  have hkP' : dkP pf 0 (fun _ => 0) (fun _ => []) (fun _ => 0) := hkP
  have hkI' : dkI G M La pf 0 (fun _ => 0) (fun _ => []) (fun _ => []) (fun _ => 0) := hkI
  have hrI : rdI G M La false 0 0 false 0 [] (fun _ => []) (fun _ => 0) (fun _ => 0) (fun _ => 0) (fun _ => false) := v9.1
  refine xr_iload_n C dX11_product_0 rfl ?_
  refine xr_callS1i C (c_isByteG l G M a har) (cwS 1 C.1.2.2.2.2 gX11_product_X11_isByte rfl rfl rfl (by decide +kernel) ⟨Nat.le_of_ble_eq_true rfl, Nat.le_of_ble_eq_true rfl⟩) (Nat.le_of_ble_eq_true rfl) ⟨by dsimp only; omega, by dsimp only; omega⟩ dX11_product_1 (fun r1 M9 hp9 => ?_)
  obtain ⟨rfl, rfl⟩ := hp9
  by_cases hb1 : 0 ≤ a ∧ a ≤ 255
  · rw [if_pos hb1]
    refine xr_if_eq C dX11_product_4 rfl (by decide) (fun hq => absurd hq (by decide)) (fun _ => ?_)
    refine xr_iload_n C dX11_product_7 rfl ?_
    refine xr_callS1i C (c_isByteG l G M b hbr) (cwS 1 C.1.2.2.2.2 gX11_product_X11_isByte rfl rfl rfl (by decide +kernel) ⟨Nat.le_of_ble_eq_true rfl, Nat.le_of_ble_eq_true rfl⟩) (Nat.le_of_ble_eq_true rfl) ⟨by dsimp only; omega, by dsimp only; omega⟩ dX11_product_8 (fun r2 M9 hp9 => ?_)
    obtain ⟨rfl, rfl⟩ := hp9
    rw [if_neg (show ¬ (0 ≤ b ∧ b ≤ 255) from fun hb2 => hbad ⟨hb1.1, hb1.2, hb2.1, hb2.2⟩)]
    refine xr_if_ne C dX11_product_11 rfl (by decide) (fun hq => absurd hq (by decide)) (fun _ => ?_)
    exact pp_throw hG C hlt hex (eIA, 57, 61) (by decide +kernel) (text := "a factor is not a byte") (is := 59) (by decide +kernel) (by decide +kernel) (by decide +kernel) (fun w hw => List.mem_cons_of_mem _ (List.mem_append_right _ hw)) dX11_product_14 dX11_product_17 dX11_product_18 dX11_product_20 dX11_product_23 (by dsimp only; omega) (Nat.le_of_ble_eq_true rfl) (by dsimp only; omega) (by dsimp only; omega) hlk ⟨rfl, rfl⟩ (by omega) (by omega)
  · rw [if_neg hb1]
    refine xr_if_eq C dX11_product_4 rfl (by decide) (fun _ => ?_) (fun hq => absurd hq (by decide))
    exact pp_throw hG C hlt hex (eIA, 57, 61) (by decide +kernel) (text := "a factor is not a byte") (is := 59) (by decide +kernel) (by decide +kernel) (by decide +kernel) (fun w hw => List.mem_cons_of_mem _ (List.mem_append_right _ hw)) dX11_product_14 dX11_product_17 dX11_product_18 dX11_product_20 dX11_product_23 (by dsimp only; omega) (Nat.le_of_ble_eq_true rfl) (by dsimp only; omega) (by dsimp only; omega) hlk ⟨rfl, rfl⟩ (by omega) (by omega)
set_option maxHeartbeats 4000000 in
set_option maxRecDepth 100000 in
theorem x_inverse (l : Launch) (hlt : l.stackTraces = false) (G : mq_G) (sb sn : Nat) (sx : Nat → Int32) (hG : pG G sb sn sx) (La : Nat → Nat) (hI : mq_inj La) (M : mq_M) (hV : vF G M La) (a : Int) (har : -2147483648 ≤ a ∧ a < 2147483648) (hbad : ¬ (1 ≤ a ∧ a ≤ 255)) : mq_MetX l yX11_inverse wsX11_inverse { frames := 6, cells := 1, slots := 6, locals := 82 } G.1.1 (mq_tys G) [.ref (La 0), .int (zI a)] M (mq_pi (fun _ _ => False)) (fun E M2 => E = eIA ∧ M = M2) 1 6 := by
  refine mq_MetX.of (cc := cX11_inverse) (maxL := 2) (ret := (some .int)) (by decide) rfl (Nat.le_of_ble_eq_true rfl) rfl rfl ?_
  intro p_ e_ s_ m_ args_ below_ meth_ c_ z_ C hr hlk hex
  obtain ⟨v1, v2, v3, v4, v5, ⟨pf, hkP, hkI⟩, ⟨pv, vd, ld, mb, nu, ho, hP, hH⟩, v8, v9⟩ := id hV
  have hkP' : dkP pf 0 (fun _ => 0) (fun _ => []) (fun _ => 0) := hkP
  have hkI' : dkI G M La pf 0 (fun _ => 0) (fun _ => []) (fun _ => []) (fun _ => 0) := hkI
  have hrI : rdI G M La false 0 0 false 0 [] (fun _ => []) (fun _ => 0) (fun _ => 0) (fun _ => 0) (fun _ => false) := v9.1
  refine xr_iload_n C dX11_inverse_0 rfl ?_
  refine xr_callS1i C (c_isByteG l G M a har) (cwS 1 C.1.2.2.2.2 gX11_inverse_X11_isByte rfl rfl rfl (by decide +kernel) ⟨Nat.le_of_ble_eq_true rfl, Nat.le_of_ble_eq_true rfl⟩) (Nat.le_of_ble_eq_true rfl) ⟨by dsimp only; omega, by dsimp only; omega⟩ dX11_inverse_1 (fun r1 M9 hp9 => ?_)
  obtain ⟨rfl, rfl⟩ := hp9
  by_cases hb1 : 0 ≤ a ∧ a ≤ 255
  · rw [if_pos hb1]
    refine xr_if_eq C dX11_inverse_4 rfl (by decide) (fun hq => absurd hq (by decide)) (fun _ => ?_)
    refine xr_iload_n C dX11_inverse_7 rfl ?_
    refine xr_if_ne C dX11_inverse_8 rfl (by first | omega | (dsimp only; omega)) (fun hq2 => ?_) (fun hq2 => ?_)
    · refine xr_aload_n C dX11_inverse_21 rfl ?_
      refine xr_get C (Cn := RX11) (T := TX11) (N := 5) (by decide +kernel) v1 rfl 0 (by decide) (C.1.2.2.2.2 (.fieldLink RX11 15 "OssuaryVault" "field" "LOssuaryVault$Field;") (by decide +kernel)) (fun _ h => h) rfl dX11_inverse_22 ?_
      refine xr_iload_n C dX11_inverse_25 rfl ?_
      exact absurd hbad (by omega)
    · exact pp_throw hG C hlt hex (eIA, 57, 61) (by decide +kernel) (text := "there is no inverse of it") (is := 68) (by decide +kernel) (by decide +kernel) (by decide +kernel) (fun w hw => List.mem_cons_of_mem _ (List.mem_append_right _ hw)) dX11_inverse_11 dX11_inverse_14 dX11_inverse_15 dX11_inverse_17 dX11_inverse_20 (by dsimp only; omega) (Nat.le_of_ble_eq_true rfl) (by dsimp only; omega) (by dsimp only; omega) hlk ⟨rfl, rfl⟩ (by omega) (by omega)
  · rw [if_neg hb1]
    refine xr_if_eq C dX11_inverse_4 rfl (by decide) (fun _ => ?_) (fun hq => absurd hq (by decide))
    exact pp_throw hG C hlt hex (eIA, 57, 61) (by decide +kernel) (text := "there is no inverse of it") (is := 68) (by decide +kernel) (by decide +kernel) (by decide +kernel) (fun w hw => List.mem_cons_of_mem _ (List.mem_append_right _ hw)) dX11_inverse_11 dX11_inverse_14 dX11_inverse_15 dX11_inverse_17 dX11_inverse_20 (by dsimp only; omega) (Nat.le_of_ble_eq_true rfl) (by dsimp only; omega) (by dsimp only; omega) hlk ⟨rfl, rfl⟩ (by omega) (by omega)
set_option maxHeartbeats 4000000 in
set_option maxRecDepth 100000 in
theorem x_power (l : Launch) (hlt : l.stackTraces = false) (G : mq_G) (sb sn : Nat) (sx : Nat → Int32) (hG : pG G sb sn sx) (La : Nat → Nat) (hI : mq_inj La) (M : mq_M) (hV : vF G M La) (a : Int) (har : -2147483648 ≤ a ∧ a < 2147483648) (n : Int) (hnr : -2147483648 ≤ n ∧ n < 2147483648) (hbad : ¬ (0 ≤ a ∧ a ≤ 255 ∧ 0 ≤ n ∧ n ≤ 1000)) : mq_MetX l yX11_power wsX11_power { frames := 6, cells := 1, slots := 6, locals := 82 } G.1.1 (mq_tys G) [.ref (La 0), .int (zI a), .int (zI n)] M (mq_pi (fun _ _ => False)) (fun E M2 => E = eIA ∧ M = M2) 1 6 := by
  refine mq_MetX.of (cc := cX11_power) (maxL := 3) (ret := (some .int)) (by decide) rfl (Nat.le_of_ble_eq_true rfl) rfl rfl ?_
  intro p_ e_ s_ m_ args_ below_ meth_ c_ z_ C hr hlk hex
  obtain ⟨v1, v2, v3, v4, v5, ⟨pf, hkP, hkI⟩, ⟨pv, vd, ld, mb, nu, ho, hP, hH⟩, v8, v9⟩ := id hV
  have hkP' : dkP pf 0 (fun _ => 0) (fun _ => []) (fun _ => 0) := hkP
  have hkI' : dkI G M La pf 0 (fun _ => 0) (fun _ => []) (fun _ => []) (fun _ => 0) := hkI
  have hrI : rdI G M La false 0 0 false 0 [] (fun _ => []) (fun _ => 0) (fun _ => 0) (fun _ => 0) (fun _ => false) := v9.1
  refine xr_iload_n C dX11_power_0 rfl ?_
  refine xr_callS1i C (c_isByteG l G M a har) (cwS 1 C.1.2.2.2.2 gX11_power_X11_isByte rfl rfl rfl (by decide +kernel) ⟨Nat.le_of_ble_eq_true rfl, Nat.le_of_ble_eq_true rfl⟩) (Nat.le_of_ble_eq_true rfl) ⟨by dsimp only; omega, by dsimp only; omega⟩ dX11_power_1 (fun r1 M9 hp9 => ?_)
  obtain ⟨rfl, rfl⟩ := hp9
  by_cases hb1 : 0 ≤ a ∧ a ≤ 255
  · rw [if_pos hb1]
    refine xr_if_eq C dX11_power_4 rfl (by decide) (fun hq => absurd hq (by decide)) (fun _ => ?_)
    refine xr_iload_n C dX11_power_7 rfl ?_
    refine xr_if_lt C dX11_power_8 rfl (by first | omega | (dsimp only; omega)) (fun hq2 => ?_) (fun hq2 => ?_)
    · exact pp_throw hG C hlt hex (eIA, 57, 61) (by decide +kernel) (text := "no such power") (is := 74) (by decide +kernel) (by decide +kernel) (by decide +kernel) (fun w hw => List.mem_cons_of_mem _ (List.mem_append_right _ hw)) dX11_power_18 dX11_power_21 dX11_power_22 dX11_power_24 dX11_power_27 (by dsimp only; omega) (Nat.le_of_ble_eq_true rfl) (by dsimp only; omega) (by dsimp only; omega) hlk ⟨rfl, rfl⟩ (by omega) (by omega)
    · refine xr_iload_n C dX11_power_11 rfl ?_
      refine xr_sipush (n := 1000) C dX11_power_12 (by decide +kernel) ?_
      refine xr_icmp_le C dX11_power_15 rfl (by first | omega | (dsimp only; omega)) (by first | omega | (dsimp only; omega)) (fun hq3 => ?_) (fun hq3 => ?_)
      · refine xr_aload_n C dX11_power_28 rfl ?_
        refine xr_get C (Cn := RX11) (T := TX11) (N := 5) (by decide +kernel) v1 rfl 0 (by decide) (C.1.2.2.2.2 (.fieldLink RX11 15 "OssuaryVault" "field" "LOssuaryVault$Field;") (by decide +kernel)) (fun _ h => h) rfl dX11_power_29 ?_
        refine xr_iload_n C dX11_power_32 rfl ?_
        refine xr_iload_n C dX11_power_33 rfl ?_
        exact absurd hbad (by omega)
      · exact pp_throw hG C hlt hex (eIA, 57, 61) (by decide +kernel) (text := "no such power") (is := 74) (by decide +kernel) (by decide +kernel) (by decide +kernel) (fun w hw => List.mem_cons_of_mem _ (List.mem_append_right _ hw)) dX11_power_18 dX11_power_21 dX11_power_22 dX11_power_24 dX11_power_27 (by dsimp only; omega) (Nat.le_of_ble_eq_true rfl) (by dsimp only; omega) (by dsimp only; omega) hlk ⟨rfl, rfl⟩ (by omega) (by omega)
  · rw [if_neg hb1]
    refine xr_if_eq C dX11_power_4 rfl (by decide) (fun _ => ?_) (fun hq => absurd hq (by decide))
    exact pp_throw hG C hlt hex (eIA, 57, 61) (by decide +kernel) (text := "no such power") (is := 74) (by decide +kernel) (by decide +kernel) (by decide +kernel) (fun w hw => List.mem_cons_of_mem _ (List.mem_append_right _ hw)) dX11_power_18 dX11_power_21 dX11_power_22 dX11_power_24 dX11_power_27 (by dsimp only; omega) (Nat.le_of_ble_eq_true rfl) (by dsimp only; omega) (by dsimp only; omega) hlk ⟨rfl, rfl⟩ (by omega) (by omega)
set_option maxHeartbeats 4000000 in
set_option maxRecDepth 100000 in
theorem x_coefficient (l : Launch) (hlt : l.stackTraces = false) (G : mq_G) (sb sn : Nat) (sx : Nat → Int32) (hG : pG G sb sn sx) (La : Nat → Nat) (hI : mq_inj La) (M : mq_M) (hV : vF G M La) (j : Int) (hjr : -2147483648 ≤ j ∧ j < 2147483648) (d : Int) (hdr : -2147483648 ≤ d ∧ d < 2147483648) (hbad : ¬ (0 ≤ j ∧ j < 6 ∧ 0 ≤ d ∧ d < 10)) : mq_MetX l yX11_coefficient wsX11_coefficient { frames := 6, cells := 1, slots := 6, locals := 82 } G.1.1 (mq_tys G) [.ref (La 0), .int (zI j), .int (zI d)] M (mq_pi (fun _ _ => False)) (fun E M2 => E = eIO ∧ M = M2) 1 6 := by
  refine mq_MetX.of (cc := cX11_coefficient) (maxL := 3) (ret := (some .int)) (by decide) rfl (Nat.le_of_ble_eq_true rfl) rfl rfl ?_
  intro p_ e_ s_ m_ args_ below_ meth_ c_ z_ C hr hlk hex
  obtain ⟨v1, v2, v3, v4, v5, ⟨pf, hkP, hkI⟩, ⟨pv, vd, ld, mb, nu, ho, hP, hH⟩, v8, v9⟩ := id hV
  have hkP' : dkP pf 0 (fun _ => 0) (fun _ => []) (fun _ => 0) := hkP
  have hkI' : dkI G M La pf 0 (fun _ => 0) (fun _ => []) (fun _ => []) (fun _ => 0) := hkI
  have hrI : rdI G M La false 0 0 false 0 [] (fun _ => []) (fun _ => 0) (fun _ => 0) (fun _ => 0) (fun _ => false) := v9.1
  refine xr_iload_n C dX11_coefficient_0 rfl ?_
  refine xr_if_lt C dX11_coefficient_1 rfl (by first | omega | (dsimp only; omega)) (fun hq1 => ?_) (fun hq1 => ?_)
  · exact pp_throw hG C hlt hex (eIO, 79, 83) (by decide +kernel) (text := "no such volume") (is := 81) (by decide +kernel) (by decide +kernel) (by decide +kernel) (fun w hw => List.mem_cons_of_mem _ (List.mem_append_right _ hw)) dX11_coefficient_20 dX11_coefficient_23 dX11_coefficient_24 dX11_coefficient_26 dX11_coefficient_29 (by dsimp only; omega) (Nat.le_of_ble_eq_true rfl) (by dsimp only; omega) (by dsimp only; omega) hlk ⟨rfl, rfl⟩ (by omega) (by omega)
  · refine xr_iload_n C dX11_coefficient_4 rfl ?_
    refine xr_bipush (n := 6) C dX11_coefficient_5 (by decide +kernel) ?_
    refine xr_icmp_ge C dX11_coefficient_7 rfl (by first | omega | (dsimp only; omega)) (by first | omega | (dsimp only; omega)) (fun hq2 => ?_) (fun hq2 => ?_)
    · exact pp_throw hG C hlt hex (eIO, 79, 83) (by decide +kernel) (text := "no such volume") (is := 81) (by decide +kernel) (by decide +kernel) (by decide +kernel) (fun w hw => List.mem_cons_of_mem _ (List.mem_append_right _ hw)) dX11_coefficient_20 dX11_coefficient_23 dX11_coefficient_24 dX11_coefficient_26 dX11_coefficient_29 (by dsimp only; omega) (Nat.le_of_ble_eq_true rfl) (by dsimp only; omega) (by dsimp only; omega) hlk ⟨rfl, rfl⟩ (by omega) (by omega)
    · refine xr_iload_n C dX11_coefficient_10 rfl ?_
      refine xr_if_lt C dX11_coefficient_11 rfl (by first | omega | (dsimp only; omega)) (fun hq3 => ?_) (fun hq3 => ?_)
      · exact pp_throw hG C hlt hex (eIO, 79, 83) (by decide +kernel) (text := "no such volume") (is := 81) (by decide +kernel) (by decide +kernel) (by decide +kernel) (fun w hw => List.mem_cons_of_mem _ (List.mem_append_right _ hw)) dX11_coefficient_20 dX11_coefficient_23 dX11_coefficient_24 dX11_coefficient_26 dX11_coefficient_29 (by dsimp only; omega) (Nat.le_of_ble_eq_true rfl) (by dsimp only; omega) (by dsimp only; omega) hlk ⟨rfl, rfl⟩ (by omega) (by omega)
      · refine xr_iload_n C dX11_coefficient_14 rfl ?_
        refine xr_bipush (n := 10) C dX11_coefficient_15 (by decide +kernel) ?_
        refine xr_icmp_lt C dX11_coefficient_17 rfl (by first | omega | (dsimp only; omega)) (by first | omega | (dsimp only; omega)) (fun hq4 => ?_) (fun hq4 => ?_)
        · refine xr_aload_n C dX11_coefficient_30 rfl ?_
          refine xr_get C (Cn := RX11) (T := TX11) (N := 5) (by decide +kernel) v1 rfl 0 (by decide) (C.1.2.2.2.2 (.fieldLink RX11 15 "OssuaryVault" "field" "LOssuaryVault$Field;") (by decide +kernel)) (fun _ h => h) rfl dX11_coefficient_31 ?_
          refine xr_iload_n C dX11_coefficient_34 rfl ?_
          refine xr_iload_n C dX11_coefficient_35 rfl ?_
          exact absurd hbad (by omega)
        · exact pp_throw hG C hlt hex (eIO, 79, 83) (by decide +kernel) (text := "no such volume") (is := 81) (by decide +kernel) (by decide +kernel) (by decide +kernel) (fun w hw => List.mem_cons_of_mem _ (List.mem_append_right _ hw)) dX11_coefficient_20 dX11_coefficient_23 dX11_coefficient_24 dX11_coefficient_26 dX11_coefficient_29 (by dsimp only; omega) (Nat.le_of_ble_eq_true rfl) (by dsimp only; omega) (by dsimp only; omega) hlk ⟨rfl, rfl⟩ (by omega) (by omega)
set_option maxHeartbeats 4000000 in
set_option maxRecDepth 100000 in
theorem x_write (l : Launch) (hlt : l.stackTraces = false) (G : mq_G) (sb sn : Nat) (sx : Nat → Int32) (hG : pG G sb sn sx) (La : Nat → Nat) (hI : mq_inj La) (M : mq_M) (hV : vF G M La) (v : Int) (hvr : -2147483648 ≤ v ∧ v < 2147483648) (t : Int) (htr : -2147483648 ≤ t ∧ t < 2147483648) (hbad : ¬ (0 ≤ v ∧ v ≤ 255 ∧ 1 ≤ t ∧ t ≤ 200)) : mq_MetX l yX11_write wsX11_write { frames := 6, cells := 1, slots := 6, locals := 82 } G.1.1 (mq_tys G) [.ref (La 0), .int (zI v), .int (zI t)] M (mq_pi (fun _ _ => False)) (fun E M2 => E = eIA ∧ M = M2) 1 6 := by
  refine mq_MetX.of (cc := cX11_write) (maxL := 3) (ret := (some .int)) (by decide) rfl (Nat.le_of_ble_eq_true rfl) rfl rfl ?_
  intro p_ e_ s_ m_ args_ below_ meth_ c_ z_ C hr hlk hex
  obtain ⟨v1, v2, v3, v4, v5, ⟨pf, hkP, hkI⟩, ⟨pv, vd, ld, mb, nu, ho, hP, hH⟩, v8, v9⟩ := id hV
  have hkP' : dkP pf 0 (fun _ => 0) (fun _ => []) (fun _ => 0) := hkP
  have hkI' : dkI G M La pf 0 (fun _ => 0) (fun _ => []) (fun _ => []) (fun _ => 0) := hkI
  have hrI : rdI G M La false 0 0 false 0 [] (fun _ => []) (fun _ => 0) (fun _ => 0) (fun _ => 0) (fun _ => false) := v9.1
  refine xr_iload_n C dX11_write_0 rfl ?_
  refine xr_callS1i C (c_isByteG l G M v hvr) (cwS 1 C.1.2.2.2.2 gX11_write_X11_isByte rfl rfl rfl (by decide +kernel) ⟨Nat.le_of_ble_eq_true rfl, Nat.le_of_ble_eq_true rfl⟩) (Nat.le_of_ble_eq_true rfl) ⟨by dsimp only; omega, by dsimp only; omega⟩ dX11_write_1 (fun r1 M9 hp9 => ?_)
  obtain ⟨rfl, rfl⟩ := hp9
  by_cases hb1 : 0 ≤ v ∧ v ≤ 255
  · rw [if_pos hb1]
    refine xr_if_eq C dX11_write_4 rfl (by decide) (fun hq => absurd hq (by decide)) (fun _ => ?_)
    refine xr_iload_n C dX11_write_7 rfl ?_
    refine xr_iconst (n := 1) C dX11_write_8 (by decide +kernel) ?_
    refine xr_icmp_lt C dX11_write_9 rfl (by first | omega | (dsimp only; omega)) (by first | omega | (dsimp only; omega)) (fun hq2 => ?_) (fun hq2 => ?_)
    · exact pp_throw hG C hlt hex (eIA, 57, 61) (by decide +kernel) (text := "no byte, or not so often") (is := 87) (by decide +kernel) (by decide +kernel) (by decide +kernel) (fun w hw => List.mem_cons_of_mem _ (List.mem_append_left _ (List.mem_append_right _ hw))) dX11_write_19 dX11_write_22 dX11_write_23 dX11_write_25 dX11_write_28 (by dsimp only; omega) (Nat.le_of_ble_eq_true rfl) (by dsimp only; omega) (by dsimp only; omega) hlk ⟨rfl, rfl⟩ (by omega) (by omega)
    · refine xr_iload_n C dX11_write_12 rfl ?_
      refine xr_sipush (n := 200) C dX11_write_13 (by decide +kernel) ?_
      refine xr_icmp_le C dX11_write_16 rfl (by first | omega | (dsimp only; omega)) (by first | omega | (dsimp only; omega)) (fun hq3 => ?_) (fun hq3 => ?_)
      · refine xr_aload_n C dX11_write_29 rfl ?_
        refine xr_get C (Cn := RX11) (T := TX11) (N := 5) (by decide +kernel) v1 rfl 1 (by decide) (C.1.2.2.2.2 (.fieldLink RX11 24 "OssuaryVault" "desk" "LOssuaryVault$Desk;") (by decide +kernel)) (fun _ h => h) rfl dX11_write_30 ?_
        exact absurd hbad (by omega)
      · exact pp_throw hG C hlt hex (eIA, 57, 61) (by decide +kernel) (text := "no byte, or not so often") (is := 87) (by decide +kernel) (by decide +kernel) (by decide +kernel) (fun w hw => List.mem_cons_of_mem _ (List.mem_append_left _ (List.mem_append_right _ hw))) dX11_write_19 dX11_write_22 dX11_write_23 dX11_write_25 dX11_write_28 (by dsimp only; omega) (Nat.le_of_ble_eq_true rfl) (by dsimp only; omega) (by dsimp only; omega) hlk ⟨rfl, rfl⟩ (by omega) (by omega)
  · rw [if_neg hb1]
    refine xr_if_eq C dX11_write_4 rfl (by decide) (fun _ => ?_) (fun hq => absurd hq (by decide))
    exact pp_throw hG C hlt hex (eIA, 57, 61) (by decide +kernel) (text := "no byte, or not so often") (is := 87) (by decide +kernel) (by decide +kernel) (by decide +kernel) (fun w hw => List.mem_cons_of_mem _ (List.mem_append_left _ (List.mem_append_right _ hw))) dX11_write_19 dX11_write_22 dX11_write_23 dX11_write_25 dX11_write_28 (by dsimp only; omega) (Nat.le_of_ble_eq_true rfl) (by dsimp only; omega) (by dsimp only; omega) hlk ⟨rfl, rfl⟩ (by omega) (by omega)
set_option maxHeartbeats 4000000 in
set_option maxRecDepth 100000 in
theorem x_noise (l : Launch) (hlt : l.stackTraces = false) (G : mq_G) (sb sn : Nat) (sx : Nat → Int32) (hG : pG G sb sn sx) (La : Nat → Nat) (hI : mq_inj La) (M : mq_M) (hV : vF G M La) (v : Int) (hvr : -2147483648 ≤ v ∧ v < 2147483648) (t : Int) (htr : -2147483648 ≤ t ∧ t < 2147483648) (hbad : ¬ (0 ≤ v ∧ v ≤ 65535 ∧ 1 ≤ t ∧ t ≤ 240)) : mq_MetX l yX11_noise wsX11_noise { frames := 6, cells := 1, slots := 6, locals := 82 } G.1.1 (mq_tys G) [.ref (La 0), .int (zI v), .int (zI t)] M (mq_pi (fun _ _ => False)) (fun E M2 => E = eIA ∧ M = M2) 1 6 := by
  refine mq_MetX.of (cc := cX11_noise) (maxL := 5) (ret := (some .int)) (by decide) rfl (Nat.le_of_ble_eq_true rfl) rfl rfl ?_
  intro p_ e_ s_ m_ args_ below_ meth_ c_ z_ C hr hlk hex
  obtain ⟨v1, v2, v3, v4, v5, ⟨pf, hkP, hkI⟩, ⟨pv, vd, ld, mb, nu, ho, hP, hH⟩, v8, v9⟩ := id hV
  have hkP' : dkP pf 0 (fun _ => 0) (fun _ => []) (fun _ => 0) := hkP
  have hkI' : dkI G M La pf 0 (fun _ => 0) (fun _ => []) (fun _ => []) (fun _ => 0) := hkI
  have hrI : rdI G M La false 0 0 false 0 [] (fun _ => []) (fun _ => 0) (fun _ => 0) (fun _ => 0) (fun _ => false) := v9.1
  refine xr_iload_n C dX11_noise_0 rfl ?_
  refine xr_callS1i C (c_isWordG l G M v hvr) (cwS 1 C.1.2.2.2.2 gX11_noise_X11_isWord rfl rfl rfl (by decide +kernel) ⟨Nat.le_of_ble_eq_true rfl, Nat.le_of_ble_eq_true rfl⟩) (Nat.le_of_ble_eq_true rfl) ⟨by dsimp only; omega, by dsimp only; omega⟩ dX11_noise_1 (fun r1 M9 hp9 => ?_)
  obtain ⟨rfl, rfl⟩ := hp9
  by_cases hb1 : 0 ≤ v ∧ v ≤ 65535
  · rw [if_pos hb1]
    refine xr_if_eq C dX11_noise_4 rfl (by decide) (fun hq => absurd hq (by decide)) (fun _ => ?_)
    refine xr_iload_n C dX11_noise_7 rfl ?_
    refine xr_iconst (n := 1) C dX11_noise_8 (by decide +kernel) ?_
    refine xr_icmp_lt C dX11_noise_9 rfl (by first | omega | (dsimp only; omega)) (by first | omega | (dsimp only; omega)) (fun hq2 => ?_) (fun hq2 => ?_)
    · exact pp_throw hG C hlt hex (eIA, 57, 61) (by decide +kernel) (text := "no such seed, or not so many") (is := 111) (by decide +kernel) (by decide +kernel) (by decide +kernel) (fun w hw => List.mem_cons_of_mem _ (List.mem_append_left _ (List.mem_append_right _ hw))) dX11_noise_19 dX11_noise_22 dX11_noise_23 dX11_noise_25 dX11_noise_28 (by dsimp only; omega) (Nat.le_of_ble_eq_true rfl) (by dsimp only; omega) (by dsimp only; omega) hlk ⟨rfl, rfl⟩ (by omega) (by omega)
    · refine xr_iload_n C dX11_noise_12 rfl ?_
      refine xr_sipush (n := 240) C dX11_noise_13 (by decide +kernel) ?_
      refine xr_icmp_le C dX11_noise_16 rfl (by first | omega | (dsimp only; omega)) (by first | omega | (dsimp only; omega)) (fun hq3 => ?_) (fun hq3 => ?_)
      · refine xr_aload_n C dX11_noise_29 rfl ?_
        refine xr_get C (Cn := RX11) (T := TX11) (N := 5) (by decide +kernel) v1 rfl 1 (by decide) (C.1.2.2.2.2 (.fieldLink RX11 24 "OssuaryVault" "desk" "LOssuaryVault$Desk;") (by decide +kernel)) (fun _ h => h) rfl dX11_noise_30 ?_
        exact absurd hbad (by omega)
      · exact pp_throw hG C hlt hex (eIA, 57, 61) (by decide +kernel) (text := "no such seed, or not so many") (is := 111) (by decide +kernel) (by decide +kernel) (by decide +kernel) (fun w hw => List.mem_cons_of_mem _ (List.mem_append_left _ (List.mem_append_right _ hw))) dX11_noise_19 dX11_noise_22 dX11_noise_23 dX11_noise_25 dX11_noise_28 (by dsimp only; omega) (Nat.le_of_ble_eq_true rfl) (by dsimp only; omega) (by dsimp only; omega) hlk ⟨rfl, rfl⟩ (by omega) (by omega)
  · rw [if_neg hb1]
    refine xr_if_eq C dX11_noise_4 rfl (by decide) (fun _ => ?_) (fun hq => absurd hq (by decide))
    exact pp_throw hG C hlt hex (eIA, 57, 61) (by decide +kernel) (text := "no such seed, or not so many") (is := 111) (by decide +kernel) (by decide +kernel) (by decide +kernel) (fun w hw => List.mem_cons_of_mem _ (List.mem_append_left _ (List.mem_append_right _ hw))) dX11_noise_19 dX11_noise_22 dX11_noise_23 dX11_noise_25 dX11_noise_28 (by dsimp only; omega) (Nat.le_of_ble_eq_true rfl) (by dsimp only; omega) (by dsimp only; omega) hlk ⟨rfl, rfl⟩ (by omega) (by omega)
set_option maxHeartbeats 4000000 in
set_option maxRecDepth 100000 in
theorem x_store (l : Launch) (hlt : l.stackTraces = false) (G : mq_G) (sb sn : Nat) (sx : Nat → Int32) (hG : pG G sb sn sx) (La : Nat → Nat) (hI : mq_inj La) (M : mq_M) (hV : vF G M La) (v : Int) (hvr : -2147483648 ≤ v ∧ v < 2147483648) (hbad : ¬ (0 ≤ v ∧ v ≤ 65535)) : mq_MetX l yX11_store wsX11_store { frames := 6, cells := 1, slots := 6, locals := 136 } G.1.1 (mq_tys G) [.ref (La 0), .int (zI v)] M (mq_pi (fun _ _ => False)) (fun E M2 => E = eIA ∧ M = M2) 1 6 := by
  refine mq_MetX.of (cc := cX11_store) (maxL := 2) (ret := (some .int)) (by decide) rfl (Nat.le_of_ble_eq_true rfl) rfl rfl ?_
  intro p_ e_ s_ m_ args_ below_ meth_ c_ z_ C hr hlk hex
  obtain ⟨v1, v2, v3, v4, v5, ⟨pf, hkP, hkI⟩, ⟨pv, vd, ld, mb, nu, ho, hP, hH⟩, v8, v9⟩ := id hV
  have hkP' : dkP pf 0 (fun _ => 0) (fun _ => []) (fun _ => 0) := hkP
  have hkI' : dkI G M La pf 0 (fun _ => 0) (fun _ => []) (fun _ => []) (fun _ => 0) := hkI
  have hrI : rdI G M La false 0 0 false 0 [] (fun _ => []) (fun _ => 0) (fun _ => 0) (fun _ => 0) (fun _ => false) := v9.1
  refine xr_iload_n C dX11_store_0 rfl ?_
  refine xr_callS1i C (c_isWordG l G M v hvr) (cwS 1 C.1.2.2.2.2 gX11_store_X11_isWord rfl rfl rfl (by decide +kernel) ⟨Nat.le_of_ble_eq_true rfl, Nat.le_of_ble_eq_true rfl⟩) (Nat.le_of_ble_eq_true rfl) ⟨by dsimp only; omega, by dsimp only; omega⟩ dX11_store_1 (fun r1 M9 hp9 => ?_)
  obtain ⟨rfl, rfl⟩ := hp9
  by_cases hb1 : 0 ≤ v ∧ v ≤ 65535
  · rw [if_pos hb1]
    refine xr_if_ne C dX11_store_4 rfl (by decide) (fun _ => ?_) (fun hq => absurd hq (by decide))
    refine xr_aload_n C dX11_store_17 rfl ?_
    refine xr_get C (Cn := RX11) (T := TX11) (N := 5) (by decide +kernel) v1 rfl 1 (by decide) (C.1.2.2.2.2 (.fieldLink RX11 24 "OssuaryVault" "desk" "LOssuaryVault$Desk;") (by decide +kernel)) (fun _ h => h) rfl dX11_store_18 ?_
    refine xr_iload_n C dX11_store_21 rfl ?_
    exact absurd hbad (by omega)
  · rw [if_neg hb1]
    refine xr_if_ne C dX11_store_4 rfl (by decide) (fun hq => absurd hq (by decide)) (fun _ => ?_)
    exact pp_throw hG C hlt hex (eIA, 57, 61) (by decide +kernel) (text := "no such key") (is := 123) (by decide +kernel) (by decide +kernel) (by decide +kernel) (fun w hw => List.mem_cons_of_mem _ (List.mem_append_left _ (List.mem_append_right _ hw))) dX11_store_7 dX11_store_10 dX11_store_11 dX11_store_13 dX11_store_16 (by dsimp only; omega) (Nat.le_of_ble_eq_true rfl) (by dsimp only; omega) (by dsimp only; omega) hlk ⟨rfl, rfl⟩ (by omega) (by omega)
set_option maxHeartbeats 4000000 in
set_option maxRecDepth 100000 in
theorem x_build (l : Launch) (hlt : l.stackTraces = false) (G : mq_G) (sb sn : Nat) (sx : Nat → Int32) (hG : pG G sb sn sx) (La : Nat → Nat) (hI : mq_inj La) (M : mq_M) (hV : vF G M La) (d : Int) (hdr : -2147483648 ≤ d ∧ d < 2147483648) (p : Int) (hpr : -2147483648 ≤ p ∧ p < 2147483648) (hbad : ¬ (1 ≤ d ∧ d ≤ 10 ∧ 0 ≤ p ∧ p ≤ 6)) : mq_MetX l yX11_build wsX11_build { frames := 6, cells := 1, slots := 6, locals := 143 } G.1.1 (mq_tys G) [.ref (La 0), .int (zI d), .int (zI p)] M (mq_pi (fun _ _ => False)) (fun E M2 => E = eIA ∧ M = M2) 1 6 := by
  refine mq_MetX.of (cc := cX11_build) (maxL := 4) (ret := (some .int)) (by decide) rfl (Nat.le_of_ble_eq_true rfl) rfl rfl ?_
  intro p_ e_ s_ m_ args_ below_ meth_ c_ z_ C hr hlk hex
  obtain ⟨v1, v2, v3, v4, v5, ⟨pf, hkP, hkI⟩, ⟨pv, vd, ld, mb, nu, ho, hP, hH⟩, v8, v9⟩ := id hV
  have hkP' : dkP pf 0 (fun _ => 0) (fun _ => []) (fun _ => 0) := hkP
  have hkI' : dkI G M La pf 0 (fun _ => 0) (fun _ => []) (fun _ => []) (fun _ => 0) := hkI
  have hrI : rdI G M La false 0 0 false 0 [] (fun _ => []) (fun _ => 0) (fun _ => 0) (fun _ => 0) (fun _ => false) := v9.1
  refine xr_iload_n C dX11_build_0 rfl ?_
  refine xr_iconst (n := 1) C dX11_build_1 (by decide +kernel) ?_
  refine xr_icmp_lt C dX11_build_2 rfl (by first | omega | (dsimp only; omega)) (by first | omega | (dsimp only; omega)) (fun hq1 => ?_) (fun hq1 => ?_)
  · exact pp_throw hG C hlt hex (eIA, 57, 61) (by decide +kernel) (text := "not so many volumes") (is := 169) (by decide +kernel) (by decide +kernel) (by decide +kernel) (fun w hw => List.mem_cons_of_mem _ (List.mem_append_right _ hw)) dX11_build_21 dX11_build_24 dX11_build_25 dX11_build_27 dX11_build_30 (by dsimp only; omega) (Nat.le_of_ble_eq_true rfl) (by dsimp only; omega) (by dsimp only; omega) hlk ⟨rfl, rfl⟩ (by omega) (by omega)
  · refine xr_iload_n C dX11_build_5 rfl ?_
    refine xr_bipush (n := 10) C dX11_build_6 (by decide +kernel) ?_
    refine xr_icmp_gt C dX11_build_8 rfl (by first | omega | (dsimp only; omega)) (by first | omega | (dsimp only; omega)) (fun hq2 => ?_) (fun hq2 => ?_)
    · exact pp_throw hG C hlt hex (eIA, 57, 61) (by decide +kernel) (text := "not so many volumes") (is := 169) (by decide +kernel) (by decide +kernel) (by decide +kernel) (fun w hw => List.mem_cons_of_mem _ (List.mem_append_right _ hw)) dX11_build_21 dX11_build_24 dX11_build_25 dX11_build_27 dX11_build_30 (by dsimp only; omega) (Nat.le_of_ble_eq_true rfl) (by dsimp only; omega) (by dsimp only; omega) hlk ⟨rfl, rfl⟩ (by omega) (by omega)
    · refine xr_iload_n C dX11_build_11 rfl ?_
      refine xr_if_lt C dX11_build_12 rfl (by first | omega | (dsimp only; omega)) (fun hq3 => ?_) (fun hq3 => ?_)
      · exact pp_throw hG C hlt hex (eIA, 57, 61) (by decide +kernel) (text := "not so many volumes") (is := 169) (by decide +kernel) (by decide +kernel) (by decide +kernel) (fun w hw => List.mem_cons_of_mem _ (List.mem_append_right _ hw)) dX11_build_21 dX11_build_24 dX11_build_25 dX11_build_27 dX11_build_30 (by dsimp only; omega) (Nat.le_of_ble_eq_true rfl) (by dsimp only; omega) (by dsimp only; omega) hlk ⟨rfl, rfl⟩ (by omega) (by omega)
      · refine xr_iload_n C dX11_build_15 rfl ?_
        refine xr_bipush (n := 6) C dX11_build_16 (by decide +kernel) ?_
        refine xr_icmp_le C dX11_build_18 rfl (by first | omega | (dsimp only; omega)) (by first | omega | (dsimp only; omega)) (fun hq4 => ?_) (fun hq4 => ?_)
        · refine xr_aload_n C dX11_build_31 rfl ?_
          refine xr_get C (Cn := RX11) (T := TX11) (N := 5) (by decide +kernel) v1 rfl 4 (by decide) (C.1.2.2.2.2 (.fieldLink RX11 49 "OssuaryVault" "reading" "LOssuaryVault$Reading;") (by decide +kernel)) (fun _ h => h) rfl dX11_build_32 ?_
          exact absurd hbad (by omega)
        · exact pp_throw hG C hlt hex (eIA, 57, 61) (by decide +kernel) (text := "not so many volumes") (is := 169) (by decide +kernel) (by decide +kernel) (by decide +kernel) (fun w hw => List.mem_cons_of_mem _ (List.mem_append_right _ hw)) dX11_build_21 dX11_build_24 dX11_build_25 dX11_build_27 dX11_build_30 (by dsimp only; omega) (Nat.le_of_ble_eq_true rfl) (by dsimp only; omega) (by dsimp only; omega) hlk ⟨rfl, rfl⟩ (by omega) (by omega)
set_option maxHeartbeats 4000000 in
set_option maxRecDepth 100000 in
theorem x_cutSheet (l : Launch) (hlt : l.stackTraces = false) (G : mq_G) (sb sn : Nat) (sx : Nat → Int32) (hG : pG G sb sn sx) (La : Nat → Nat) (hI : mq_inj La) (M : mq_M) (hV : vF G M La) (n : Int) (hnr : -2147483648 ≤ n ∧ n < 2147483648) (hbad : n ≠ 0) : mq_MetX l yX11_cutSheet wsX11_cutSheet { frames := 6, cells := 1, slots := 6, locals := 82 } G.1.1 (mq_tys G) [.ref (La 0), .int (zI n)] M (mq_pi (fun _ _ => False)) (fun E M2 => E = eIA ∧ M = M2) 1 6 := by
  refine mq_MetX.of (cc := cX11_cutSheet) (maxL := 3) (ret := (some .int)) (by decide) rfl (Nat.le_of_ble_eq_true rfl) rfl rfl ?_
  intro p_ e_ s_ m_ args_ below_ meth_ c_ z_ C hr hlk hex
  obtain ⟨v1, v2, v3, v4, v5, ⟨pf, hkP, hkI⟩, ⟨pv, vd, ld, mb, nu, ho, hP, hH⟩, v8, v9⟩ := id hV
  have hkP' : dkP pf 0 (fun _ => 0) (fun _ => []) (fun _ => 0) := hkP
  have hkI' : dkI G M La pf 0 (fun _ => 0) (fun _ => []) (fun _ => []) (fun _ => 0) := hkI
  have hrI : rdI G M La false 0 0 false 0 [] (fun _ => []) (fun _ => 0) (fun _ => 0) (fun _ => 0) (fun _ => false) := v9.1
  refine xr_aload_n C dX11_cutSheet_0 rfl ?_
  refine xr_get C (Cn := RX11) (T := TX11) (N := 5) (by decide +kernel) v1 rfl 1 (by decide) (C.1.2.2.2.2 (.fieldLink RX11 24 "OssuaryVault" "desk" "LOssuaryVault$Desk;") (by decide +kernel)) (fun _ h => h) rfl dX11_cutSheet_1 ?_
  refine xr_getN C (Cn := RX2) (T := TX2) (N := 5) (by decide +kernel) hkI'.1 rfl 1 (by decide) (va_Nw.use rfl (C.2.2.1 ("OssuaryVault", 89, "OssuaryVault$Desk", "sheet", "LOssuaryVault$Bytes;", "OssuaryVault") (by decide +kernel))) (fun _ h => h) rfl dX11_cutSheet_4 ?_
  refine xr_callV0i C (c_size l G _ _ _ _ M v4) (cwV 0 C.1.2.2.2.2 gX11_cutSheet_X0_size rfl rfl rfl (by decide +kernel) ⟨Nat.le_of_ble_eq_true rfl, Nat.le_of_ble_eq_true rfl⟩) v4.1 rfl (Nat.le_of_ble_eq_true rfl) ⟨by dsimp only; omega, by dsimp only; omega⟩ dX11_cutSheet_7 (fun r1 M9 hp9 => ?_)
  obtain ⟨rfl, rfl⟩ := hp9
  rw [show (([] : List Nat).length : Int) = 0 from rfl]
  refine xr_istore_n C dX11_cutSheet_10 (by decide) rfl ?_
  refine xr_iload_n C dX11_cutSheet_11 rfl ?_
  refine xr_if_lt C dX11_cutSheet_12 rfl (by first | omega | (dsimp only; omega)) (fun hq2 => ?_) (fun hq2 => ?_)
  · exact pp_throw hG C hlt hex (eIA, 57, 61) (by decide +kernel) (text := "the sheet has not so many bytes") (is := 118) (by decide +kernel) (by decide +kernel) (by decide +kernel) (fun w hw => List.mem_cons_of_mem _ (List.mem_append_right _ hw)) dX11_cutSheet_20 dX11_cutSheet_23 dX11_cutSheet_24 dX11_cutSheet_26 dX11_cutSheet_29 (by dsimp only; omega) (Nat.le_of_ble_eq_true rfl) (by dsimp only; omega) (by dsimp only; omega) hlk ⟨rfl, rfl⟩ (by omega) (by omega)
  · refine xr_iload_n C dX11_cutSheet_15 rfl ?_
    refine xr_iload_n C dX11_cutSheet_16 rfl ?_
    refine xr_icmp_le C dX11_cutSheet_17 rfl (by first | omega | (dsimp only; omega)) (by first | omega | (dsimp only; omega)) (fun hq3 => ?_) (fun hq3 => ?_)
    · refine xr_aload_n C dX11_cutSheet_30 rfl ?_
      refine xr_get C (Cn := RX11) (T := TX11) (N := 5) (by decide +kernel) v1 rfl 1 (by decide) (C.1.2.2.2.2 (.fieldLink RX11 24 "OssuaryVault" "desk" "LOssuaryVault$Desk;") (by decide +kernel)) (fun _ h => h) rfl dX11_cutSheet_31 ?_
      refine xr_getN C (Cn := RX2) (T := TX2) (N := 5) (by decide +kernel) hkI'.1 rfl 1 (by decide) (va_Nw.use rfl (C.2.2.1 ("OssuaryVault", 89, "OssuaryVault$Desk", "sheet", "LOssuaryVault$Bytes;", "OssuaryVault") (by decide +kernel))) (fun _ h => h) rfl dX11_cutSheet_34 ?_
      refine xr_iload_n C dX11_cutSheet_37 rfl ?_
      exact absurd hbad (by omega)
    · exact pp_throw hG C hlt hex (eIA, 57, 61) (by decide +kernel) (text := "the sheet has not so many bytes") (is := 118) (by decide +kernel) (by decide +kernel) (by decide +kernel) (fun w hw => List.mem_cons_of_mem _ (List.mem_append_right _ hw)) dX11_cutSheet_20 dX11_cutSheet_23 dX11_cutSheet_24 dX11_cutSheet_26 dX11_cutSheet_29 (by dsimp only; omega) (Nat.le_of_ble_eq_true rfl) (by dsimp only; omega) (by dsimp only; omega) hlk ⟨rfl, rfl⟩ (by omega) (by omega)
