/-! ===== p48: a new desk of the law ===== -/
set_option maxHeartbeats 4000000 in
set_option maxRecDepth 100000 in
theorem l_Desk_init (l : Launch) (G : mq_G) (b sn : Nat) (sx : Nat → Int32) (hG : qG G b sn sx) (hA : pA G) (x : Nat) (d : Int) (M : mq_M) (hM : M x = some (.inr (11, [.null, .null, .int 0, .int 0, .null, .null]))) : mq_T l yX12_init wsX12_init { frames := 5, cells := 277, slots := 133601, locals := 98 } G [.ref x, .ref b, .int (zI d)] M (mq_pv (fun M2 => ∃ (La : Nat → Nat) (ka ca : Nat), ldB La x ka ca ∧ ldA G M2 La x b ka ca [] vk0 (fun _ => false) (fun _ => []) vr0 d)) 277 133601 := by
  refine mq_Met.of (cc := cX12_init) (maxL := 3) (ret := none) (by decide) rfl (Nat.le_of_ble_eq_true rfl) rfl rfl ?_
  intro p_ e_ s_ m_ args_ below_ meth_ c_ z_ C hr hlk hname
  have hold := hG.old C
  refine xr_aload_n C dX12_init_0 rfl ?_
  refine xr_objI C (C.1.2.2.2.2 (.methodLink RX12 1 objectInit) (by decide +kernel)) (C.1.2.2.2.2 (.instanceMethod objectInit) (by decide +kernel)) (C.1.2.2.2.2 (.code objectInit ⟨#[0xb1]⟩ 1 none) (by decide +kernel)) (Nat.le_of_ble_eq_true rfl) (Nat.le_of_ble_eq_true rfl) dX12_init_1 ?_
  refine xr_aload_n C dX12_init_4 rfl ?_
  refine xr_new C (ci := 10) (fs := [.null, .null, .null, .null, .null]) (Cn := RX11) (T := TX11) (N := 5) (by decide +kernel) tyX11 tyX11_ok (C.1.2.2.2.2 (.classLink RX12 7 RX11) (by decide +kernel)) (C.1.2.2.2.2 (.instantiable RX11 5) (by decide +kernel)) (C.1.2.2.2.2 (.initialized RX11) (by decide +kernel)) rfl (fun j hj => by rcases (show j = 0 ∨ j = 1 ∨ j = 2 ∨ j = 3 ∨ j = 4 by omega) with rfl | rfl | rfl | rfl | rfl <;> rfl) (by dsimp only; omega) (by dsimp only; omega) dX12_init_5 (fun q1 hq1 => ?_)
  refine mq_ren (fun M2 hM2 => ?_)
  refine xr_dup C dX12_init_8 rfl ?_
  refine xr_callI0 C (c_Vault_init l G q1 M2 (by rw [hM2, mq_up_s])) (cwI 0 C.1.2.2.2.2 gX12_init_X11_init rfl rfl rfl (C.1.2.2.2.2 (.initialized RX11) (by decide +kernel)) (C.1.2.2.2.2 (.methodLink RX12 9 yX11_init) (by decide +kernel)) (C.1.2.2.2.2 (.instanceMethod yX11_init) (by decide +kernel)) rfl (by decide +kernel) ⟨Nat.le_of_ble_eq_true rfl, Nat.le_of_ble_eq_true rfl⟩) (Nat.le_of_ble_eq_true rfl) ⟨by dsimp only; omega, by dsimp only; omega⟩ dX12_init_9 (fun M2 hp2 => ?_)
  obtain ⟨La, hL0, hI, hnew, v1, v2, v3, v4, v5, v6, v7, hK2⟩ := hp2
  have hxq : x ≠ q1 := fun e => by rw [← e, hM] at hq1; cases hq1
  subst hL0
  have hV2 : vF G M2 La := vF.mk v1 v2 v3 v4 v5 v6 v7
  have hZ2 : iq_Z M M2 := iq_Z.obj hq1 hM2 hK2
  have hfr : ∀ r, r < 275 → M (La r) = none := fun r hr => by
    by_cases h0 : r = 0
    · subst h0; exact hq1
    · exact (iq_Z.back hM2 (hnew r hr h0)).1
  have hxL : ∀ r, r < 275 → x ≠ La r := fun r hr e => by
    have := hfr r hr
    rw [← e, hM] at this; cases this
  have x2 : M2 x = some (.inr (11, [.null, .null, .int 0, .int 0, .null, .null])) := (hZ2 x (iq_some hM)).trans hM
  refine xr_putF C (Cn := RX12) (T := TX12) (N := 6) (by decide +kernel) x2 rfl 0 (by decide) tyX12 tyX12_ok nmX12 (C.1.2.2.2.2 (.fieldLink RX12 10 "OssuaryVaultLaw$Desk" "m" "LOssuaryVault;") (by decide +kernel)) (fun _ h => h) rfl hname rfl (tyX12_ok 0 (by decide)) rfl rfl (Nat.le_of_ble_eq_true rfl) dX12_init_12 ?_
  refine mq_ren (fun M3 hM3 => ?_)
  have x_M3 : M3 x = some (.inr (11, [.ref (La 0), .null, .int 0, .int 0, .null, .null])) := by rw [hM3]; exact mq_up_s
  have hV3 : vF G M3 La := vI.up hV2 hM3 (fun r hr => (hxL r hr).symm)
  refine xr_aload_n C dX12_init_15 rfl ?_
  refine xr_bipush (n := 17) C dX12_init_16 (by decide +kernel) ?_
  refine xr_newI C (C.1.2.2.2.2 (.arrayClass .int) (by decide +kernel)) mq_tI (by omega) (by dsimp only; omega) (by dsimp only; omega) dX12_init_18 (fun q4 hq4 => ?_)
  refine mq_ren (fun M5 hM5 => ?_)
  have x_M5 : M5 x = M3 x := by rw [hM5, mq_up_n (fun e => by rw [← e, x_M3] at hq4; cases hq4)]
  have y_M5 := x_M5.trans x_M3
  have hV4 : vF G M5 La := vI.k0 hV3 (iq_Z.rf.new hq4 hM5)
  refine xr_putF C (Cn := RX12) (T := TX12) (N := 6) (by decide +kernel) y_M5 rfl 4 (by decide) tyX12 tyX12_ok nmX12 (C.1.2.2.2.2 (.fieldLink RX12 16 "OssuaryVaultLaw$Desk" "keys" "[I") (by decide +kernel)) (fun _ h => h) rfl hname rfl (tyX12_ok 4 (by decide)) rfl rfl (Nat.le_of_ble_eq_true rfl) dX12_init_20 ?_
  refine mq_ren (fun M6 hM6 => ?_)
  have x_M6 : M6 x = some (.inr (11, [.ref (La 0), .null, .int 0, .int 0, .ref q4, .null])) := by rw [hM6]; exact mq_up_s
  have hV5 : vF G M6 La := vI.up hV4 hM6 (fun r hr => (hxL r hr).symm)
  refine xr_aload_n C dX12_init_23 rfl ?_
  refine xr_bipush (n := 17) C dX12_init_24 (by decide +kernel) ?_
  refine xr_newA (t := .int) C (C.1.2.2.2.2 (.classLink RX12 20 "[I") (by decide +kernel)) hold.2 hA.A (by omega) (by dsimp only; omega) (by dsimp only; omega) dX12_init_26 (fun q7 hq7 => ?_)
  refine mq_ren (fun M8 hM8 => ?_)
  have x_M8 : M8 x = M6 x := by rw [hM8, mq_up_n (fun e => by rw [← e, x_M6] at hq7; cases hq7)]
  have y_M8 := x_M8.trans x_M6
  have hV6 : vF G M8 La := vI.k0 hV5 (iq_Z.rf.new hq7 hM8)
  refine xr_putF C (Cn := RX12) (T := TX12) (N := 6) (by decide +kernel) y_M8 rfl 5 (by decide) tyX12 tyX12_ok nmX12 (C.1.2.2.2.2 (.fieldLink RX12 21 "OssuaryVaultLaw$Desk" "contents" "[[I") (by decide +kernel)) (fun _ h => h) rfl hname rfl (tyX12_ok 5 (by decide)) rfl rfl (Nat.le_of_ble_eq_true rfl) dX12_init_29 ?_
  refine mq_ren (fun M9 hM9 => ?_)
  have x_M9 : M9 x = some (.inr (11, [.ref (La 0), .null, .int 0, .int 0, .ref q4, .ref q7])) := by rw [hM9]; exact mq_up_s
  have hV7 : vF G M9 La := vI.up hV6 hM9 (fun r hr => (hxL r hr).symm)
  refine xr_aload_n C dX12_init_32 rfl ?_
  refine xr_aload_n C dX12_init_33 rfl ?_
  refine xr_putF C (Cn := RX12) (T := TX12) (N := 6) (by decide +kernel) x_M9 rfl 1 (by decide) tyX12 tyX12_ok nmX12 (C.1.2.2.2.2 (.fieldLink RX12 25 "OssuaryVaultLaw$Desk" "s" "[I") (by decide +kernel)) (fun _ h => h) rfl hname rfl (tyX12_ok 1 (by decide)) rfl rfl (Nat.le_of_ble_eq_true rfl) dX12_init_34 ?_
  refine mq_ren (fun M10 hM10 => ?_)
  have x_M10 : M10 x = some (.inr (11, [.ref (La 0), .ref b, .int 0, .int 0, .ref q4, .ref q7])) := by rw [hM10]; exact mq_up_s
  have hV8 : vF G M10 La := vI.up hV7 hM10 (fun r hr => (hxL r hr).symm)
  refine xr_aload_n C dX12_init_37 rfl ?_
  refine xr_iload_n C dX12_init_38 rfl ?_
  refine xr_put C (Cn := RX12) (T := TX12) (N := 6) (by decide +kernel) x_M10 rfl 2 (by decide) tyX12 tyX12_ok nmX12 (C.1.2.2.2.2 (.fieldLink RX12 28 "OssuaryVaultLaw$Desk" "draws" "I") (by decide +kernel)) (fun _ h => h) rfl (tyX12_ok 2 (by decide)) rfl rfl (Nat.le_of_ble_eq_true rfl) dX12_init_39 ?_
  refine mq_ren (fun M11 hM11 => ?_)
  have x_M11 : M11 x = some (.inr (11, [.ref (La 0), .ref b, .int (zI d), .int 0, .ref q4, .ref q7])) := by rw [hM11]; exact mq_up_s
  have hV9 : vF G M11 La := vI.up hV8 hM11 (fun r hr => (hxL r hr).symm)
  have hxk : x ≠ q4 := fun e => by rw [← e, x_M3] at hq4; cases hq4
  have hxc : x ≠ q7 := fun e => by rw [← e, x_M6] at hq7; cases hq7
  have hkc : q4 ≠ q7 := fun e => by rw [← e, hM6, mq_up_n hxk.symm, hM5, mq_up_s] at hq7; cases hq7
  have hLk : ∀ r, r < 275 → La r ≠ q4 := fun r hr e => vtI.nn hV3 r hr (by rw [e]; exact hq4)
  have hLc : ∀ r, r < 275 → La r ≠ q7 := fun r hr e => vtI.nn hV5 r hr (by rw [e]; exact hq7)
  exact xr_vret C hr hlk ⟨rfl, La, q4, q7, ⟨hI, fun r hr => ⟨(hxL r hr).symm, hLk r hr, hLc r hr⟩, hxk, hxc, hkc⟩, fun _ => 0, fun _ => none, ⟨hV9, by unfold ldI; rw [x_M11, show zI ((vk0.1 : Nat) : Int) = 0 from zI_0], by rw [hM11, mq_up_n hxk.symm, hM10, mq_up_n hxk.symm, hM9, mq_up_n hxk.symm, hM8, mq_up_n hkc, hM6, mq_up_n hxk.symm, hM5]; exact mq_up_s, by rw [hM11, mq_up_n hxc.symm, hM10, mq_up_n hxc.symm, hM9, mq_up_n hxc.symm, hM8]; exact mq_up_s, fun i p hp => by simp at hp⟩, fun i hi => absurd hi (Nat.not_lt_zero _)⟩ (by omega) (by omega) dX12_init_42
