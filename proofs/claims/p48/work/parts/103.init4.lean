set_option maxHeartbeats 4000000 in
set_option maxRecDepth 100000 in
theorem c_Vault_init (l : Launch) (G : mq_G) (x : Nat) (M : mq_M) (hM : M x = some (.inr (10, [.null, .null, .null, .null, .null]))) : mq_T l yX11_init wsX11_init { frames := 4, cells := 274, slots := 133562, locals := 77 } G [.ref x] M (mq_pv (fun M2 => ∃ La : Nat → Nat, La 0 = x ∧ mq_inj La ∧ (∀ r, r < 275 → r ≠ 0 → M (La r) = none) ∧ vtO M2 La ∧ ckI G M2 (La 1) (La 2) ∧ fdI G M2 (La 3) (La 4) (La 5) ∧ (bI G M2 (La 7) (La 8) 240 [] ∧ bI G M2 (La 9) (La 10) 4070 [] ∧ dkI G M2 La (fun i => i) 0 (fun _ => 0) (fun _ => []) (fun _ => []) (fun _ => 0)) ∧ shI G M2 La (fun i => i) (fun _ => false) (fun _ => []) (fun _ => 0) 0 0 (fun _ => 0) (fun _ => 0) ∧ rcI G M2 La [] (fun _ => 0) ∧ rdI G M2 La false 0 0 false 0 [] (fun _ => []) (fun _ => 0) (fun _ => 0) (fun _ => 0) (fun _ => false) ∧ iq_K x M M2)) 274 133562 := by
  refine mq_Met.of (cc := cX11_init) (maxL := 2) (ret := none) (by decide) rfl (Nat.le_of_ble_eq_true rfl) rfl rfl ?_
  intro p_ e_ s_ m_ args_ below_ meth_ c_ z_ C hr hlk hname
  refine xr_aload_n C dX11_init_0 rfl ?_
  refine xr_objI C (C.1.2.2.2.2 (.methodLink RX11 3 objectInit) (by decide +kernel)) (C.1.2.2.2.2 (.instanceMethod objectInit) (by decide +kernel)) (C.1.2.2.2.2 (.code objectInit ⟨#[0xb1]⟩ 1 none) (by decide +kernel)) (Nat.le_of_ble_eq_true rfl) (Nat.le_of_ble_eq_true rfl) dX11_init_1 ?_
  refine xr_new C (ci := 1) (fs := [.null]) (Cn := RX1) (T := TX1) (N := 1) (by decide +kernel) tyX1 tyX1_ok (C.1.2.2.2.2 (.classLink RX11 9 RX1) (by decide +kernel)) (C.1.2.2.2.2 (.instantiable RX1 1) (by decide +kernel)) (C.1.2.2.2.2 (.initialized RX1) (by decide +kernel)) rfl (fun j hj => by rcases (show j = 0 by omega) with rfl <;> rfl) (by dsimp only; omega) (by dsimp only; omega) dX11_init_4 (fun q1 hq1 => ?_)
  refine mq_ren (fun M2 hM2 => ?_)
  have hZ1 : M2 q1 = some (.inr (1, [.null])) := by rw [hM2, mq_up_s]
  refine xr_dup C dX11_init_7 rfl ?_
  refine xr_callI0 C (c_Check_init l G q1 M2 hZ1) (cwI 0 C.1.2.2.2.2 gX11_init_X1_init rfl rfl rfl (C.1.2.2.2.2 (.initialized RX1) (by decide +kernel)) (C.1.2.2.2.2 (.methodLink RX11 11 yX1_init) (by decide +kernel)) (C.1.2.2.2.2 (.instanceMethod yX1_init) (by decide +kernel)) rfl (by decide +kernel) ⟨Nat.le_of_ble_eq_true rfl, Nat.le_of_ble_eq_true rfl⟩) (Nat.le_of_ble_eq_true rfl) ⟨by dsimp only; omega, by dsimp only; omega⟩ dX11_init_8 (fun N1 hp1 => ?_)
  obtain ⟨a1, ha1, hC1, hF1⟩ := hp1
  obtain ⟨hK1, hA1, hn1⟩ := iq_Z.bytes hq1 hM2 ha1 hF1
  have x1 := (hK1 x (iq_some hM)).trans hM
  have C1n : N1 q1 ≠ none ∧ N1 a1 ≠ none := by
    obtain ⟨c1, c2, f, c3, c4⟩ := hC1
    exact ⟨iq_some c1, iq_some c3⟩
  have g1 : iq_g M N1 (iq_gl (fun _ => 0) 0 [q1, a1]) 2 := iq_g.base (iq_some hM) (by simp only [List.mem_cons, List.not_mem_nil, or_false, forall_eq_or_imp, forall_eq]; exact ⟨⟨hq1, C1n.1⟩, hA1, C1n.2⟩) (by simp [Ne.symm hn1]) (fun z hz => hK1.nn hz)
  generalize hg1 : iq_gl (fun _ => 0) 0 [q1, a1] = G1 at g1
  have K1 := hK1.K x
  refine xr_astore_n C dX11_init_11 (by decide) rfl ?_
  refine xr_aload_n C dX11_init_12 rfl ?_
  refine xr_new C (ci := 4) (fs := [.null, .null]) (Cn := RX4) (T := TX4) (N := 2) (by decide +kernel) tyX4 tyX4_ok (C.1.2.2.2.2 (.classLink RX11 12 RX4) (by decide +kernel)) (C.1.2.2.2.2 (.instantiable RX4 2) (by decide +kernel)) (C.1.2.2.2.2 (.initialized RX4) (by decide +kernel)) rfl (fun j hj => by rcases (show j = 0 ∨ j = 1 by omega) with rfl | rfl <;> rfl) (by dsimp only; omega) (by dsimp only; omega) dX11_init_13 (fun q3 hq3 => ?_)
  refine mq_ren (fun M4 hM4 => ?_)
  have hZ2 : M4 q3 = some (.inr (4, [.null, .null])) := by rw [hM4, mq_up_s]
  refine xr_dup C dX11_init_16 rfl ?_
  refine xr_callI0 C (c_Field_init l G q3 M4 hZ2) (cwI 0 C.1.2.2.2.2 gX11_init_X4_init rfl rfl rfl (C.1.2.2.2.2 (.initialized RX4) (by decide +kernel)) (C.1.2.2.2.2 (.methodLink RX11 14 yX4_init) (by decide +kernel)) (C.1.2.2.2.2 (.instanceMethod yX4_init) (by decide +kernel)) rfl (by decide +kernel) ⟨Nat.le_of_ble_eq_true rfl, Nat.le_of_ble_eq_true rfl⟩) (Nat.le_of_ble_eq_true rfl) ⟨by dsimp only; omega, by dsimp only; omega⟩ dX11_init_17 (fun N2 hp2 => ?_)
  obtain ⟨u2, v2, hu2, hv2, hC2, hF2⟩ := hp2
  have hK2 : iq_Z N1 N2 := iq_Z.obj hq3 hM4 (iq_K.ofF hF2 (by
    simp only [List.mem_cons, List.not_mem_nil, or_false, forall_eq_or_imp, forall_eq]
    exact ⟨fun q => absurd rfl q, fun _ => hu2, fun _ => hv2⟩))
  have bu2 := iq_Z.back hM4 hu2
  have bv2 := iq_Z.back hM4 hv2
  have x2 := (hK2 x (iq_some x1)).trans x1
  have C2n : N2 q3 ≠ none ∧ N2 u2 ≠ none ∧ N2 v2 ≠ none ∧ u2 ≠ v2 := by
    obtain ⟨c1, c2, c3, c4, ⟨f, c5, c6⟩, f2, c7, c8⟩ := hC2
    exact ⟨iq_some c1, iq_some c5, iq_some c7, c4⟩
  have g2 : iq_g M N2 (iq_gl G1 2 [q3, u2, v2]) 5 := g1.add (k := 3) K1 (iq_some x1) (by simp only [List.mem_cons, List.not_mem_nil, or_false, forall_eq_or_imp, forall_eq]; exact ⟨⟨hq3, C2n.1⟩, ⟨bu2.1, C2n.2.1⟩, bv2.1, C2n.2.2.1⟩) (by simp [Ne.symm bu2.2, Ne.symm bv2.2, C2n.2.2.2]) rfl (fun z hz => hK2.nn hz) rfl
  generalize hg2 : iq_gl G1 2 [q3, u2, v2] = G2 at g2
  have K2 := K1.tr0 hK2
  refine xr_putF C (Cn := RX11) (T := TX11) (N := 5) (by decide +kernel) x2 rfl 0 (by decide) tyX11 tyX11_ok nmX11 (C.1.2.2.2.2 (.fieldLink RX11 15 "OssuaryVault" "field" "LOssuaryVault$Field;") (by decide +kernel)) (fun _ h => h) rfl hname rfl (tyX11_ok 0 (by decide)) rfl rfl (Nat.le_of_ble_eq_true rfl) dX11_init_20 ?_
  refine mq_ren (fun M5 hM5 => ?_)
  have y2 : M5 x = some (.inr (10, [.ref q3, .null, .null, .null, .null])) := by rw [hM5, mq_up_s]; rfl
  have L2 := K2.up hM5
  have J2 : iq_K x N2 M5 := iq_K.one hM5
  have e2 := g2.add (k := 0) (qs := []) (M4 := M5) K2 (iq_some x2) (by simp) (by simp) rfl (fun z hz => iq_upnn hM5 hz) rfl
  refine xr_aload_n C dX11_init_23 rfl ?_
  refine xr_new C (ci := 2) (fs := [.null, .null, .null, .null, .int 0]) (Cn := RX2) (T := TX2) (N := 5) (by decide +kernel) tyX2 tyX2_ok (C.1.2.2.2.2 (.classLink RX11 19 RX2) (by decide +kernel)) (C.1.2.2.2.2 (.instantiable RX2 5) (by decide +kernel)) (C.1.2.2.2.2 (.initialized RX2) (by decide +kernel)) rfl (fun j hj => by rcases (show j = 0 ∨ j = 1 ∨ j = 2 ∨ j = 3 ∨ j = 4 by omega) with rfl | rfl | rfl | rfl | rfl <;> rfl) (by dsimp only; omega) (by dsimp only; omega) dX11_init_24 (fun q6 hq6 => ?_)
  refine mq_ren (fun M7 hM7 => ?_)
  have hZ3 : M7 q6 = some (.inr (2, [.null, .null, .null, .null, .int 0])) := by rw [hM7, mq_up_s]
  have zx3 := ((iq_Z.rf.new hq6 hM7) x (iq_some y2)).trans y2
  refine xr_dup C dX11_init_27 rfl ?_
  refine xr_aload_n C dX11_init_28 rfl ?_
  refine xr_callI1 C (c_Desk_init l G q6 q1 M7 hZ3) (cwI 1 C.1.2.2.2.2 gX11_init_X2_init rfl rfl rfl (C.1.2.2.2.2 (.initialized RX2) (by decide +kernel)) (C.1.2.2.2.2 (.methodLink RX11 21 yX2_init) (by decide +kernel)) (C.1.2.2.2.2 (.instanceMethod yX2_init) (by decide +kernel)) rfl (by decide +kernel) ⟨Nat.le_of_ble_eq_true rfl, Nat.le_of_ble_eq_true rfl⟩) (Nat.le_of_ble_eq_true rfl) ⟨by dsimp only; omega, by dsimp only; omega⟩ dX11_init_29 (fun N3 hp3 => ?_)
  obtain ⟨gg3, d3g, d3x, d3a, d3b, d3f, d3d, d3K⟩ := hp3
  have g2u : iq_g M M5 G2 5 := ⟨fun r hr => ⟨(g2.1 r hr).1, iq_upnn hM5 (g2.1 r hr).2⟩, g2.2⟩
  have hK3 : iq_Z M5 N3 := iq_Z.obj hq6 hM7 d3K
  have x3 := (hK3 x (iq_some y2)).trans y2
  have own3 := iq_L_own hq6 hM7 d3g (iq_some d3x)
  have g3 : iq_g M N3 (iq_gl G2 5 (iq_L q6 85 gg3)) 91 := g2u.add (k := 86) L2 (iq_some y2) own3.1 own3.2 iq_L_len (fun z hz => hK3.nn hz) rfl
  have i3 : ∀ k, k < 85 → iq_gl G2 5 (iq_L q6 85 gg3) (6 + k) = gg3 k := fun k hk => by
    rw [show 6 + k = 5 + (k + 1) by omega, iq_gl_ge, iq_L_s hk]
  have j3 : iq_gl G2 5 (iq_L q6 85 gg3) 5 = q6 := iq_gl_ge (n := 5) 0
  have l3 : ∀ k, k < 5 → iq_gl G2 5 (iq_L q6 85 gg3) k = G2 k := fun k hk => iq_gl_lt hk
  generalize iq_gl G2 5 (iq_L q6 85 gg3) = G3 at g3 i3 j3 l3
  have K3 := L2.tr0 hK3
  refine xr_putF C (Cn := RX11) (T := TX11) (N := 5) (by decide +kernel) x3 rfl 1 (by decide) tyX11 tyX11_ok nmX11 (C.1.2.2.2.2 (.fieldLink RX11 24 "OssuaryVault" "desk" "LOssuaryVault$Desk;") (by decide +kernel)) (fun _ h => h) rfl hname rfl (tyX11_ok 1 (by decide)) rfl rfl (Nat.le_of_ble_eq_true rfl) dX11_init_32 ?_
  refine mq_ren (fun M8 hM8 => ?_)
  have y3 : M8 x = some (.inr (10, [.ref q3, .ref q6, .null, .null, .null])) := by rw [hM8, mq_up_s]; rfl
  have L3 := K3.up hM8
  have J3 : iq_K x N3 M8 := iq_K.one hM8
  have g3u : iq_g M M8 G3 91 := ⟨fun r hr => ⟨(g3.1 r hr).1, iq_upnn hM8 (g3.1 r hr).2⟩, g3.2⟩
  refine xr_aload_n C dX11_init_35 rfl ?_
  refine xr_new C (ci := 8) (fs := [.null, .null, .null, .null, .null, .int 0, .int 0]) (Cn := RX9) (T := TX9) (N := 7) (by decide +kernel) tyX9 tyX9_ok (C.1.2.2.2.2 (.classLink RX11 28 RX9) (by decide +kernel)) (C.1.2.2.2.2 (.instantiable RX9 7) (by decide +kernel)) (C.1.2.2.2.2 (.initialized RX9) (by decide +kernel)) rfl (fun j hj => by rcases (show j = 0 ∨ j = 1 ∨ j = 2 ∨ j = 3 ∨ j = 4 ∨ j = 5 ∨ j = 6 by omega) with rfl | rfl | rfl | rfl | rfl | rfl | rfl <;> rfl) (by dsimp only; omega) (by dsimp only; omega) dX11_init_36 (fun q9 hq9 => ?_)
  refine mq_ren (fun M10 hM10 => ?_)
  have hZ4 : M10 q9 = some (.inr (8, [.null, .null, .null, .null, .null, .int 0, .int 0])) := by rw [hM10, mq_up_s]
  have zx4 := ((iq_Z.rf.new hq9 hM10) x (iq_some y3)).trans y3
  refine xr_dup C dX11_init_39 rfl ?_
  refine xr_aload_n C dX11_init_40 rfl ?_
  refine xr_aload_n C dX11_init_41 rfl ?_
  refine xr_get C (Cn := RX11) (T := TX11) (N := 5) (by decide +kernel) zx4 rfl 0 (by decide) (C.1.2.2.2.2 (.fieldLink RX11 15 "OssuaryVault" "field" "LOssuaryVault$Field;") (by decide +kernel)) (fun _ h => h) rfl dX11_init_42 ?_
  refine xr_callI2 C (c_Shelf_init l G q9 q1 q3 M10 hZ4) (cwI 2 C.1.2.2.2.2 gX11_init_X9_init rfl rfl rfl (C.1.2.2.2.2 (.initialized RX9) (by decide +kernel)) (C.1.2.2.2.2 (.methodLink RX11 30 yX9_init) (by decide +kernel)) (C.1.2.2.2.2 (.instanceMethod yX9_init) (by decide +kernel)) rfl (by decide +kernel) ⟨Nat.le_of_ble_eq_true rfl, Nat.le_of_ble_eq_true rfl⟩) (Nat.le_of_ble_eq_true rfl) ⟨by dsimp only; omega, by dsimp only; omega⟩ dX11_init_45 (fun N4 hp4 => ?_)
  obtain ⟨gg4, d4g, d4x, d4f, d4n, d4h, d4d, d4K⟩ := hp4
  have hK4 : iq_Z M8 N4 := iq_Z.obj hq9 hM10 d4K
  have x4 := (hK4 x (iq_some y3)).trans y3
  have own4 := iq_L_own hq9 hM10 d4g (iq_some d4x)
  have g4 : iq_g M N4 (iq_gl G3 91 (iq_L q9 54 gg4)) 146 := g3u.add (k := 55) L3 (iq_some y3) own4.1 own4.2 iq_L_len (fun z hz => hK4.nn hz) rfl
  have i4 : ∀ k, k < 54 → iq_gl G3 91 (iq_L q9 54 gg4) (92 + k) = gg4 k := fun k hk => by
    rw [show 92 + k = 91 + (k + 1) by omega, iq_gl_ge, iq_L_s hk]
  have j4 : iq_gl G3 91 (iq_L q9 54 gg4) 91 = q9 := iq_gl_ge (n := 91) 0
  have l4 : ∀ k, k < 91 → iq_gl G3 91 (iq_L q9 54 gg4) k = G3 k := fun k hk => iq_gl_lt hk
  generalize iq_gl G3 91 (iq_L q9 54 gg4) = G4 at g4 i4 j4 l4
  have K4 := L3.tr0 hK4
  refine xr_putF C (Cn := RX11) (T := TX11) (N := 5) (by decide +kernel) x4 rfl 2 (by decide) tyX11 tyX11_ok nmX11 (C.1.2.2.2.2 (.fieldLink RX11 33 "OssuaryVault" "shelf" "LOssuaryVault$Shelf;") (by decide +kernel)) (fun _ h => h) rfl hname rfl (tyX11_ok 2 (by decide)) rfl rfl (Nat.le_of_ble_eq_true rfl) dX11_init_48 ?_
  refine mq_ren (fun M11 hM11 => ?_)
  have y4 : M11 x = some (.inr (10, [.ref q3, .ref q6, .ref q9, .null, .null])) := by rw [hM11, mq_up_s]; rfl
  have L4 := K4.up hM11
  have J4 : iq_K x N4 M11 := iq_K.one hM11
  have g4u : iq_g M M11 G4 146 := ⟨fun r hr => ⟨(g4.1 r hr).1, iq_upnn hM11 (g4.1 r hr).2⟩, g4.2⟩
  refine xr_aload_n C dX11_init_51 rfl ?_
  refine xr_new C (ci := 7) (fs := [.null, .null, .null]) (Cn := RX8) (T := TX8) (N := 3) (by decide +kernel) tyX8 tyX8_ok (C.1.2.2.2.2 (.classLink RX11 37 RX8) (by decide +kernel)) (C.1.2.2.2.2 (.instantiable RX8 3) (by decide +kernel)) (C.1.2.2.2.2 (.initialized RX8) (by decide +kernel)) rfl (fun j hj => by rcases (show j = 0 ∨ j = 1 ∨ j = 2 by omega) with rfl | rfl | rfl <;> rfl) (by dsimp only; omega) (by dsimp only; omega) dX11_init_52 (fun q12 hq12 => ?_)
  refine mq_ren (fun M13 hM13 => ?_)
  have hZ5 : M13 q12 = some (.inr (7, [.null, .null, .null])) := by rw [hM13, mq_up_s]
  have zx5 := ((iq_Z.rf.new hq12 hM13) x (iq_some y4)).trans y4
  refine xr_dup C dX11_init_55 rfl ?_
  refine xr_aload_n C dX11_init_56 rfl ?_
  refine xr_get C (Cn := RX11) (T := TX11) (N := 5) (by decide +kernel) zx5 rfl 0 (by decide) (C.1.2.2.2.2 (.fieldLink RX11 15 "OssuaryVault" "field" "LOssuaryVault$Field;") (by decide +kernel)) (fun _ h => h) rfl dX11_init_57 ?_
  refine xr_callI1 C (c_Recovery_init l G q12 q3 M13 hZ5) (cwI 1 C.1.2.2.2.2 gX11_init_X8_init rfl rfl rfl (C.1.2.2.2.2 (.initialized RX8) (by decide +kernel)) (C.1.2.2.2.2 (.methodLink RX11 39 yX8_init) (by decide +kernel)) (C.1.2.2.2.2 (.instanceMethod yX8_init) (by decide +kernel)) rfl (by decide +kernel) ⟨Nat.le_of_ble_eq_true rfl, Nat.le_of_ble_eq_true rfl⟩) (Nat.le_of_ble_eq_true rfl) ⟨by dsimp only; omega, by dsimp only; omega⟩ dX11_init_60 (fun N5 hp5 => ?_)
  obtain ⟨b5, a5, r5, ⟨f1, f2, f3⟩, d5N, d5x, d5b, d5r, d5K⟩ := hp5
  have d5g : iq_g M13 N5 (fun k => [b5, a5, r5].getD k 0) 3 := by
    have hN2 := (List.nodup_cons.mp d5N).2
    refine ⟨fun r hr => ?_, fun r t hr ht he => ?_⟩
    · rcases (show r = 0 ∨ r = 1 ∨ r = 2 by omega) with rfl | rfl | rfl
      · exact ⟨f1, d5b.nn.1⟩
      · exact ⟨f2, d5b.nn.2⟩
      · exact ⟨f3, iq_some d5r⟩
    · by_cases hrt : r = t
      · exact hrt
      · exact absurd he (mq_nd hN2 r t (by simp; omega))
  have gg5h : ∃ gg5 : Nat → Nat, gg5 = (fun k => [b5, a5, r5].getD k 0) := ⟨_, rfl⟩
  obtain ⟨gg5, hgg5⟩ := gg5h
  rw [← hgg5] at d5g
  have gg5b : gg5 0 = b5 ∧ gg5 1 = a5 ∧ gg5 2 = r5 := by rw [hgg5]; exact ⟨rfl, rfl, rfl⟩
  have hK5 : iq_Z M11 N5 := iq_Z.obj hq12 hM13 d5K
  have x5 := (hK5 x (iq_some y4)).trans y4
  have own5 := iq_L_own hq12 hM13 d5g (iq_some d5x)
  have g5 : iq_g M N5 (iq_gl G4 146 (iq_L q12 3 gg5)) 150 := g4u.add (k := 4) L4 (iq_some y4) own5.1 own5.2 iq_L_len (fun z hz => hK5.nn hz) rfl
  have i5 : ∀ k, k < 3 → iq_gl G4 146 (iq_L q12 3 gg5) (147 + k) = gg5 k := fun k hk => by
    rw [show 147 + k = 146 + (k + 1) by omega, iq_gl_ge, iq_L_s hk]
  have j5 : iq_gl G4 146 (iq_L q12 3 gg5) 146 = q12 := iq_gl_ge (n := 146) 0
  have l5 : ∀ k, k < 146 → iq_gl G4 146 (iq_L q12 3 gg5) k = G4 k := fun k hk => iq_gl_lt hk
  generalize iq_gl G4 146 (iq_L q12 3 gg5) = G5 at g5 i5 j5 l5
  have K5 := L4.tr0 hK5
  refine xr_putF C (Cn := RX11) (T := TX11) (N := 5) (by decide +kernel) x5 rfl 3 (by decide) tyX11 tyX11_ok nmX11 (C.1.2.2.2.2 (.fieldLink RX11 42 "OssuaryVault" "recovery" "LOssuaryVault$Recovery;") (by decide +kernel)) (fun _ h => h) rfl hname rfl (tyX11_ok 3 (by decide)) rfl rfl (Nat.le_of_ble_eq_true rfl) dX11_init_63 ?_
  refine mq_ren (fun M14 hM14 => ?_)
  have y5 : M14 x = some (.inr (10, [.ref q3, .ref q6, .ref q9, .ref q12, .null])) := by rw [hM14, mq_up_s]; rfl
  have L5 := K5.up hM14
  have J5 : iq_K x N5 M14 := iq_K.one hM14
  have g5u : iq_g M M14 G5 150 := ⟨fun r hr => ⟨(g5.1 r hr).1, iq_upnn hM14 (g5.1 r hr).2⟩, g5.2⟩
  refine xr_aload_n C dX11_init_66 rfl ?_
  refine xr_new C (ci := 6) (fs := [.null, .null, .null, .int 0, .int 0, .int 0, .int 0, .int 0]) (Cn := RX7) (T := TX7) (N := 8) (by decide +kernel) tyX7 tyX7_ok (C.1.2.2.2.2 (.classLink RX11 46 RX7) (by decide +kernel)) (C.1.2.2.2.2 (.instantiable RX7 8) (by decide +kernel)) (C.1.2.2.2.2 (.initialized RX7) (by decide +kernel)) rfl (fun j hj => by rcases (show j = 0 ∨ j = 1 ∨ j = 2 ∨ j = 3 ∨ j = 4 ∨ j = 5 ∨ j = 6 ∨ j = 7 by omega) with rfl | rfl | rfl | rfl | rfl | rfl | rfl | rfl <;> rfl) (by dsimp only; omega) (by dsimp only; omega) dX11_init_67 (fun q15 hq15 => ?_)
  refine mq_ren (fun M16 hM16 => ?_)
  have hZ6 : M16 q15 = some (.inr (6, [.null, .null, .null, .int 0, .int 0, .int 0, .int 0, .int 0])) := by rw [hM16, mq_up_s]
  have zx6 := ((iq_Z.rf.new hq15 hM16) x (iq_some y5)).trans y5
  refine xr_dup C dX11_init_70 rfl ?_
  refine xr_aload_n C dX11_init_71 rfl ?_
  refine xr_callI1 C (c_Reading_init l G q15 q1 M16 hZ6) (cwI 1 C.1.2.2.2.2 gX11_init_X7_init rfl rfl rfl (C.1.2.2.2.2 (.initialized RX7) (by decide +kernel)) (C.1.2.2.2.2 (.methodLink RX11 48 yX7_init) (by decide +kernel)) (C.1.2.2.2.2 (.instanceMethod yX7_init) (by decide +kernel)) rfl (by decide +kernel) ⟨Nat.le_of_ble_eq_true rfl, Nat.le_of_ble_eq_true rfl⟩) (Nat.le_of_ble_eq_true rfl) ⟨by dsimp only; omega, by dsimp only; omega⟩ dX11_init_72 (fun N6 hp6 => ?_)
  obtain ⟨gg6, d6g, d6x, d6a, d6f, d6d, d6K⟩ := hp6
  have hK6 : iq_Z M14 N6 := iq_Z.obj hq15 hM16 d6K
  have x6 := (hK6 x (iq_some y5)).trans y5
  have own6 := iq_L_own hq15 hM16 d6g (iq_some d6x)
  have g6 : iq_g M N6 (iq_gl G5 150 (iq_L q15 123 gg6)) 274 := g5u.add (k := 124) L5 (iq_some y5) own6.1 own6.2 iq_L_len (fun z hz => hK6.nn hz) rfl
  have i6 : ∀ k, k < 123 → iq_gl G5 150 (iq_L q15 123 gg6) (151 + k) = gg6 k := fun k hk => by
    rw [show 151 + k = 150 + (k + 1) by omega, iq_gl_ge, iq_L_s hk]
  have j6 : iq_gl G5 150 (iq_L q15 123 gg6) 150 = q15 := iq_gl_ge (n := 150) 0
  have l6 : ∀ k, k < 150 → iq_gl G5 150 (iq_L q15 123 gg6) k = G5 k := fun k hk => iq_gl_lt hk
  generalize iq_gl G5 150 (iq_L q15 123 gg6) = G6 at g6 i6 j6 l6
  have K6 := L5.tr0 hK6
  refine xr_putF C (Cn := RX11) (T := TX11) (N := 5) (by decide +kernel) x6 rfl 4 (by decide) tyX11 tyX11_ok nmX11 (C.1.2.2.2.2 (.fieldLink RX11 49 "OssuaryVault" "reading" "LOssuaryVault$Reading;") (by decide +kernel)) (fun _ h => h) rfl hname rfl (tyX11_ok 4 (by decide)) rfl rfl (Nat.le_of_ble_eq_true rfl) dX11_init_75 ?_
  refine mq_ren (fun M17 hM17 => ?_)
  have y6 : M17 x = some (.inr (10, [.ref q3, .ref q6, .ref q9, .ref q12, .ref q15])) := by rw [hM17, mq_up_s]; rfl
  have L6 := K6.up hM17
  have J6 : iq_K x N6 M17 := iq_K.one hM17
  have g6u : iq_g M M17 G6 274 := ⟨fun r hr => ⟨(g6.1 r hr).1, iq_upnn hM17 (g6.1 r hr).2⟩, g6.2⟩
  have J5t : iq_K x N5 M17 := (J5.tr0 hK6).tr J6
  have J4t : iq_K x N4 M17 := (J4.tr0 hK5).tr J5t
  have J3t : iq_K x N3 M17 := (J3.tr0 hK4).tr J4t
  have J2t : iq_K x N2 M17 := (J2.tr0 hK3).tr J3t
  have J1t : iq_K x N1 M17 := (hK2.K x).tr J2t
  have nx : ∀ r, r < 274 → G6 r ≠ x := fun r hr => g6u.nx hr (iq_some hM)
  have c0 : G1 0 = q1 ∧ G1 1 = a1 := by rw [← hg1]; exact ⟨rfl, rfl⟩
  have c2 : G2 0 = q1 ∧ G2 1 = a1 ∧ G2 2 = q3 ∧ G2 3 = u2 ∧ G2 4 = v2 := by
    rw [← hg2, ← hg1]; exact ⟨rfl, rfl, rfl, rfl, rfl⟩
  have s5 : ∀ k, k < 5 → G6 k = G2 k := fun k hk => by rw [l6 k (by omega), l5 k (by omega), l4 k (by omega), l3 k (by omega)]
  have s91 : ∀ k, k < 91 → G6 k = G3 k := fun k hk => by rw [l6 k (by omega), l5 k (by omega), l4 k (by omega)]
  have s146 : ∀ k, k < 146 → G6 k = G4 k := fun k hk => by rw [l6 k (by omega), l5 k (by omega)]
  have s150 : ∀ k, k < 150 → G6 k = G5 k := fun k hk => by rw [l6 k (by omega)]
  have dk : ∀ k, k < 85 → G6 (6 + k) = gg3 k := fun k hk => by rw [s91 _ (by omega)]; exact i3 k hk
  have sk : ∀ k, k < 54 → G6 (92 + k) = gg4 k := fun k hk => by rw [s146 _ (by omega)]; exact i4 k hk
  have rk : ∀ k, k < 3 → G6 (147 + k) = gg5 k := fun k hk => by rw [s150 _ (by omega)]; exact i5 k hk
  have rr : ∀ k, k < 123 → G6 (151 + k) = gg6 k := fun k hk => i6 k hk
  have Ldk : ∀ k, k < 5 → iq_La x G6 (7 + k) = gg3 k := fun k hk => by rw [iq_La_c (k := 6 + k) (by omega) (by unfold iq_ord; (repeat' split) <;> omega)]; exact dk k (by omega)
  have Ldf : ∀ k, k < 80 → iq_La x G6 (24 + k) = gg3 (5 + k) := fun k hk => by rw [iq_La_c (k := 6 + (5 + k)) (by omega) (by unfold iq_ord; (repeat' split) <;> omega)]; exact dk _ (by omega)
  have Lsk : ∀ k, k < 3 → iq_La x G6 (13 + k) = gg4 k := fun k hk => by rw [iq_La_c (k := 92 + k) (by omega) (by unfold iq_ord; (repeat' split) <;> omega)]; exact sk k (by omega)
  have Lsf : ∀ k, k < 51 → iq_La x G6 (104 + k) = gg4 (3 + k) := fun k hk => by rw [iq_La_c (k := 92 + (3 + k)) (by omega) (by unfold iq_ord; (repeat' split) <;> omega)]; exact sk _ (by omega)
  have Lrk : ∀ k, k < 3 → iq_La x G6 (17 + k) = gg5 k := fun k hk => by rw [iq_La_c (k := 147 + k) (by omega) (by unfold iq_ord; (repeat' split) <;> omega)]; exact rk k (by omega)
  have Lek : ∀ k, k < 3 → iq_La x G6 (21 + k) = gg6 k := fun k hk => by rw [iq_La_c (k := 151 + k) (by omega) (by unfold iq_ord; (repeat' split) <;> omega)]; exact rr k (by omega)
  have Lef : ∀ k, k < 120 → iq_La x G6 (155 + k) = gg6 (3 + k) := fun k hk => by rw [iq_La_c (k := 151 + (3 + k)) (by omega) (by unfold iq_ord; (repeat' split) <;> omega)]; exact rr _ (by omega)
  have L1 : iq_La x G6 1 = q1 := by rw [iq_La_c (k := 0) (by decide) rfl, s5 0 (by decide), c2.1]
  have L2 : iq_La x G6 2 = a1 := by rw [iq_La_c (k := 1) (by decide) rfl, s5 1 (by decide), c2.2.1]
  have L3 : iq_La x G6 3 = q3 := by rw [iq_La_c (k := 2) (by decide) rfl, s5 2 (by decide), c2.2.2.1]
  have L4b : iq_La x G6 4 = u2 := by rw [iq_La_c (k := 3) (by decide) rfl, s5 3 (by decide), c2.2.2.2.1]
  have L5b : iq_La x G6 5 = v2 := by rw [iq_La_c (k := 4) (by decide) rfl, s5 4 (by decide), c2.2.2.2.2]
  have L6b : iq_La x G6 6 = q6 := by rw [iq_La_c (k := 5) (by decide) rfl, s91 5 (by decide), j3]
  have L12 : iq_La x G6 12 = q9 := by rw [iq_La_c (k := 91) (by decide) rfl, s146 91 (by decide), j4]
  have L16 : iq_La x G6 16 = q12 := by rw [iq_La_c (k := 146) (by decide) rfl, s150 146 (by decide), j5]
  have L20 : iq_La x G6 20 = q15 := by rw [iq_La_c (k := 150) (by decide) rfl, j6]
  have ne : ∀ r, r < 275 → r ≠ 0 → iq_La x G6 r ≠ x := fun r hr h0 => by rw [iq_La_c (k := iq_ord r) h0 rfl]; exact nx _ (iq_ord_lt h0 hr)
  have nd : ∀ k, k < 85 → gg3 k ≠ x := fun k hk => by rw [← dk k hk]; exact nx _ (by omega)
  have ns : ∀ k, k < 54 → gg4 k ≠ x := fun k hk => by rw [← sk k hk]; exact nx _ (by omega)
  have nr : ∀ k, k < 3 → gg5 k ≠ x := fun k hk => by rw [← rk k hk]; exact nx _ (by omega)
  have nf : ∀ k, k < 123 → gg6 k ≠ x := fun k hk => by rw [← rr k hk]; exact nx _ (by omega)
  have f0 : iq_La x G6 0 = x := rfl
  have fr : ∀ r, r < 275 → r ≠ 0 → M (iq_La x G6 r) = none := fun r hr h0 => by rw [iq_La_c (k := iq_ord r) h0 rfl]; exact (g6u.1 _ (iq_ord_lt h0 hr)).1
  have inj : mq_inj (iq_La x G6) := iq_La_inj g6u (iq_some hM)
  generalize iq_La x G6 = La at *
  refine xr_vret C hr hlk ⟨rfl, La, f0, inj, fr, ?_, ?_, ?_, ⟨?_, ?_, ?_⟩, ?_, ?_, ?_, L6⟩ (by omega) (by omega) dX11_init_78
  · unfold vtO
    rw [f0, L3, L6b, L12, L16, L20]
    exact y6
  · rw [L1, L2]
    exact hC1.kx J1t (by rw [← L1]; exact ne 1 (by decide) (by decide)) (by rw [← L2]; exact ne 2 (by decide) (by decide))
  · rw [L3, L4b, L5b]
    exact hC2.kx J2t (by rw [← L3]; exact ne 3 (by decide) (by decide)) (by rw [← L4b]; exact ne 4 (by decide) (by decide)) (by rw [← L5b]; exact ne 5 (by decide) (by decide))
  · rw [show La 7 = gg3 0 from Ldk 0 (by decide), show La 8 = gg3 1 from Ldk 1 (by decide)]
    exact d3a.kx J3t (nd 0 (by decide)) (nd 1 (by decide))
  · rw [show La 9 = gg3 2 from Ldk 2 (by decide), show La 10 = gg3 3 from Ldk 3 (by decide)]
    exact d3b.kx J3t (nd 2 (by decide)) (nd 3 (by decide))
  · refine ⟨?_, ?_, fun i hi => ?_⟩
    · rw [L6b, L1, show La 7 = gg3 0 from Ldk 0 (by decide), show La 9 = gg3 2 from Ldk 2 (by decide), show La 11 = gg3 4 from Ldk 4 (by decide)]
      exact (J3t _ (iq_some d3x) (by rw [← L6b]; exact ne 6 (by decide) (by decide))).trans d3x
    · obtain ⟨f, fa, fb⟩ := d3f
      refine ⟨f, ?_, fun i hi => ?_⟩
      · rw [show La 11 = gg3 4 from Ldk 4 (by decide)]
        exact (J3t _ (iq_some fa) (nd 4 (by decide))).trans fa
      · rw [fb i hi, Ldf (5 * i) (by omega)]
    · show dfI G _ (La (24 + 5 * i)) (La (25 + 5 * i)) (La (26 + 5 * i)) (La (27 + 5 * i)) (La (28 + 5 * i)) 0 [] [] 0
      rw [show 25 + 5 * i = 24 + (5 * i + 1) by omega, show 26 + 5 * i = 24 + (5 * i + 2) by omega, show 27 + 5 * i = 24 + (5 * i + 3) by omega, show 28 + 5 * i = 24 + (5 * i + 4) by omega, Ldf _ (by omega), Ldf _ (by omega), Ldf _ (by omega), Ldf _ (by omega), Ldf _ (by omega)]
      exact (d3d i hi).kx J3t (nd _ (by omega)) (nd _ (by omega)) (nd _ (by omega)) (nd _ (by omega)) (nd _ (by omega))
  · refine ⟨?_, ?_, ?_, ?_, fun i hi => ?_⟩
    · rw [L12, L3, show La 13 = gg4 0 from Lsk 0 (by decide), show La 14 = gg4 1 from Lsk 1 (by decide), show La 15 = gg4 2 from Lsk 2 (by decide), show La (104 + 3 * 16) = gg4 51 from Lsf 48 (by decide)]
      exact (J4t _ (iq_some d4x) (by rw [← L12]; exact ne 12 (by decide) (by decide))).trans d4x
    · obtain ⟨f, fa, fb⟩ := d4f
      refine ⟨f, ?_, fun i hi => ?_⟩
      · rw [show La 13 = gg4 0 from Lsk 0 (by decide)]
        exact (J4t _ (iq_some fa) (ns 0 (by decide))).trans fa
      · rw [fb i hi, Lsf (3 * i) (by omega)]
    · rw [show La 14 = gg4 1 from Lsk 1 (by decide)]
      exact ⟨_, (J4t _ (iq_some d4n) (ns 1 (by decide))).trans d4n, fun _ _ => rfl⟩
    · rw [show La 15 = gg4 2 from Lsk 2 (by decide)]
      exact ⟨_, (J4t _ (iq_some d4h) (ns 2 (by decide))).trans d4h, fun _ _ => rfl⟩
    · show voI G _ (La (104 + 3 * i)) (La 1) (La (105 + 3 * i)) (La (106 + 3 * i)) false [] 0
      rw [show 105 + 3 * i = 104 + (3 * i + 1) by omega, show 106 + 3 * i = 104 + (3 * i + 2) by omega, Lsf _ (by omega), Lsf _ (by omega), Lsf _ (by omega), L1]
      exact (d4d i hi).kx J4t (ns _ (by omega)) (ns _ (by omega)) (ns _ (by omega))
  · refine ⟨?_, ?_, ?_⟩
    · rw [L16, L3, show La 17 = gg5 0 from Lrk 0 (by decide), show La 19 = gg5 2 from Lrk 2 (by decide), gg5b.1, gg5b.2.2]
      exact (J5t _ (iq_some d5x) (by rw [← L16]; exact ne 16 (by decide) (by decide))).trans d5x
    · rw [show La 17 = gg5 0 from Lrk 0 (by decide), show La 18 = gg5 1 from Lrk 1 (by decide)]
      have z0 := nr 0 (by decide)
      have z1 := nr 1 (by decide)
      rw [gg5b.1] at z0 ⊢
      rw [gg5b.2.1] at z1 ⊢
      exact d5b.kx J5t z0 z1
    · rw [show La 19 = gg5 2 from Lrk 2 (by decide)]
      have z2 := nr 2 (by decide)
      rw [gg5b.2.2] at z2 ⊢
      exact ⟨_, (J5t _ (iq_some d5r) z2).trans d5r, fun _ _ => rfl⟩
  · refine ⟨?_, ?_, ?_, fun i hi => ?_⟩
    · rw [L20, L1, show La 21 = gg6 0 from Lek 0 (by decide), show La 23 = gg6 2 from Lek 2 (by decide)]
      exact (J6 _ (iq_some d6x) (by rw [← L20]; exact ne 20 (by decide) (by decide))).trans d6x
    · rw [show La 21 = gg6 0 from Lek 0 (by decide), show La 22 = gg6 1 from Lek 1 (by decide)]
      exact d6a.kx J6 (nf 0 (by decide)) (nf 1 (by decide))
    · obtain ⟨f, fa, fb⟩ := d6f
      refine ⟨f, ?_, fun i hi => ?_⟩
      · rw [show La 23 = gg6 2 from Lek 2 (by decide)]
        exact (J6 _ (iq_some fa) (nf 2 (by decide))).trans fa
      · rw [fb i hi, Lef (3 * i) (by omega)]
    · unfold ffV
      rw [show 156 + 3 * i = 155 + (3 * i + 1) by omega, show 157 + 3 * i = 155 + (3 * i + 2) by omega, Lef _ (by omega), Lef _ (by omega), Lef _ (by omega)]
      exact (d6d i hi).kx J6 (nf _ (by omega)) (nf _ (by omega)) (nf _ (by omega))
