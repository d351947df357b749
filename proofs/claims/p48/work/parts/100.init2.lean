set_option maxHeartbeats 4000000 in
set_option maxRecDepth 100000 in
theorem c_Desk_init (l : Launch) (G : mq_G) (x ch : Nat) (M : mq_M) (hM : M x = some (.inr (2, [.null, .null, .null, .null, .int 0]))) : mq_T l yX2_init wsX2_init { frames := 3, cells := 85, slots := 12170, locals := 53 } G [.ref x, .ref ch] M (mq_pv (fun M2 => ∃ g : Nat → Nat, iq_g M M2 g 85 ∧ M2 x = some (.inr (2, [.ref ch, .ref (g 0), .ref (g 2), .ref (g 4), .int 0])) ∧ bI G M2 (g 0) (g 1) 240 [] ∧ bI G M2 (g 2) (g 3) 4070 [] ∧ (∃ f : Nat → Option Nat, M2 (g 4) = some (.inl (G.2.2.1, 16, .inr (.inr (.inr (.inr f))))) ∧ ∀ j, j < 16 → f j = some (g (5 + 5 * j))) ∧ (∀ j, j < 16 → dfI G M2 (g (5 + 5 * j)) (g (5 + 5 * j + 1)) (g (5 + 5 * j + 2)) (g (5 + 5 * j + 3)) (g (5 + 5 * j + 4)) 0 [] [] 0) ∧ iq_K x M M2)) 85 12170 := by
  refine mq_Met.of (cc := cX2_init) (maxL := 3) (ret := none) (by decide) rfl (Nat.le_of_ble_eq_true rfl) rfl rfl ?_
  intro p_ e_ s_ m_ args_ below_ meth_ c_ z_ C hr hlk hname
  refine xr_aload_n C dX2_init_0 rfl ?_
  refine xr_objI C (C.1.2.2.2.2 (.methodLink RX2 3 objectInit) (by decide +kernel)) (C.1.2.2.2.2 (.instanceMethod objectInit) (by decide +kernel)) (C.1.2.2.2.2 (.code objectInit ⟨#[0xb1]⟩ 1 none) (by decide +kernel)) (Nat.le_of_ble_eq_true rfl) (Nat.le_of_ble_eq_true rfl) dX2_init_1 ?_
  refine xr_aload_n C dX2_init_4 rfl ?_
  refine xr_new C (ci := 0) (fs := [.null, .int 0]) (Cn := RX0) (T := TX0) (N := 2) (by decide +kernel) tyX0 tyX0_ok (C.1.2.2.2.2 (.classLink RX2 9 RX0) (by decide +kernel)) (C.1.2.2.2.2 (.instantiable RX0 2) (by decide +kernel)) (C.1.2.2.2.2 (.initialized RX0) (by decide +kernel)) rfl (fun j hj => by rcases (show j = 0 ∨ j = 1 by omega) with rfl | rfl <;> rfl) (by dsimp only; omega) (by dsimp only; omega) dX2_init_5 (fun q1 hq1 => ?_)
  refine mq_ren (fun M2 hM2 => ?_)
  have hZ1 : M2 q1 = some (.inr (0, [.null, .int 0])) := by rw [hM2, mq_up_s]
  refine xr_dup C dX2_init_8 rfl ?_
  refine xr_sipush (n := 240) C dX2_init_9 (by decide +kernel) ?_
  refine xr_callI1 C (c_Bytes_init l G q1 M2 hZ1 240 (by decide)) (cwI 1 C.1.2.2.2.2 gX2_init_X0_init rfl rfl rfl (C.1.2.2.2.2 (.initialized RX0) (by decide +kernel)) (C.1.2.2.2.2 (.methodLink RX2 11 yX0_init) (by decide +kernel)) (C.1.2.2.2.2 (.instanceMethod yX0_init) (by decide +kernel)) rfl (by decide +kernel) ⟨Nat.le_of_ble_eq_true rfl, Nat.le_of_ble_eq_true rfl⟩) (Nat.le_of_ble_eq_true rfl) ⟨by dsimp only; omega, by dsimp only; omega⟩ dX2_init_12 (fun N1 hp1 => ?_)
  obtain ⟨a1, ha1, hB1, hF1⟩ := hp1
  obtain ⟨hK1, hA1, hn1⟩ := iq_Z.bytes hq1 hM2 ha1 hF1
  have mq1 := hq1
  have ma1 := hA1
  have xz1 := (hK1 x (iq_some hM)).trans hM
  have K1n := hK1.K x
  refine xr_putF C (Cn := RX2) (T := TX2) (N := 5) (by decide +kernel) xz1 rfl 1 (by decide) tyX2 tyX2_ok nmX2 (C.1.2.2.2.2 (.fieldLink RX2 14 "OssuaryVault$Desk" "sheet" "LOssuaryVault$Bytes;") (by decide +kernel)) (fun _ h => h) rfl hname rfl (tyX2_ok 1 (by decide)) rfl rfl (Nat.le_of_ble_eq_true rfl) dX2_init_15 ?_
  refine mq_ren (fun M3 hM3 => ?_)
  have xp1 : M3 x = some (.inr (2, [.null, .ref q1, .null, .null, .int 0])) := by rw [hM3, mq_up_s]; rfl
  have hB1p1 := hB1.up hM3 (iq_nx (iq_some hM) mq1) (iq_nx (iq_some hM) ma1)
  have Kp1 := K1n.up hM3
  refine xr_aload_n C dX2_init_18 rfl ?_
  refine xr_new C (ci := 0) (fs := [.null, .int 0]) (Cn := RX0) (T := TX0) (N := 2) (by decide +kernel) tyX0 tyX0_ok (C.1.2.2.2.2 (.classLink RX2 9 RX0) (by decide +kernel)) (C.1.2.2.2.2 (.instantiable RX0 2) (by decide +kernel)) (C.1.2.2.2.2 (.initialized RX0) (by decide +kernel)) rfl (fun j hj => by rcases (show j = 0 ∨ j = 1 by omega) with rfl | rfl <;> rfl) (by dsimp only; omega) (by dsimp only; omega) dX2_init_19 (fun q4 hq4 => ?_)
  refine mq_ren (fun M5 hM5 => ?_)
  have hZ3 : M5 q4 = some (.inr (0, [.null, .int 0])) := by rw [hM5, mq_up_s]
  refine xr_dup C dX2_init_22 rfl ?_
  refine xr_sipush (n := 4070) C dX2_init_23 (by decide +kernel) ?_
  refine xr_callI1 C (c_Bytes_init l G q4 M5 hZ3 4070 (by decide)) (cwI 1 C.1.2.2.2.2 gX2_init_X0_init rfl rfl rfl (C.1.2.2.2.2 (.initialized RX0) (by decide +kernel)) (C.1.2.2.2.2 (.methodLink RX2 11 yX0_init) (by decide +kernel)) (C.1.2.2.2.2 (.instanceMethod yX0_init) (by decide +kernel)) rfl (by decide +kernel) ⟨Nat.le_of_ble_eq_true rfl, Nat.le_of_ble_eq_true rfl⟩) (Nat.le_of_ble_eq_true rfl) ⟨by dsimp only; omega, by dsimp only; omega⟩ dX2_init_26 (fun N3 hp3 => ?_)
  obtain ⟨a3, ha3, hB3, hF3⟩ := hp3
  obtain ⟨hK3, hA3, hn3⟩ := iq_Z.bytes hq4 hM5 ha3 hF3
  have mq3 := (Kp1.nil (iq_some xp1) hq4)
  have ma3 := (Kp1.nil (iq_some xp1) hA3)
  have xz3 := (hK3 x (iq_some xp1)).trans xp1
  have hB1p1z3 := hB1p1.k0 hK3
  have K3n := Kp1.tr0 hK3
  refine xr_putF C (Cn := RX2) (T := TX2) (N := 5) (by decide +kernel) xz3 rfl 2 (by decide) tyX2 tyX2_ok nmX2 (C.1.2.2.2.2 (.fieldLink RX2 20 "OssuaryVault$Desk" "stream" "LOssuaryVault$Bytes;") (by decide +kernel)) (fun _ h => h) rfl hname rfl (tyX2_ok 2 (by decide)) rfl rfl (Nat.le_of_ble_eq_true rfl) dX2_init_29 ?_
  refine mq_ren (fun M6 hM6 => ?_)
  have xp3 : M6 x = some (.inr (2, [.null, .ref q1, .ref q4, .null, .int 0])) := by rw [hM6, mq_up_s]; rfl
  have hB1p1z3p3 := hB1p1z3.up hM6 (iq_nx (iq_some hM) mq1) (iq_nx (iq_some hM) ma1)
  have hB3p3 := hB3.up hM6 (iq_nx (iq_some hM) mq3) (iq_nx (iq_some hM) ma3)
  have Kp3 := K3n.up hM6
  refine xr_aload_n C dX2_init_32 rfl ?_
  refine xr_bipush (n := 16) C dX2_init_33 (by decide +kernel) ?_
  refine xr_newR C (Cn := RX3) (C.1.2.2.2.2 (.classLink RX2 23 RX3) (by decide +kernel)) (by decide +kernel) mq_tF (by omega) (by dsimp only; omega) (by dsimp only; omega) dX2_init_35 (fun q7 hq7 => ?_)
  refine mq_ren (fun M8 hM8 => ?_)
  have ms := (Kp3.nil (iq_some xp3) hq7)
  have Zs : iq_Z M6 M8 := iq_Z.rf.new hq7 hM8
  have xzs := (Zs x (iq_some xp3)).trans xp3
  have hB1p1z3p3zs := hB1p1z3p3.k0 Zs
  have hB3p3zs := hB3p3.k0 Zs
  have hrs : M8 q7 = some (.inl (G.2.2.1, 16, .inr (.inr (.inr (.inr (fun _ => none)))))) := by rw [hM8, mq_up_s]; rfl
  have Ksn := Kp3.new hq7 hM8
  refine xr_putF C (Cn := RX2) (T := TX2) (N := 5) (by decide +kernel) xzs rfl 3 (by decide) tyX2 tyX2_ok nmX2 (C.1.2.2.2.2 (.fieldLink RX2 25 "OssuaryVault$Desk" "slots" "[LOssuaryVault$DeskFile;") (by decide +kernel)) (fun _ h => h) rfl hname rfl (tyX2_ok 3 (by decide)) rfl rfl (Nat.le_of_ble_eq_true rfl) dX2_init_38 ?_
  refine mq_ren (fun M9 hM9 => ?_)
  have xp5 : M9 x = some (.inr (2, [.null, .ref q1, .ref q4, .ref q7, .int 0])) := by rw [hM9, mq_up_s]; rfl
  have hB1p1z3p3zsp5 := hB1p1z3p3zs.up hM9 (iq_nx (iq_some hM) mq1) (iq_nx (iq_some hM) ma1)
  have hB3p3zsp5 := hB3p3zs.up hM9 (iq_nx (iq_some hM) mq3) (iq_nx (iq_some hM) ma3)
  have hrsp5 : M9 q7 = some (.inl (G.2.2.1, 16, .inr (.inr (.inr (.inr (fun _ => none)))))) := by rw [hM9, mq_up_n (Ne.symm (iq_nx (iq_some hM) ms))]; exact hrs
  have Kp5 := Ksn.up hM9
  refine xr_aload_n C dX2_init_41 rfl ?_
  refine xr_aload_n C dX2_init_42 rfl ?_
  refine xr_putF C (Cn := RX2) (T := TX2) (N := 5) (by decide +kernel) xp5 rfl 0 (by decide) tyX2 tyX2_ok nmX2 (C.1.2.2.2.2 (.fieldLink RX2 29 "OssuaryVault$Desk" "check" "LOssuaryVault$Check;") (by decide +kernel)) (fun _ h => h) rfl hname rfl (tyX2_ok 0 (by decide)) rfl rfl (Nat.le_of_ble_eq_true rfl) dX2_init_43 ?_
  refine mq_ren (fun M10 hM10 => ?_)
  have xp6 : M10 x = some (.inr (2, [.ref ch, .ref q1, .ref q4, .ref q7, .int 0])) := by rw [hM10, mq_up_s]; rfl
  have hB1p1z3p3zsp5p6 := hB1p1z3p3zsp5.up hM10 (iq_nx (iq_some hM) mq1) (iq_nx (iq_some hM) ma1)
  have hB3p3zsp5p6 := hB3p3zsp5.up hM10 (iq_nx (iq_some hM) mq3) (iq_nx (iq_some hM) ma3)
  have hrsp5p6 : M10 q7 = some (.inl (G.2.2.1, 16, .inr (.inr (.inr (.inr (fun _ => none)))))) := by rw [hM10, mq_up_n (Ne.symm (iq_nx (iq_some hM) ms))]; exact hrsp5
  have Kp6 := Kp5.up hM10
  have d13 : q1 ≠ q4 ∧ a1 ≠ q4 ∧ q1 ≠ a3 ∧ a1 ≠ a3 := ⟨iq_nx hB1p1.nn.1 hq4, iq_nx hB1p1.nn.2 hq4, iq_nx hB1p1.nn.1 hA3, iq_nx hB1p1.nn.2 hA3⟩
  have d15 : q1 ≠ q7 ∧ a1 ≠ q7 ∧ q4 ≠ q7 ∧ a3 ≠ q7 := ⟨iq_nx hB1p1z3p3.nn.1 hq7, iq_nx hB1p1z3p3.nn.2 hq7, iq_nx hB3p3.nn.1 hq7, iq_nx hB3p3.nn.2 hq7⟩
  have hg0 : iq_g M M10 (iq_gl (fun _ => 0) 0 [q1, a1, q4, a3, q7]) 5 := iq_g.base (iq_some hM) (by simp only [List.mem_cons, List.not_mem_nil, or_false, forall_eq_or_imp, forall_eq]; exact ⟨⟨mq1, hB1p1z3p3zsp5p6.nn.1⟩, ⟨ma1, hB1p1z3p3zsp5p6.nn.2⟩, ⟨mq3, hB3p3zsp5p6.nn.1⟩, ⟨ma3, hB3p3zsp5p6.nn.2⟩, ⟨ms, iq_some hrsp5p6⟩⟩) (by simp only [List.nodup_cons, List.mem_cons, List.not_mem_nil, or_false, not_or, not_false_eq_true, List.nodup_nil, and_true]; exact ⟨⟨Ne.symm hn1, d13.1, d13.2.2.1, d15.1⟩, ⟨d13.2.1, d13.2.2.2, d15.2.1⟩, ⟨Ne.symm hn3, d15.2.2.1⟩, d15.2.2.2⟩) (fun z hz => Kp6.nn (iq_some xp6) hz)
  refine xr_iconst (n := 0) C dX2_init_46 (by decide +kernel) ?_
  refine xr_istore_n C dX2_init_47 (by decide) rfl ?_
  refine mq_widen (k := 5 + 5 * 0) (n := 4330 + 490 * 0) (by omega) (by omega) ?_
  refine mq_loopK (σ := Nat × mq_M × (Nat → Option Nat) × (Nat → Nat)) (fun y => y.1 ≤ 16 ∧ y.2.1 x = some (.inr (2, [.ref ch, .ref q1, .ref q4, .ref q7, .int 0])) ∧ bI G y.2.1 q1 a1 240 [] ∧ bI G y.2.1 q4 a3 4070 [] ∧ y.2.1 q7 = some (.inl (G.2.2.1, 16, .inr (.inr (.inr (.inr y.2.2.1))))) ∧ iq_g M y.2.1 y.2.2.2 (5 + 5 * y.1) ∧ (∀ k, k < 5 → y.2.2.2 k = [q1, a1, q4, a3, q7].getD k 0) ∧ (∀ j, j < y.1 → y.2.2.1 j = some (y.2.2.2 (5 + 5 * j)) ∧ dfI G y.2.1 (y.2.2.2 (5 + 5 * j)) (y.2.2.2 (5 + 5 * j + 1)) (y.2.2.2 (5 + 5 * j + 2)) (y.2.2.2 (5 + 5 * j + 3)) (y.2.2.2 (5 + 5 * j + 4)) 0 [] [] 0) ∧ iq_K x M y.2.1) (fun y => 16 - y.1) (fun y => 5 + 5 * y.1) (fun y => 4330 + 490 * y.1) (fun y => y.2.1) (fun y => [some (.ref x), some (.ref ch), some (.int (zI (y.1 : Int)))]) (fun y => []) ?_ (0, M10, (fun _ => none), iq_gl (fun _ => 0) 0 [q1, a1, q4, a3, q7]) ⟨Nat.zero_le _, xp6, hB1p1z3p3zsp5p6, hB3p3zsp5p6, hrsp5p6, hg0, (fun k _ => by have := iq_gl_ge (g := fun _ => 0) (n := 0) (qs := [q1, a1, q4, a3, q7]) k; rw [Nat.zero_add] at this; exact this), (fun j hj => absurd hj (Nat.not_lt_zero j)), Kp6⟩
  rintro ⟨i, M9, f, g⟩ ⟨hi, k1, k2, k3, k4, k5, k6, k7, k8⟩ ih
  dsimp only at hi k1 k2 k3 k4 k5 k6 k7 k8 ih ⊢
  refine xr_iload_n C dX2_init_48 rfl ?_
  refine xr_aload_n C dX2_init_49 rfl ?_
  refine xr_get C (Cn := RX2) (T := TX2) (N := 5) (by decide +kernel) k1 rfl 3 (by decide) (C.1.2.2.2.2 (.fieldLink RX2 25 "OssuaryVault$Desk" "slots" "[LOssuaryVault$DeskFile;") (by decide +kernel)) (fun _ h => h) rfl dX2_init_50 ?_
  refine xr_alen C k4 mq_tF dX2_init_53 ?_
  refine xr_icmp_ge C dX2_init_54 rfl (by first | omega | (dsimp only; omega)) (by first | omega | (dsimp only; omega)) (fun hq11 => ?_) (fun hq11 => ?_)
  · exact xr_vret C hr hlk ⟨rfl, g, by rw [show (85 : Nat) = 5 + 5 * i by omega]; exact k5, by rw [k6 0 (by decide), k6 2 (by decide), k6 4 (by decide)]; exact k1, by rw [k6 0 (by decide), k6 1 (by decide)]; exact k2, by rw [k6 2 (by decide), k6 3 (by decide)]; exact k3, ⟨f, by rw [k6 4 (by decide)]; exact k4, fun j hj => (k7 j (by omega)).1⟩, fun j hj => (k7 j (by omega)).2, k8⟩ (by omega) (by omega) dX2_init_76
  · refine xr_aload_n C dX2_init_57 rfl ?_
    refine xr_get C (Cn := RX2) (T := TX2) (N := 5) (by decide +kernel) k1 rfl 3 (by decide) (C.1.2.2.2.2 (.fieldLink RX2 25 "OssuaryVault$Desk" "slots" "[LOssuaryVault$DeskFile;") (by decide +kernel)) (fun _ h => h) rfl dX2_init_58 ?_
    refine xr_iload_n C dX2_init_61 rfl ?_
    refine xr_new C (ci := 3) (fs := [.null, .null, .int 0, .int 0]) (Cn := RX3) (T := TX3) (N := 4) (by decide +kernel) tyX3 tyX3_ok (C.1.2.2.2.2 (.classLink RX2 23 RX3) (by decide +kernel)) (C.1.2.2.2.2 (.instantiable RX3 4) (by decide +kernel)) (C.1.2.2.2.2 (.initialized RX3) (by decide +kernel)) rfl (fun j hj => by rcases (show j = 0 ∨ j = 1 ∨ j = 2 ∨ j = 3 by omega) with rfl | rfl | rfl | rfl <;> rfl) (by dsimp only; omega) (by dsimp only; omega) dX2_init_62 (fun q12 hq12 => ?_)
    refine mq_ren (fun M13 hM13 => ?_)
    have hZ9 : M13 q12 = some (.inr (3, [.null, .null, .int 0, .int 0])) := by rw [hM13, mq_up_s]
    refine xr_dup C dX2_init_65 rfl ?_
    refine xr_callI0N C (c_DeskFile_init l G q12 M13 hZ9) ⟨va_cnB 0 C.1.2.2.2.2 ggX2_init_X3_init rfl rfl rfl (C.2.2.2.1 ("OssuaryVault$Desk", 33, ⟨"OssuaryVault$DeskFile", "<init>", "()V"⟩, "OssuaryVault") (by decide +kernel)) (C.1.2.2.2.2 (.initialized RX3) (by decide +kernel)) (by decide +kernel) ⟨Nat.le_of_ble_eq_true rfl, Nat.le_of_ble_eq_true rfl⟩, rfl, C.1.2.2.2.2 (.instanceMethod yX3_init) (by decide +kernel)⟩ (Nat.le_of_ble_eq_true rfl) ⟨by dsimp only; omega, by dsimp only; omega⟩ dX2_init_66 (fun N9 hp9 => ?_)
    obtain ⟨b9, a9, b8, a8, ⟨e1, e2, e3, e4⟩, hN, hD9, hK9⟩ := hp9
    have hZZ := iq_Z.obj hq12 hM13 hK9
    have s4 := (hZZ _ (iq_some k4)).trans k4
    refine xr_aast C (r := (RX3, TX3, 4)) s4 mq_tF hD9.1 rfl (by first | omega | (dsimp only; omega)) (by first | omega | (dsimp only; omega)) (by first | omega | (dsimp only; omega)) dX2_init_69 ?_
    refine mq_ren (fun M14 hM14 => ?_)
    rw [Int.toNat_natCast] at hM14
    have u1 := (iq_Z.back hM13 e1).1
    have u2 := (iq_Z.back hM13 e2).1
    have u3 := (iq_Z.back hM13 e3).1
    have u4 := (iq_Z.back hM13 e4).1
    have nsl : ∀ z ∈ [q12, b9, a9, b8, a8], z ≠ q7 := by
      simp only [List.mem_cons, List.not_mem_nil, or_false, forall_eq_or_imp, forall_eq]
      exact ⟨Ne.symm (iq_nx (iq_some k4) hq12), Ne.symm (iq_nx (iq_some k4) u1), Ne.symm (iq_nx (iq_some k4) u2), Ne.symm (iq_nx (iq_some k4) u3), Ne.symm (iq_nx (iq_some k4) u4)⟩
    have hD5 := hD9.up hM14 nsl
    have g5 : iq_g M M14 (iq_gl g (5 + 5 * i) [q12, b9, a9, b8, a8]) (5 + 5 * (i + 1)) := k5.add (k := 5) k8 (iq_some k1) (by
      simp only [List.mem_cons, List.not_mem_nil, or_false, forall_eq_or_imp, forall_eq]
      exact ⟨⟨hq12, iq_some hD5.1⟩, ⟨u1, hD5.2.1.nn.1⟩, ⟨u2, hD5.2.1.nn.2⟩, ⟨u3, hD5.2.2.nn.1⟩, u4, hD5.2.2.nn.2⟩) hN rfl (fun z hz => iq_upnn hM14 (hZZ.nn hz)) (by omega)
    have gsl : g 4 = q7 := k6 4 (by decide)
    have w1 : M14 x = some (.inr (2, [.ref ch, .ref q1, .ref q4, .ref q7, .int 0])) := by rw [hM14, mq_up_n (Ne.symm (by rw [← gsl]; exact k5.nx (by omega) (iq_some hM)))]; exact (hZZ _ (iq_some k1)).trans k1
    have w2 := (k2.k0 hZZ).up hM14 (Ne.symm d15.1) (Ne.symm d15.2.1)
    have w3 := (k3.k0 hZZ).up hM14 (Ne.symm d15.2.2.1) (Ne.symm d15.2.2.2)
    have w8 : iq_K x M M14 := (k8.tr0 hZZ).own ms hM14
    refine xr_iinc C dX2_init_70 rfl (by decide) rfl ?_
    refine xr_goto C dX2_init_73 rfl ?_
    refine mq_widen (k := 5 + 5 * (i + 1)) (n := 4330 + 490 * (i + 1)) (by omega) (by omega) ?_
    exact ih (i + 1, M14, va_up f i (some q12), iq_gl g (5 + 5 * i) [q12, b9, a9, b8, a8]) ⟨by dsimp only; omega, w1, w2, w3, by dsimp only; rw [hM14, mq_up_s], g5, fun j hj => by dsimp only; rw [iq_gl_lt (by omega)]; exact k6 j hj, fun j hj => by
      dsimp only at hj ⊢
      by_cases hji : j = i
      · subst hji
        have := iq_gl_ge (g := g) (n := 5 + 5 * j) (qs := [q12, b9, a9, b8, a8])
        have t0 : iq_gl g (5 + 5 * j) [q12, b9, a9, b8, a8] (5 + 5 * j) = q12 := this 0
        rw [t0, this 1, this 2, this 3, this 4]
        exact ⟨by simp [va_up], hD5⟩
      · have hj2 : j < i := by omega
        rw [iq_gl_lt (by omega), iq_gl_lt (by omega), iq_gl_lt (by omega), iq_gl_lt (by omega), iq_gl_lt (by omega)]
        refine ⟨by simp only [va_up, if_neg hji]; exact (k7 j hj2).1, ((k7 j hj2).2.k0 hZZ).up hM14 ?_⟩
        simp only [List.mem_cons, List.not_mem_nil, or_false, forall_eq_or_imp, forall_eq]
        rw [← gsl]
        exact ⟨k5.ne (by omega) (by omega) (by omega), k5.ne (by omega) (by omega) (by omega), k5.ne (by omega) (by omega) (by omega), k5.ne (by omega) (by omega) (by omega), k5.ne (by omega) (by omega) (by omega)⟩, w8⟩ (by dsimp only; omega)
