set_option maxHeartbeats 4000000 in
set_option maxRecDepth 100000 in
theorem c_Reading_init (l : Launch) (G : mq_G) (x ch : Nat) (M : mq_M) (hM : M x = some (.inr (6, [.null, .null, .null, .int 0, .int 0, .int 0, .int 0, .int 0]))) : mq_T l yX7_init wsX7_init { frames := 3, cells := 123, slots := 50622, locals := 53 } G [.ref x, .ref ch] M (mq_pv (fun M2 => ∃ g : Nat → Nat, iq_g M M2 g 123 ∧ M2 x = some (.inr (6, [.ref ch, .ref (g 0), .ref (g 2), .int 0, .int 0, .int 0, .int 0, .int 0])) ∧ bI G M2 (g 0) (g 1) 40700 [] ∧ (∃ f : Nat → Option Nat, M2 (g 2) = some (.inl (G.2.2.2.2, 40, .inr (.inr (.inr (.inr f))))) ∧ ∀ j, j < 40 → f j = some (g (3 + 3 * j))) ∧ (∀ j, j < 40 → ffI G M2 (g (3 + 3 * j)) (g (3 + 3 * j + 1)) (g (3 + 3 * j + 2)) [] 0 0 0 false) ∧ iq_K x M M2)) 123 50622 := by
  refine mq_Met.of (cc := cX7_init) (maxL := 3) (ret := none) (by decide) rfl (Nat.le_of_ble_eq_true rfl) rfl rfl ?_
  intro p_ e_ s_ m_ args_ below_ meth_ c_ z_ C hr hlk hname
  refine xr_aload_n C dX7_init_0 rfl ?_
  refine xr_objI C (C.1.2.2.2.2 (.methodLink RX7 3 objectInit) (by decide +kernel)) (C.1.2.2.2.2 (.instanceMethod objectInit) (by decide +kernel)) (C.1.2.2.2.2 (.code objectInit ⟨#[0xb1]⟩ 1 none) (by decide +kernel)) (Nat.le_of_ble_eq_true rfl) (Nat.le_of_ble_eq_true rfl) dX7_init_1 ?_
  refine xr_aload_n C dX7_init_4 rfl ?_
  refine xr_new C (ci := 0) (fs := [.null, .int 0]) (Cn := RX0) (T := TX0) (N := 2) (by decide +kernel) tyX0 tyX0_ok (C.1.2.2.2.2 (.classLink RX7 9 RX0) (by decide +kernel)) (C.1.2.2.2.2 (.instantiable RX0 2) (by decide +kernel)) (C.1.2.2.2.2 (.initialized RX0) (by decide +kernel)) rfl (fun j hj => by rcases (show j = 0 ∨ j = 1 by omega) with rfl | rfl <;> rfl) (by dsimp only; omega) (by dsimp only; omega) dX7_init_5 (fun q1 hq1 => ?_)
  refine mq_ren (fun M2 hM2 => ?_)
  have hZ1 : M2 q1 = some (.inr (0, [.null, .int 0])) := by rw [hM2, mq_up_s]
  refine xr_dup C dX7_init_8 rfl ?_
  refine xr_ldc (k0 := 40700) C (C.1.2.2.2.2 (.constant RX7 11 (zI 40700)) (by decide +kernel)) dX7_init_9 ?_
  refine xr_callI1 C (c_Bytes_init l G q1 M2 hZ1 40700 (by decide)) (cwI 1 C.1.2.2.2.2 gX7_init_X0_init rfl rfl rfl (C.1.2.2.2.2 (.initialized RX0) (by decide +kernel)) (C.1.2.2.2.2 (.methodLink RX7 12 yX0_init) (by decide +kernel)) (C.1.2.2.2.2 (.instanceMethod yX0_init) (by decide +kernel)) rfl (by decide +kernel) ⟨Nat.le_of_ble_eq_true rfl, Nat.le_of_ble_eq_true rfl⟩) (Nat.le_of_ble_eq_true rfl) ⟨by dsimp only; omega, by dsimp only; omega⟩ dX7_init_11 (fun N1 hp1 => ?_)
  obtain ⟨a1, ha1, hB1, hF1⟩ := hp1
  obtain ⟨hK1, hA1, hn1⟩ := iq_Z.bytes hq1 hM2 ha1 hF1
  have mq1 := hq1
  have ma1 := hA1
  have xz1 := (hK1 x (iq_some hM)).trans hM
  have K1n := hK1.K x
  refine xr_putF C (Cn := RX7) (T := TX7) (N := 8) (by decide +kernel) xz1 rfl 1 (by decide) tyX7 tyX7_ok nmX7 (C.1.2.2.2.2 (.fieldLink RX7 15 "OssuaryVault$Reading" "stream" "LOssuaryVault$Bytes;") (by decide +kernel)) (fun _ h => h) rfl hname rfl (tyX7_ok 1 (by decide)) rfl rfl (Nat.le_of_ble_eq_true rfl) dX7_init_14 ?_
  refine mq_ren (fun M3 hM3 => ?_)
  have xp1 : M3 x = some (.inr (6, [.null, .ref q1, .null, .int 0, .int 0, .int 0, .int 0, .int 0])) := by rw [hM3, mq_up_s]; rfl
  have hB1p1 := hB1.up hM3 (iq_nx (iq_some hM) mq1) (iq_nx (iq_some hM) ma1)
  have Kp1 := K1n.up hM3
  refine xr_aload_n C dX7_init_17 rfl ?_
  refine xr_bipush (n := 40) C dX7_init_18 (by decide +kernel) ?_
  refine xr_newR C (Cn := RX5) (C.1.2.2.2.2 (.classLink RX7 21 RX5) (by decide +kernel)) (by decide +kernel) mq_tG (by omega) (by dsimp only; omega) (by dsimp only; omega) dX7_init_20 (fun q4 hq4 => ?_)
  refine mq_ren (fun M5 hM5 => ?_)
  have ms := (Kp1.nil (iq_some xp1) hq4)
  have Zs : iq_Z M3 M5 := iq_Z.rf.new hq4 hM5
  have xzs := (Zs x (iq_some xp1)).trans xp1
  have hB1p1zs := hB1p1.k0 Zs
  have hrs : M5 q4 = some (.inl (G.2.2.2.2, 40, .inr (.inr (.inr (.inr (fun _ => none)))))) := by rw [hM5, mq_up_s]; rfl
  have Ksn := Kp1.new hq4 hM5
  refine xr_putF C (Cn := RX7) (T := TX7) (N := 8) (by decide +kernel) xzs rfl 2 (by decide) tyX7 tyX7_ok nmX7 (C.1.2.2.2.2 (.fieldLink RX7 23 "OssuaryVault$Reading" "entries" "[LOssuaryVault$FoundFile;") (by decide +kernel)) (fun _ h => h) rfl hname rfl (tyX7_ok 2 (by decide)) rfl rfl (Nat.le_of_ble_eq_true rfl) dX7_init_23 ?_
  refine mq_ren (fun M6 hM6 => ?_)
  have xp5 : M6 x = some (.inr (6, [.null, .ref q1, .ref q4, .int 0, .int 0, .int 0, .int 0, .int 0])) := by rw [hM6, mq_up_s]; rfl
  have hB1p1zsp5 := hB1p1zs.up hM6 (iq_nx (iq_some hM) mq1) (iq_nx (iq_some hM) ma1)
  have hrsp5 : M6 q4 = some (.inl (G.2.2.2.2, 40, .inr (.inr (.inr (.inr (fun _ => none)))))) := by rw [hM6, mq_up_n (Ne.symm (iq_nx (iq_some hM) ms))]; exact hrs
  have Kp5 := Ksn.up hM6
  refine xr_aload_n C dX7_init_26 rfl ?_
  refine xr_aload_n C dX7_init_27 rfl ?_
  refine xr_putF C (Cn := RX7) (T := TX7) (N := 8) (by decide +kernel) xp5 rfl 0 (by decide) tyX7 tyX7_ok nmX7 (C.1.2.2.2.2 (.fieldLink RX7 27 "OssuaryVault$Reading" "check" "LOssuaryVault$Check;") (by decide +kernel)) (fun _ h => h) rfl hname rfl (tyX7_ok 0 (by decide)) rfl rfl (Nat.le_of_ble_eq_true rfl) dX7_init_28 ?_
  refine mq_ren (fun M7 hM7 => ?_)
  have xp6 : M7 x = some (.inr (6, [.ref ch, .ref q1, .ref q4, .int 0, .int 0, .int 0, .int 0, .int 0])) := by rw [hM7, mq_up_s]; rfl
  have hB1p1zsp5p6 := hB1p1zsp5.up hM7 (iq_nx (iq_some hM) mq1) (iq_nx (iq_some hM) ma1)
  have hrsp5p6 : M7 q4 = some (.inl (G.2.2.2.2, 40, .inr (.inr (.inr (.inr (fun _ => none)))))) := by rw [hM7, mq_up_n (Ne.symm (iq_nx (iq_some hM) ms))]; exact hrsp5
  have Kp6 := Kp5.up hM7
  have d15 : q1 ≠ q4 ∧ a1 ≠ q4 := ⟨iq_nx hB1p1.nn.1 hq4, iq_nx hB1p1.nn.2 hq4⟩
  have hg0 : iq_g M M7 (iq_gl (fun _ => 0) 0 [q1, a1, q4]) 3 := iq_g.base (iq_some hM) (by simp only [List.mem_cons, List.not_mem_nil, or_false, forall_eq_or_imp, forall_eq]; exact ⟨⟨mq1, hB1p1zsp5p6.nn.1⟩, ⟨ma1, hB1p1zsp5p6.nn.2⟩, ⟨ms, iq_some hrsp5p6⟩⟩) (by simp only [List.nodup_cons, List.mem_cons, List.not_mem_nil, or_false, not_or, not_false_eq_true, List.nodup_nil, and_true]; exact ⟨⟨Ne.symm hn1, d15.1⟩, d15.2⟩) (fun z hz => Kp6.nn (iq_some xp6) hz)
  refine xr_iconst (n := 0) C dX7_init_31 (by decide +kernel) ?_
  refine xr_istore_n C dX7_init_32 (by decide) rfl ?_
  refine mq_widen (k := 3 + 3 * 0) (n := 40742 + 247 * 0) (by omega) (by omega) ?_
  refine mq_loopK (σ := Nat × mq_M × (Nat → Option Nat) × (Nat → Nat)) (fun y => y.1 ≤ 40 ∧ y.2.1 x = some (.inr (6, [.ref ch, .ref q1, .ref q4, .int 0, .int 0, .int 0, .int 0, .int 0])) ∧ bI G y.2.1 q1 a1 40700 [] ∧ y.2.1 q4 = some (.inl (G.2.2.2.2, 40, .inr (.inr (.inr (.inr y.2.2.1))))) ∧ iq_g M y.2.1 y.2.2.2 (3 + 3 * y.1) ∧ (∀ k, k < 3 → y.2.2.2 k = [q1, a1, q4].getD k 0) ∧ (∀ j, j < y.1 → y.2.2.1 j = some (y.2.2.2 (3 + 3 * j)) ∧ ffI G y.2.1 (y.2.2.2 (3 + 3 * j)) (y.2.2.2 (3 + 3 * j + 1)) (y.2.2.2 (3 + 3 * j + 2)) [] 0 0 0 false) ∧ iq_K x M y.2.1) (fun y => 40 - y.1) (fun y => 3 + 3 * y.1) (fun y => 40742 + 247 * y.1) (fun y => y.2.1) (fun y => [some (.ref x), some (.ref ch), some (.int (zI (y.1 : Int)))]) (fun y => []) ?_ (0, M7, (fun _ => none), iq_gl (fun _ => 0) 0 [q1, a1, q4]) ⟨Nat.zero_le _, xp6, hB1p1zsp5p6, hrsp5p6, hg0, (fun k _ => by have := iq_gl_ge (g := fun _ => 0) (n := 0) (qs := [q1, a1, q4]) k; rw [Nat.zero_add] at this; exact this), (fun j hj => absurd hj (Nat.not_lt_zero j)), Kp6⟩
  rintro ⟨i, M9, f, g⟩ ⟨hi, k1, k2, k4, k5, k6, k7, k8⟩ ih
  dsimp only at hi k1 k2 k4 k5 k6 k7 k8 ih ⊢
  refine xr_iload_n C dX7_init_33 rfl ?_
  refine xr_aload_n C dX7_init_34 rfl ?_
  refine xr_get C (Cn := RX7) (T := TX7) (N := 8) (by decide +kernel) k1 rfl 2 (by decide) (C.1.2.2.2.2 (.fieldLink RX7 23 "OssuaryVault$Reading" "entries" "[LOssuaryVault$FoundFile;") (by decide +kernel)) (fun _ h => h) rfl dX7_init_35 ?_
  refine xr_alen C k4 mq_tG dX7_init_38 ?_
  refine xr_icmp_ge C dX7_init_39 rfl (by first | omega | (dsimp only; omega)) (by first | omega | (dsimp only; omega)) (fun hq8 => ?_) (fun hq8 => ?_)
  · exact xr_vret C hr hlk ⟨rfl, g, by rw [show (123 : Nat) = 3 + 3 * i by omega]; exact k5, by rw [k6 0 (by decide), k6 2 (by decide)]; exact k1, by rw [k6 0 (by decide), k6 1 (by decide)]; exact k2, ⟨f, by rw [k6 2 (by decide)]; exact k4, fun j hj => (k7 j (by omega)).1⟩, fun j hj => (k7 j (by omega)).2, k8⟩ (by omega) (by omega) dX7_init_61
  · refine xr_aload_n C dX7_init_42 rfl ?_
    refine xr_get C (Cn := RX7) (T := TX7) (N := 8) (by decide +kernel) k1 rfl 2 (by decide) (C.1.2.2.2.2 (.fieldLink RX7 23 "OssuaryVault$Reading" "entries" "[LOssuaryVault$FoundFile;") (by decide +kernel)) (fun _ h => h) rfl dX7_init_43 ?_
    refine xr_iload_n C dX7_init_46 rfl ?_
    refine xr_new C (ci := 5) (fs := [.null, .int 0, .int 0, .int 0, .int 0]) (Cn := RX5) (T := TX5) (N := 5) (by decide +kernel) tyX5 tyX5_ok (C.1.2.2.2.2 (.classLink RX7 21 RX5) (by decide +kernel)) (C.1.2.2.2.2 (.instantiable RX5 5) (by decide +kernel)) (C.1.2.2.2.2 (.initialized RX5) (by decide +kernel)) rfl (fun j hj => by rcases (show j = 0 ∨ j = 1 ∨ j = 2 ∨ j = 3 ∨ j = 4 by omega) with rfl | rfl | rfl | rfl | rfl <;> rfl) (by dsimp only; omega) (by dsimp only; omega) dX7_init_47 (fun q9 hq9 => ?_)
    refine mq_ren (fun M10 hM10 => ?_)
    have hZ9 : M10 q9 = some (.inr (5, [.null, .int 0, .int 0, .int 0, .int 0])) := by rw [hM10, mq_up_s]
    refine xr_dup C dX7_init_50 rfl ?_
    refine xr_callI0N C (c_FoundFile_init l G q9 M10 hZ9) ⟨va_cnB 0 C.1.2.2.2.2 ggX7_init_X5_init rfl rfl rfl (C.2.2.2.1 ("OssuaryVault$Reading", 31, ⟨"OssuaryVault$FoundFile", "<init>", "()V"⟩, "OssuaryVault") (by decide +kernel)) (C.1.2.2.2.2 (.initialized RX5) (by decide +kernel)) (by decide +kernel) ⟨Nat.le_of_ble_eq_true rfl, Nat.le_of_ble_eq_true rfl⟩, rfl, C.1.2.2.2.2 (.instanceMethod yX5_init) (by decide +kernel)⟩ (Nat.le_of_ble_eq_true rfl) ⟨by dsimp only; omega, by dsimp only; omega⟩ dX7_init_51 (fun N9 hp9 => ?_)
    obtain ⟨b9, a9, e1, e2, hN, hD9, hK9⟩ := hp9
    have hZZ := iq_Z.obj hq9 hM10 hK9
    have s4 := (hZZ _ (iq_some k4)).trans k4
    refine xr_aast C (r := (RX5, TX5, 5)) s4 mq_tG hD9.1 rfl (by first | omega | (dsimp only; omega)) (by first | omega | (dsimp only; omega)) (by first | omega | (dsimp only; omega)) dX7_init_54 ?_
    refine mq_ren (fun M11 hM11 => ?_)
    rw [Int.toNat_natCast] at hM11
    have u1 := (iq_Z.back hM10 e1).1
    have u2 := (iq_Z.back hM10 e2).1
    have nsl : ∀ z ∈ [q9, b9, a9], z ≠ q4 := by
      simp only [List.mem_cons, List.not_mem_nil, or_false, forall_eq_or_imp, forall_eq]
      exact ⟨Ne.symm (iq_nx (iq_some k4) hq9), Ne.symm (iq_nx (iq_some k4) u1), Ne.symm (iq_nx (iq_some k4) u2)⟩
    have hD5 := hD9.up hM11 nsl
    have g5 : iq_g M M11 (iq_gl g (3 + 3 * i) [q9, b9, a9]) (3 + 3 * (i + 1)) := k5.add (k := 3) k8 (iq_some k1) (by
      simp only [List.mem_cons, List.not_mem_nil, or_false, forall_eq_or_imp, forall_eq]
      exact ⟨⟨hq9, iq_some hD5.1⟩, ⟨u1, hD5.2.nn.1⟩, u2, hD5.2.nn.2⟩) hN rfl (fun z hz => iq_upnn hM11 (hZZ.nn hz)) (by omega)
    have gsl : g 2 = q4 := k6 2 (by decide)
    have w1 : M11 x = some (.inr (6, [.ref ch, .ref q1, .ref q4, .int 0, .int 0, .int 0, .int 0, .int 0])) := by rw [hM11, mq_up_n (Ne.symm (by rw [← gsl]; exact k5.nx (by omega) (iq_some hM)))]; exact (hZZ _ (iq_some k1)).trans k1
    have w2 := (k2.k0 hZZ).up hM11 (Ne.symm d15.1) (Ne.symm d15.2)
    have w8 : iq_K x M M11 := (k8.tr0 hZZ).own ms hM11
    refine xr_iinc C dX7_init_55 rfl (by decide) rfl ?_
    refine xr_goto C dX7_init_58 rfl ?_
    refine mq_widen (k := 3 + 3 * (i + 1)) (n := 40742 + 247 * (i + 1)) (by omega) (by omega) ?_
    exact ih (i + 1, M11, va_up f i (some q9), iq_gl g (3 + 3 * i) [q9, b9, a9]) ⟨by dsimp only; omega, w1, w2, by dsimp only; rw [hM11, mq_up_s], g5, fun j hj => by dsimp only; rw [iq_gl_lt (by omega)]; exact k6 j hj, fun j hj => by
      dsimp only at hj ⊢
      by_cases hji : j = i
      · subst hji
        have := iq_gl_ge (g := g) (n := 3 + 3 * j) (qs := [q9, b9, a9])
        have t0 : iq_gl g (3 + 3 * j) [q9, b9, a9] (3 + 3 * j) = q9 := this 0
        rw [t0, this 1, this 2]
        exact ⟨by simp [va_up], hD5⟩
      · have hj2 : j < i := by omega
        rw [iq_gl_lt (by omega), iq_gl_lt (by omega), iq_gl_lt (by omega)]
        refine ⟨by simp only [va_up, if_neg hji]; exact (k7 j hj2).1, ((k7 j hj2).2.k0 hZZ).up hM11 ?_⟩
        simp only [List.mem_cons, List.not_mem_nil, or_false, forall_eq_or_imp, forall_eq]
        rw [← gsl]
        exact ⟨k5.ne (by omega) (by omega) (by omega), k5.ne (by omega) (by omega) (by omega), k5.ne (by omega) (by omega) (by omega)⟩, w8⟩ (by dsimp only; omega)
set_option maxHeartbeats 4000000 in
set_option maxRecDepth 100000 in
theorem c_Shelf_init (l : Launch) (G : mq_G) (x ch fd : Nat) (M : mq_M) (hM : M x = some (.inr (8, [.null, .null, .null, .null, .null, .int 0, .int 0]))) : mq_T l yX9_init wsX9_init { frames := 3, cells := 54, slots := 69510, locals := 54 } G [.ref x, .ref ch, .ref fd] M (mq_pv (fun M2 => ∃ g : Nat → Nat, iq_g M M2 g 54 ∧ M2 x = some (.inr (8, [.ref fd, .ref (g 0), .ref (g 1), .ref (g 2), .ref (g 51), .int 0, .int 0])) ∧ (∃ f : Nat → Option Nat, M2 (g 0) = some (.inl (G.2.2.2.1, 16, .inr (.inr (.inr (.inr f))))) ∧ ∀ j, j < 16 → f j = some (g (3 + 3 * j))) ∧ M2 (g 1) = some (.inl (G.2.1, 16, .inl (fun _ => 0))) ∧ M2 (g 2) = some (.inl (G.2.1, 16, .inl (fun _ => 0))) ∧ (∀ j, j < 17 → voI G M2 (g (3 + 3 * j)) ch (g (3 + 3 * j + 1)) (g (3 + 3 * j + 2)) false [] 0) ∧ iq_K x M M2)) 54 69510 := by
  refine mq_Met.of (cc := cX9_init) (maxL := 4) (ret := none) (by decide) rfl (Nat.le_of_ble_eq_true rfl) rfl rfl ?_
  intro p_ e_ s_ m_ args_ below_ meth_ c_ z_ C hr hlk hname
  refine xr_aload_n C dX9_init_0 rfl ?_
  refine xr_objI C (C.1.2.2.2.2 (.methodLink RX9 3 objectInit) (by decide +kernel)) (C.1.2.2.2.2 (.instanceMethod objectInit) (by decide +kernel)) (C.1.2.2.2.2 (.code objectInit ⟨#[0xb1]⟩ 1 none) (by decide +kernel)) (Nat.le_of_ble_eq_true rfl) (Nat.le_of_ble_eq_true rfl) dX9_init_1 ?_
  refine xr_aload_n C dX9_init_4 rfl ?_
  refine xr_bipush (n := 16) C dX9_init_5 (by decide +kernel) ?_
  refine xr_newR C (Cn := RX10) (C.1.2.2.2.2 (.classLink RX9 9 RX10) (by decide +kernel)) (by decide +kernel) mq_tV (by omega) (by dsimp only; omega) (by dsimp only; omega) dX9_init_7 (fun q1 hq1 => ?_)
  refine mq_ren (fun M2 hM2 => ?_)
  have ms := hq1
  have Zs : iq_Z M M2 := iq_Z.rf.new hq1 hM2
  have xzs := (Zs x (iq_some hM)).trans hM
  have hrs : M2 q1 = some (.inl (G.2.2.2.1, 16, .inr (.inr (.inr (.inr (fun _ => none)))))) := by rw [hM2, mq_up_s]; rfl
  have Ksn := (iq_Z.rf.new hq1 hM2).K x
  refine xr_putF C (Cn := RX9) (T := TX9) (N := 7) (by decide +kernel) xzs rfl 1 (by decide) tyX9 tyX9_ok nmX9 (C.1.2.2.2.2 (.fieldLink RX9 11 "OssuaryVault$Shelf" "places" "[LOssuaryVault$Volume;") (by decide +kernel)) (fun _ h => h) rfl hname rfl (tyX9_ok 1 (by decide)) rfl rfl (Nat.le_of_ble_eq_true rfl) dX9_init_10 ?_
  refine mq_ren (fun M3 hM3 => ?_)
  have xp1 : M3 x = some (.inr (8, [.null, .ref q1, .null, .null, .null, .int 0, .int 0])) := by rw [hM3, mq_up_s]; rfl
  have hrsp1 : M3 q1 = some (.inl (G.2.2.2.1, 16, .inr (.inr (.inr (.inr (fun _ => none)))))) := by rw [hM3, mq_up_n (Ne.symm (iq_nx (iq_some hM) ms))]; exact hrs
  have Kp1 := Ksn.up hM3
  refine xr_aload_n C dX9_init_13 rfl ?_
  refine xr_bipush (n := 16) C dX9_init_14 (by decide +kernel) ?_
  refine xr_newI C (C.1.2.2.2.2 (.arrayClass .int) (by decide +kernel)) mq_tI (by omega) (by dsimp only; omega) (by dsimp only; omega) dX9_init_16 (fun q4 hq4 => ?_)
  refine mq_ren (fun M5 hM5 => ?_)
  have mt := (Kp1.nil (iq_some xp1) hq4)
  have Zt : iq_Z M3 M5 := iq_Z.rf.new hq4 hM5
  have xzt := (Zt x (iq_some xp1)).trans xp1
  have hrsp1zt := (Zt _ (iq_some hrsp1)).trans hrsp1
  have hrt : M5 q4 = some (.inl (G.2.1, 16, .inl (fun _ => 0))) := by rw [hM5, mq_up_s]; rfl
  have Ktn := Kp1.new hq4 hM5
  refine xr_putF C (Cn := RX9) (T := TX9) (N := 7) (by decide +kernel) xzt rfl 2 (by decide) tyX9 tyX9_ok nmX9 (C.1.2.2.2.2 (.fieldLink RX9 17 "OssuaryVault$Shelf" "numbers" "[I") (by decide +kernel)) (fun _ h => h) rfl hname rfl (tyX9_ok 2 (by decide)) rfl rfl (Nat.le_of_ble_eq_true rfl) dX9_init_18 ?_
  refine mq_ren (fun M6 hM6 => ?_)
  have xp2 : M6 x = some (.inr (8, [.null, .ref q1, .ref q4, .null, .null, .int 0, .int 0])) := by rw [hM6, mq_up_s]; rfl
  have hrsp1ztp2 : M6 q1 = some (.inl (G.2.2.2.1, 16, .inr (.inr (.inr (.inr (fun _ => none)))))) := by rw [hM6, mq_up_n (Ne.symm (iq_nx (iq_some hM) ms))]; exact hrsp1zt
  have hrtp2 : M6 q4 = some (.inl (G.2.1, 16, .inl (fun _ => 0))) := by rw [hM6, mq_up_n (Ne.symm (iq_nx (iq_some hM) mt))]; exact hrt
  have Kp2 := Ktn.up hM6
  refine xr_aload_n C dX9_init_21 rfl ?_
  refine xr_bipush (n := 16) C dX9_init_22 (by decide +kernel) ?_
  refine xr_newI C (C.1.2.2.2.2 (.arrayClass .int) (by decide +kernel)) mq_tI (by omega) (by dsimp only; omega) (by dsimp only; omega) dX9_init_24 (fun q7 hq7 => ?_)
  refine mq_ren (fun M8 hM8 => ?_)
  have mu := (Kp2.nil (iq_some xp2) hq7)
  have Zu : iq_Z M6 M8 := iq_Z.rf.new hq7 hM8
  have xzu := (Zu x (iq_some xp2)).trans xp2
  have hrsp1ztp2zu := (Zu _ (iq_some hrsp1ztp2)).trans hrsp1ztp2
  have hrtp2zu := (Zu _ (iq_some hrtp2)).trans hrtp2
  have hru : M8 q7 = some (.inl (G.2.1, 16, .inl (fun _ => 0))) := by rw [hM8, mq_up_s]; rfl
  have Kun := Kp2.new hq7 hM8
  refine xr_putF C (Cn := RX9) (T := TX9) (N := 7) (by decide +kernel) xzu rfl 3 (by decide) tyX9 tyX9_ok nmX9 (C.1.2.2.2.2 (.fieldLink RX9 21 "OssuaryVault$Shelf" "holders" "[I") (by decide +kernel)) (fun _ h => h) rfl hname rfl (tyX9_ok 3 (by decide)) rfl rfl (Nat.le_of_ble_eq_true rfl) dX9_init_26 ?_
  refine mq_ren (fun M9 hM9 => ?_)
  have xp3 : M9 x = some (.inr (8, [.null, .ref q1, .ref q4, .ref q7, .null, .int 0, .int 0])) := by rw [hM9, mq_up_s]; rfl
  have hrsp1ztp2zup3 : M9 q1 = some (.inl (G.2.2.2.1, 16, .inr (.inr (.inr (.inr (fun _ => none)))))) := by rw [hM9, mq_up_n (Ne.symm (iq_nx (iq_some hM) ms))]; exact hrsp1ztp2zu
  have hrtp2zup3 : M9 q4 = some (.inl (G.2.1, 16, .inl (fun _ => 0))) := by rw [hM9, mq_up_n (Ne.symm (iq_nx (iq_some hM) mt))]; exact hrtp2zu
  have hrup3 : M9 q7 = some (.inl (G.2.1, 16, .inl (fun _ => 0))) := by rw [hM9, mq_up_n (Ne.symm (iq_nx (iq_some hM) mu))]; exact hru
  have Kp3 := Kun.up hM9
  refine xr_aload_n C dX9_init_29 rfl ?_
  refine xr_aload_n C dX9_init_30 rfl ?_
  refine xr_putF C (Cn := RX9) (T := TX9) (N := 7) (by decide +kernel) xp3 rfl 0 (by decide) tyX9 tyX9_ok nmX9 (C.1.2.2.2.2 (.fieldLink RX9 24 "OssuaryVault$Shelf" "field" "LOssuaryVault$Field;") (by decide +kernel)) (fun _ h => h) rfl hname rfl (tyX9_ok 0 (by decide)) rfl rfl (Nat.le_of_ble_eq_true rfl) dX9_init_31 ?_
  refine mq_ren (fun M10 hM10 => ?_)
  have xp4 : M10 x = some (.inr (8, [.ref fd, .ref q1, .ref q4, .ref q7, .null, .int 0, .int 0])) := by rw [hM10, mq_up_s]; rfl
  have hrsp1ztp2zup3p4 : M10 q1 = some (.inl (G.2.2.2.1, 16, .inr (.inr (.inr (.inr (fun _ => none)))))) := by rw [hM10, mq_up_n (Ne.symm (iq_nx (iq_some hM) ms))]; exact hrsp1ztp2zup3
  have hrtp2zup3p4 : M10 q4 = some (.inl (G.2.1, 16, .inl (fun _ => 0))) := by rw [hM10, mq_up_n (Ne.symm (iq_nx (iq_some hM) mt))]; exact hrtp2zup3
  have hrup3p4 : M10 q7 = some (.inl (G.2.1, 16, .inl (fun _ => 0))) := by rw [hM10, mq_up_n (Ne.symm (iq_nx (iq_some hM) mu))]; exact hrup3
  have Kp4 := Kp3.up hM10
  have d1 : q1 ≠ q4 := iq_nx (iq_some hrsp1) hq4
  have d2 : q1 ≠ q7 := iq_nx (iq_some hrsp1ztp2) hq7
  have d3 : q4 ≠ q7 := iq_nx (iq_some hrtp2) hq7
  have hg0 : iq_g M M10 (iq_gl (fun _ => 0) 0 [q1, q4, q7]) 3 := iq_g.base (iq_some hM) (by simp only [List.mem_cons, List.not_mem_nil, or_false, forall_eq_or_imp, forall_eq]; exact ⟨⟨ms, iq_some hrsp1ztp2zup3p4⟩, ⟨mt, iq_some hrtp2zup3p4⟩, ⟨mu, iq_some hrup3p4⟩⟩) (by simp only [List.nodup_cons, List.mem_cons, List.not_mem_nil, or_false, not_or, not_false_eq_true, List.nodup_nil, and_true]; exact ⟨⟨d1, d2⟩, d3⟩) (fun z hz => Kp4.nn (iq_some xp4) hz)
  refine xr_iconst (n := 0) C dX9_init_34 (by decide +kernel) ?_
  refine xr_istore_n C dX9_init_35 (by decide) rfl ?_
  refine mq_widen (k := 3 + 3 * 0) (n := 48 + 4086 * 0) (by omega) (by omega) ?_
  refine mq_loopK (σ := Nat × mq_M × (Nat → Option Nat) × (Nat → Nat)) (fun y => y.1 ≤ 16 ∧ y.2.1 x = some (.inr (8, [.ref fd, .ref q1, .ref q4, .ref q7, .null, .int 0, .int 0])) ∧ (y.2.1 q4 = some (.inl (G.2.1, 16, .inl (fun _ => 0))) ∧ y.2.1 q7 = some (.inl (G.2.1, 16, .inl (fun _ => 0)))) ∧ y.2.1 q1 = some (.inl (G.2.2.2.1, 16, .inr (.inr (.inr (.inr y.2.2.1))))) ∧ iq_g M y.2.1 y.2.2.2 (3 + 3 * y.1) ∧ (∀ k, k < 3 → y.2.2.2 k = [q1, q4, q7].getD k 0) ∧ (∀ j, j < y.1 → y.2.2.1 j = some (y.2.2.2 (3 + 3 * j)) ∧ voI G y.2.1 (y.2.2.2 (3 + 3 * j)) ch (y.2.2.2 (3 + 3 * j + 1)) (y.2.2.2 (3 + 3 * j + 2)) false [] 0) ∧ iq_K x M y.2.1) (fun y => 16 - y.1) (fun y => 3 + 3 * y.1) (fun y => 48 + 4086 * y.1) (fun y => y.2.1) (fun y => [some (.ref x), some (.ref ch), some (.ref fd), some (.int (zI (y.1 : Int)))]) (fun y => []) ?_ (0, M10, (fun _ => none), iq_gl (fun _ => 0) 0 [q1, q4, q7]) ⟨Nat.zero_le _, xp4, ⟨hrtp2zup3p4, hrup3p4⟩, hrsp1ztp2zup3p4, hg0, (fun k _ => by have := iq_gl_ge (g := fun _ => 0) (n := 0) (qs := [q1, q4, q7]) k; rw [Nat.zero_add] at this; exact this), (fun j hj => absurd hj (Nat.not_lt_zero j)), Kp4⟩
  rintro ⟨i, M9, f, g⟩ ⟨hi, k1, k2, k4, k5, k6, k7, k8⟩ ih
  dsimp only at hi k1 k2 k4 k5 k6 k7 k8 ih ⊢
  have gsl : g 0 = q1 := k6 0 (by decide)
  have gn1 : g 1 = q4 := k6 1 (by decide)
  have gn2 : g 2 = q7 := k6 2 (by decide)
  refine xr_iload_n C dX9_init_36 rfl ?_
  refine xr_aload_n C dX9_init_37 rfl ?_
  refine xr_get C (Cn := RX9) (T := TX9) (N := 7) (by decide +kernel) k1 rfl 1 (by decide) (C.1.2.2.2.2 (.fieldLink RX9 11 "OssuaryVault$Shelf" "places" "[LOssuaryVault$Volume;") (by decide +kernel)) (fun _ h => h) rfl dX9_init_38 ?_
  refine xr_alen C k4 mq_tV dX9_init_41 ?_
  refine xr_icmp_ge C dX9_init_42 rfl (by first | omega | (dsimp only; omega)) (by first | omega | (dsimp only; omega)) (fun hq11 => ?_) (fun hq11 => ?_)
  · have hi16 : i = 16 := by omega
    refine xr_aload_n C dX9_init_65 rfl ?_
    refine xr_new C (ci := 9) (fs := [.null, .null, .int 0, .int 0]) (Cn := RX10) (T := TX10) (N := 4) (by decide +kernel) tyX10 tyX10_ok (C.1.2.2.2.2 (.classLink RX9 9 RX10) (by decide +kernel)) (C.1.2.2.2.2 (.instantiable RX10 4) (by decide +kernel)) (C.1.2.2.2.2 (.initialized RX10) (by decide +kernel)) rfl (fun j hj => by rcases (show j = 0 ∨ j = 1 ∨ j = 2 ∨ j = 3 by omega) with rfl | rfl | rfl | rfl <;> rfl) (by dsimp only; omega) (by dsimp only; omega) dX9_init_66 (fun q12 hq12 => ?_)
    refine mq_ren (fun M13 hM13 => ?_)
    have hZ9 : M13 q12 = some (.inr (9, [.null, .null, .int 0, .int 0])) := by rw [hM13, mq_up_s]
    refine xr_dup C dX9_init_69 rfl ?_
    refine xr_aload_n C dX9_init_70 rfl ?_
    refine xr_callI1 C (c_Volume_init l G q12 ch M13 hZ9) (cwI 1 C.1.2.2.2.2 gX9_init_X10_init rfl rfl rfl (C.1.2.2.2.2 (.initialized RX10) (by decide +kernel)) (C.1.2.2.2.2 (.methodLink RX9 28 yX10_init) (by decide +kernel)) (C.1.2.2.2.2 (.instanceMethod yX10_init) (by decide +kernel)) rfl (by decide +kernel) ⟨Nat.le_of_ble_eq_true rfl, Nat.le_of_ble_eq_true rfl⟩) (Nat.le_of_ble_eq_true rfl) ⟨by dsimp only; omega, by dsimp only; omega⟩ dX9_init_71 (fun N9 hp9 => ?_)
    obtain ⟨b9, a9, e1, e2, hN, hD9, hK9⟩ := hp9
    have hZZ := iq_Z.obj hq12 hM13 hK9
    have s4 := (hZZ _ (iq_some k4)).trans k4
    have s1 := (hZZ _ (iq_some k2.1)).trans k2.1
    have s2 := (hZZ _ (iq_some k2.2)).trans k2.2
    have s0 := (hZZ _ (iq_some k1)).trans k1
    have u1 := (iq_Z.back hM13 e1).1
    have u2 := (iq_Z.back hM13 e2).1
    refine xr_put C (Cn := RX9) (T := TX9) (N := 7) (by decide +kernel) s0 rfl 4 (by decide) tyX9 tyX9_ok nmX9 (C.1.2.2.2.2 (.fieldLink RX9 31 "OssuaryVault$Shelf" "blank" "LOssuaryVault$Volume;") (by decide +kernel)) (fun _ h => h) rfl (tyX9_ok 4 (by decide)) rfl rfl (Nat.le_of_ble_eq_true rfl) dX9_init_74 ?_
    refine mq_ren (fun M14 hM14 => ?_)
    have kt := k1
    have nsl : ∀ z ∈ [q12, b9, a9], z ≠ x := by
      simp only [List.mem_cons, List.not_mem_nil, or_false, forall_eq_or_imp, forall_eq]
      exact ⟨Ne.symm (iq_nx (iq_some kt) hq12), Ne.symm (iq_nx (iq_some kt) u1), Ne.symm (iq_nx (iq_some kt) u2)⟩
    have hD5 := hD9.up hM14 nsl
    have g5 : iq_g M M14 (iq_gl g (3 + 3 * i) [q12, b9, a9]) (3 + 3 * (i + 1)) := k5.add (k := 3) k8 (iq_some k1) (by
      simp only [List.mem_cons, List.not_mem_nil, or_false, forall_eq_or_imp, forall_eq]
      exact ⟨⟨hq12, iq_some hD5.1⟩, ⟨u1, hD5.2.nn.1⟩, u2, hD5.2.nn.2⟩) hN rfl (fun z hz => iq_upnn hM14 (hZZ.nn hz)) (by omega)
    subst hi16
    have gx : ∀ r, r < 51 → g r ≠ x := fun r hr => k5.nx hr (iq_some hM)
    have tg := iq_gl_ge (g := g) (n := 3 + 3 * 16) (qs := [q12, b9, a9])
    have tl : ∀ r, r < 51 → iq_gl g (3 + 3 * 16) [q12, b9, a9] r = g r := fun r hr => iq_gl_lt hr
    have t0 : iq_gl g (3 + 3 * 16) [q12, b9, a9] 51 = q12 := tg 0
    exact xr_vret C hr hlk ⟨rfl, iq_gl g (3 + 3 * 16) [q12, b9, a9], g5, by rw [tl 0 (by decide), tl 1 (by decide), tl 2 (by decide), t0, gsl, gn1, gn2, hM14, mq_up_s]; rfl, ⟨f, by rw [tl 0 (by decide), hM14, mq_up_n (gx 0 (by decide)), gsl]; exact s4, fun j hj => by rw [tl _ (by omega)]; exact (k7 j hj).1⟩, by rw [tl 1 (by decide), hM14, mq_up_n (gx 1 (by decide)), gn1]; exact s1, by rw [tl 2 (by decide), hM14, mq_up_n (gx 2 (by decide)), gn2]; exact s2, fun j hj => by
      by_cases hj6 : j = 16
      · subst hj6
        rw [show (3 + 3 * 16 : Nat) = 51 from rfl, t0, tg 1, tg 2]
        exact hD5
      · rw [tl _ (by omega), tl _ (by omega), tl _ (by omega)]
        refine ((k7 j (by omega)).2.k0 hZZ).up hM14 ?_
        simp only [List.mem_cons, List.not_mem_nil, or_false, forall_eq_or_imp, forall_eq]
        exact ⟨gx _ (by omega), gx _ (by omega), gx _ (by omega)⟩, (k8.tr0 hZZ).up hM14⟩ (by omega) (by omega) dX9_init_77
  · refine xr_aload_n C dX9_init_45 rfl ?_
    refine xr_get C (Cn := RX9) (T := TX9) (N := 7) (by decide +kernel) k1 rfl 1 (by decide) (C.1.2.2.2.2 (.fieldLink RX9 11 "OssuaryVault$Shelf" "places" "[LOssuaryVault$Volume;") (by decide +kernel)) (fun _ h => h) rfl dX9_init_46 ?_
    refine xr_iload_n C dX9_init_49 rfl ?_
    refine xr_new C (ci := 9) (fs := [.null, .null, .int 0, .int 0]) (Cn := RX10) (T := TX10) (N := 4) (by decide +kernel) tyX10 tyX10_ok (C.1.2.2.2.2 (.classLink RX9 9 RX10) (by decide +kernel)) (C.1.2.2.2.2 (.instantiable RX10 4) (by decide +kernel)) (C.1.2.2.2.2 (.initialized RX10) (by decide +kernel)) rfl (fun j hj => by rcases (show j = 0 ∨ j = 1 ∨ j = 2 ∨ j = 3 by omega) with rfl | rfl | rfl | rfl <;> rfl) (by dsimp only; omega) (by dsimp only; omega) dX9_init_50 (fun q15 hq15 => ?_)
    refine mq_ren (fun M16 hM16 => ?_)
    have hZ9 : M16 q15 = some (.inr (9, [.null, .null, .int 0, .int 0])) := by rw [hM16, mq_up_s]
    refine xr_dup C dX9_init_53 rfl ?_
    refine xr_aload_n C dX9_init_54 rfl ?_
    refine xr_callI1 C (c_Volume_init l G q15 ch M16 hZ9) (cwI 1 C.1.2.2.2.2 gX9_init_X10_init rfl rfl rfl (C.1.2.2.2.2 (.initialized RX10) (by decide +kernel)) (C.1.2.2.2.2 (.methodLink RX9 28 yX10_init) (by decide +kernel)) (C.1.2.2.2.2 (.instanceMethod yX10_init) (by decide +kernel)) rfl (by decide +kernel) ⟨Nat.le_of_ble_eq_true rfl, Nat.le_of_ble_eq_true rfl⟩) (Nat.le_of_ble_eq_true rfl) ⟨by dsimp only; omega, by dsimp only; omega⟩ dX9_init_55 (fun N9 hp9 => ?_)
    obtain ⟨b9, a9, e1, e2, hN, hD9, hK9⟩ := hp9
    have hZZ := iq_Z.obj hq15 hM16 hK9
    have s4 := (hZZ _ (iq_some k4)).trans k4
    have s1 := (hZZ _ (iq_some k2.1)).trans k2.1
    have s2 := (hZZ _ (iq_some k2.2)).trans k2.2
    have s0 := (hZZ _ (iq_some k1)).trans k1
    have u1 := (iq_Z.back hM16 e1).1
    have u2 := (iq_Z.back hM16 e2).1
    refine xr_aast C (r := (RX10, TX10, 4)) s4 mq_tV hD9.1 rfl (by first | omega | (dsimp only; omega)) (by first | omega | (dsimp only; omega)) (by first | omega | (dsimp only; omega)) dX9_init_58 ?_
    refine mq_ren (fun M17 hM17 => ?_)
    rw [Int.toNat_natCast] at hM17
    have kt := k4
    have nsl : ∀ z ∈ [q15, b9, a9], z ≠ q1 := by
      simp only [List.mem_cons, List.not_mem_nil, or_false, forall_eq_or_imp, forall_eq]
      exact ⟨Ne.symm (iq_nx (iq_some kt) hq15), Ne.symm (iq_nx (iq_some kt) u1), Ne.symm (iq_nx (iq_some kt) u2)⟩
    have hD5 := hD9.up hM17 nsl
    have g5 : iq_g M M17 (iq_gl g (3 + 3 * i) [q15, b9, a9]) (3 + 3 * (i + 1)) := k5.add (k := 3) k8 (iq_some k1) (by
      simp only [List.mem_cons, List.not_mem_nil, or_false, forall_eq_or_imp, forall_eq]
      exact ⟨⟨hq15, iq_some hD5.1⟩, ⟨u1, hD5.2.nn.1⟩, u2, hD5.2.nn.2⟩) hN rfl (fun z hz => iq_upnn hM17 (hZZ.nn hz)) (by omega)
    have w1 : M17 x = some (.inr (8, [.ref fd, .ref q1, .ref q4, .ref q7, .null, .int 0, .int 0])) := by rw [hM17, mq_up_n (Ne.symm (by rw [← gsl]; exact k5.nx (by omega) (iq_some hM)))]; exact s0
    have w2 : M17 q4 = some (.inl (G.2.1, 16, .inl (fun _ => 0))) ∧ M17 q7 = some (.inl (G.2.1, 16, .inl (fun _ => 0))) := ⟨by rw [hM17, mq_up_n (Ne.symm d1)]; exact s1, by rw [hM17, mq_up_n (Ne.symm d2)]; exact s2⟩
    have w8 : iq_K x M M17 := (k8.tr0 hZZ).own ms hM17
    refine xr_iinc C dX9_init_59 rfl (by decide) rfl ?_
    refine xr_goto C dX9_init_62 rfl ?_
    refine mq_widen (k := 3 + 3 * (i + 1)) (n := 48 + 4086 * (i + 1)) (by omega) (by omega) ?_
    exact ih (i + 1, M17, va_up f i (some q15), iq_gl g (3 + 3 * i) [q15, b9, a9]) ⟨by dsimp only; omega, w1, w2, by dsimp only; rw [hM17, mq_up_s], g5, fun j hj => by dsimp only; rw [iq_gl_lt (by omega)]; exact k6 j hj, fun j hj => by
      dsimp only at hj ⊢
      by_cases hji : j = i
      · subst hji
        have := iq_gl_ge (g := g) (n := 3 + 3 * j) (qs := [q15, b9, a9])
        have t0 : iq_gl g (3 + 3 * j) [q15, b9, a9] (3 + 3 * j) = q15 := this 0
        rw [t0, this 1, this 2]
        exact ⟨by simp [va_up], hD5⟩
      · have hj2 : j < i := by omega
        rw [iq_gl_lt (by omega), iq_gl_lt (by omega), iq_gl_lt (by omega)]
        refine ⟨by simp only [va_up, if_neg hji]; exact (k7 j hj2).1, ((k7 j hj2).2.k0 hZZ).up hM17 ?_⟩
        simp only [List.mem_cons, List.not_mem_nil, or_false, forall_eq_or_imp, forall_eq]
        rw [← gsl]
        exact ⟨k5.ne (by omega) (by omega) (by omega), k5.ne (by omega) (by omega) (by omega), k5.ne (by omega) (by omega) (by omega)⟩, w8⟩ (by dsimp only; omega)
