set_option maxHeartbeats 4000000 in
set_option maxRecDepth 100000 in
theorem c_form (l : Launch) (G : mq_G) (La : Nat → Nat) (hI : mq_inj La) (q : Nat) (hq : q < 17) (h : Bool) (d : List Nat) (vd : Int) (M : mq_M) (hV : shV G M La q h d vd) (w1 w2 w3 w4 w5 w6 : Value) (g1 : M (La 12) = some (.inr (8, [.ref (La 3), w1, w2, w3, w4, w5, w6]))) (hD : fdI G M (La 3) (La 4) (La 5)) (hC : ckI G M (La 1) (La 2)) (rs ns : Nat) (S : List Nat) (hrs : rs < 103) (hr1 : 6 ≤ rs) (hr2 : rs ≠ 12 ∧ rs ≠ 11) (hB : bI G M (La rs) (La (rs + 1)) ns S) (nb dn pn : Nat) (hnb : nb < 17) (hdn : 0 < dn ∧ dn ≤ 10) (hpn : pn ≤ 6) (hS : S.length < 50000) (hbd : bdS S.length dn ≤ 4070) : mq_T l yX9_form wsX9_form { frames := 4, cells := 0, slots := 0, locals := 89 } G [.ref (La 12), .ref (La (104 + 3 * q)), .int (zI (nb : Int)), .int (zI (dn : Int)), .int (zI (pn : Int)), .ref (La rs)] M (mq_pv (fun M2 => shV G M2 La q true (vFm S nb dn pn) 0 ∧ mq_FR La [104 + 3 * q, 105 + 3 * q, 106 + 3 * q] M M2)) 0 0 := by
  refine mq_Met.of (cc := cX9_form) (maxL := 9) (ret := none) (by decide) rfl (Nat.le_of_ble_eq_true rfl) rfl rfl ?_
  intro p_ e_ s_ m_ args_ below_ meth_ c_ z_ C hr hlk hname
  have hN := mq_vnd hI hq
  have hT : ∀ r ∈ [104 + 3 * q, 105 + 3 * q, 106 + 3 * q], r < 275 := by intro r hr; simp at hr; omega
  have g0 := g1
  have hD0 := hD
  have hC0 := hC
  have hB0 := hB
  refine xr_aload_n C dX9_form_0 rfl ?_
  refine xr_iload_n C dX9_form_1 rfl ?_
  refine xr_iload_n C dX9_form_2 rfl ?_
  refine xr_iload C dX9_form_3 rfl ?_
  refine xr_aload C dX9_form_5 rfl ?_
  refine xr_callV0i C (c_size l G _ _ _ _ M hB) (cwV 0 C.1.2.2.2.2 gX9_form_X0_size rfl rfl rfl (by decide +kernel) ⟨Nat.le_of_ble_eq_true rfl, Nat.le_of_ble_eq_true rfl⟩) hB.1 rfl (Nat.le_of_ble_eq_true rfl) ⟨by dsimp only; omega, by dsimp only; omega⟩ dX9_form_7 (fun r1 M9 hp9 => ?_)
  obtain ⟨rfl, rfl⟩ := hp9
  refine xr_callV4v C (c_begin l G _ _ _ _ _ _ _ M hV hN nb dn pn S.length (by omega) (by omega) (by omega) (by omega) hbd) (cwV 4 C.1.2.2.2.2 gX9_form_X10_begin rfl rfl rfl (by decide +kernel) ⟨Nat.le_of_ble_eq_true rfl, Nat.le_of_ble_eq_true rfl⟩) hV.1 rfl (Nat.le_of_ble_eq_true rfl) ⟨by dsimp only; omega, by dsimp only; omega⟩ dX9_form_10 (fun M1 hp1 => ?_)
  obtain ⟨hV1, hF1⟩ := hp1
  change mq_FR La [104 + 3 * q, 105 + 3 * q, 106 + 3 * q] M M1 at hF1
  have g9 := (hF1 (La 12) (mq_ni hI (by decide) hT (by simp; omega))).trans g0
  have hD9 := hD0.fr hF1 (mq_ni hI (by decide) hT (by simp; omega)) (mq_ni hI (by decide) hT (by simp; omega)) (mq_ni hI (by decide) hT (by simp; omega))
  have hC9 := hC0.fr hF1 (mq_ni hI (by decide) hT (by simp; omega)) (mq_ni hI (by decide) hT (by simp; omega))
  have hB9 := hB0.fr hF1 (mq_ni hI (by omega) hT (by simp; omega)) (mq_ni hI (by omega) hT (by simp; omega))
  refine xr_aload C dX9_form_13 rfl ?_
  refine xr_callV0i C (c_size l G _ _ _ _ M1 hB9) (cwV 0 C.1.2.2.2.2 gX9_form_X0_size rfl rfl rfl (by decide +kernel) ⟨Nat.le_of_ble_eq_true rfl, Nat.le_of_ble_eq_true rfl⟩) hB9.1 rfl (Nat.le_of_ble_eq_true rfl) ⟨by dsimp only; omega, by dsimp only; omega⟩ dX9_form_15 (fun r2 M9 hp9 => ?_)
  obtain ⟨rfl, rfl⟩ := hp9
  refine xr_iload_n C dX9_form_18 rfl ?_
  refine xr_callS2iN C (c_bodySize l G M1 S.length dn (by omega) (by omega)) ⟨va_cnB 2 C.1.2.2.2.2 ggX9_form_X11_bodySize rfl rfl rfl (C.2.2.2.1 ("OssuaryVault$Shelf", 91, ⟨"OssuaryVault", "bodySize", "(II)I"⟩, "OssuaryVault") (by decide +kernel)) (C.1.2.2.2.2 (.initialized RX11) (by decide +kernel)) (by decide +kernel) ⟨Nat.le_of_ble_eq_true rfl, Nat.le_of_ble_eq_true rfl⟩, C.1.2.2.2.2 (.static yX11_bodySize) (by decide +kernel), trivial⟩ (Nat.le_of_ble_eq_true rfl) ⟨by dsimp only; omega, by dsimp only; omega⟩ dX9_form_19 (fun r3 M9 hp9 => ?_)
  obtain ⟨rfl, rfl⟩ := hp9
  generalize hbv : bdS S.length dn = bd at hbd hV1 ⊢
  have hrw : vRw S nb dn pn = vLp S nb dn bd (vHd nb dn pn bd S.length ++ List.replicate bd 0) dn := by unfold vRw; rw [hbv]
  generalize hb0 : vHd nb dn pn bd S.length ++ List.replicate bd 0 = b0 at hV1 hrw ⊢
  refine xr_istore C dX9_form_22 (by decide) rfl ?_
  refine xr_iconst (n := 0) C dX9_form_24 (by decide +kernel) ?_
  refine xr_istore C dX9_form_25 (by decide) rfl ?_
  refine mq_loop (σ := Nat × mq_M) (fun y => y.1 ≤ dn ∧ shV G y.2 La q true (vLp S nb dn bd b0 y.1) 0 ∧ mq_FR La [104 + 3 * q, 105 + 3 * q, 106 + 3 * q] M y.2) (fun y => dn - y.1) (fun y => y.2) (fun y => [some (.ref (La 12)), some (.ref (La (104 + 3 * q))), some (.int (zI (nb : Int))), some (.int (zI (dn : Int))), some (.int (zI (pn : Int))), some (.ref (La rs)), some (.int (zI (bd : Int))), some (.int (zI (y.1 : Int))), none]) (fun y => []) ?_ (0, M1) ⟨Nat.zero_le _, hV1, hF1⟩
  rintro ⟨i, M2⟩ ⟨hi, hV2, hF2⟩ ih
  dsimp only at hi hV2 hF2 ih ⊢
  have g2 := (hF2 (La 12) (mq_ni hI (by decide) hT (by simp; omega))).trans g0
  have hD2 := hD0.fr hF2 (mq_ni hI (by decide) hT (by simp; omega)) (mq_ni hI (by decide) hT (by simp; omega)) (mq_ni hI (by decide) hT (by simp; omega))
  have hC2 := hC0.fr hF2 (mq_ni hI (by decide) hT (by simp; omega)) (mq_ni hI (by decide) hT (by simp; omega))
  have hB2 := hB0.fr hF2 (mq_ni hI (by omega) hT (by simp; omega)) (mq_ni hI (by omega) hT (by simp; omega))
  refine xr_iload C dX9_form_27 rfl ?_
  refine xr_iload_n C dX9_form_29 rfl ?_
  refine xr_icmp_ge C dX9_form_30 rfl (by first | omega | (dsimp only; omega)) (by first | omega | (dsimp only; omega)) (fun hq4 => ?_) (fun hq4 => ?_)
  · refine xr_aload_n C dX9_form_76 rfl ?_
    refine xr_callV0i C (c_seal l G _ _ _ _ _ _ _ M2 hV2 _ hC2 hN (by rw [show i = dn by omega, ← hrw, vRw_len]; omega)) (cwV 0 C.1.2.2.2.2 gX9_form_X10_seal rfl rfl rfl (by decide +kernel) ⟨Nat.le_of_ble_eq_true rfl, Nat.le_of_ble_eq_true rfl⟩) hV2.1 rfl (Nat.le_of_ble_eq_true rfl) ⟨by dsimp only; omega, by dsimp only; omega⟩ dX9_form_77 (fun r3 M3 hp3 => ?_)
    obtain ⟨-, hV3, hF3⟩ := hp3
    refine xr_pop C dX9_form_80 rfl ?_
    have hV4 : shV G M3 La q true (vFm S nb dn pn) 0 := by
      have e1 : i = dn := by omega
      subst e1
      unfold vFm
      rw [hrw]
      exact hV3
    exact xr_vret C hr hlk ⟨rfl, hV4, hF2.tr hF3⟩ (by omega) (by omega) dX9_form_81
  · refine xr_aload_n C dX9_form_33 rfl ?_
    refine xr_get C (Cn := RX9) (T := TX9) (N := 7) (by decide +kernel) g2 rfl 0 (by decide) (C.1.2.2.2.2 (.fieldLink RX9 24 "OssuaryVault$Shelf" "field" "LOssuaryVault$Field;") (by decide +kernel)) (fun _ h => h) rfl dX9_form_34 ?_
    refine xr_iload_n C dX9_form_37 rfl ?_
    refine xr_iload C dX9_form_38 rfl ?_
    refine xr_iload_n C dX9_form_40 rfl ?_
    refine xr_callV3i C (c_weight l G _ _ _ M2 hD2 nb i dn (by omega) (by omega) (by omega)) (cwV 3 C.1.2.2.2.2 gX9_form_X4_weight rfl rfl rfl (by decide +kernel) ⟨Nat.le_of_ble_eq_true rfl, Nat.le_of_ble_eq_true rfl⟩) hD2.1 rfl (Nat.le_of_ble_eq_true rfl) ⟨by dsimp only; omega, by dsimp only; omega⟩ dX9_form_41 (fun r5 M9 hp9 => ?_)
    obtain ⟨rfl, rfl⟩ := hp9
    refine xr_istore C dX9_form_44 (by decide) rfl ?_
    refine xr_aload_n C dX9_form_46 rfl ?_
    refine xr_get C (Cn := RX9) (T := TX9) (N := 7) (by decide +kernel) g2 rfl 0 (by decide) (C.1.2.2.2.2 (.fieldLink RX9 24 "OssuaryVault$Shelf" "field" "LOssuaryVault$Field;") (by decide +kernel)) (fun _ h => h) rfl dX9_form_47 ?_
    refine xr_aload_n C dX9_form_50 rfl ?_
    refine xr_getN C (Cn := RX10) (T := TX10) (N := 4) (by decide +kernel) hV2.1 rfl 1 (by decide) (va_Nw.use rfl (C.2.2.1 ("OssuaryVault$Shelf", 100, "OssuaryVault$Volume", "bytes", "LOssuaryVault$Bytes;", "OssuaryVault") (by decide +kernel))) (fun _ h => h) rfl dX9_form_51 ?_
    refine xr_bipush (n := 10) C dX9_form_54 (by decide +kernel) ?_
    refine xr_iload C dX9_form_56 rfl ?_
    refine xr_aload C dX9_form_58 rfl ?_
    refine xr_iload C dX9_form_60 rfl ?_
    refine xr_iload C dX9_form_62 rfl ?_
    refine xr_imul C dX9_form_64 ?_
    refine xr_iload C dX9_form_65 rfl ?_
    have him : i * bd ≤ 10 * 4070 := Nat.mul_le_mul (by omega) hbd
    rw [show (i : Int) * (bd : Int) = ((i * bd : Nat) : Int) by simp]
    refine xr_callV6v C (c_addProducts l G _ _ _ M2 hD2 _ _ _ _ hV2.2 _ _ _ _ hB2 ⟨mq_ne hI (by omega) (by omega) (by omega), mq_ne hI (by omega) (by omega) (by omega)⟩ ⟨mq_ne hI (by omega) (by omega) (by omega), mq_ne hI (by omega) (by omega) (by omega), mq_ne hI (by omega) (by omega) (by omega)⟩ 10 ((i * bd : Nat) : Int) (gfW nb i dn) bd (gfW_lt _ _ _) (by decide) (by omega) (by omega)) (cwV 6 C.1.2.2.2.2 gX9_form_X4_addProducts rfl rfl rfl (by decide +kernel) ⟨Nat.le_of_ble_eq_true rfl, Nat.le_of_ble_eq_true rfl⟩) hD2.1 rfl (Nat.le_of_ble_eq_true rfl) ⟨by dsimp only; omega, by dsimp only; omega⟩ dX9_form_67 (fun M3 hp3 => ?_)
    obtain ⟨hB3, hF3⟩ := hp3
    have hV3 : shV G M3 La q true (vLp S nb dn bd b0 (i + 1)) 0 := ⟨(hF3 _ (by simp; exact mq_ne hI (by omega) (by omega) (by omega))).trans hV2.1, hB3⟩
    have hF3b : mq_FR La [104 + 3 * q, 105 + 3 * q, 106 + 3 * q] M2 M3 := hF3.mono (by simp)
    refine xr_iinc C dX9_form_70 rfl (by decide) rfl ?_
    refine xr_goto C dX9_form_73 rfl ?_
    refine mq_drop 8 ?_
    exact ih (i + 1, M3) ⟨by dsimp only; omega, hV3, hF2.tr hF3b⟩ (by dsimp only; omega)
set_option maxHeartbeats 4000000 in
set_option maxRecDepth 100000 in
theorem c_fillWith (l : Launch) (G : mq_G) (La : Nat → Nat) (hI : mq_inj La) (pv : Nat → Nat) (h : Nat → Bool) (d : Nat → List Nat) (vd : Nat → Int) (ld mb : Int) (nu ho : Nat → Int) (M : mq_M) (hP : shP pv h d vd) (hS : shI G M La pv h d vd ld mb nu ho) (hD : fdI G M (La 3) (La 4) (La 5)) (hC : ckI G M (La 1) (La 2)) (rs ns : Nat) (S : List Nat) (hrs : rs < 103) (hr1 : 6 ≤ rs) (hr2 : rs ≠ 12 ∧ rs ≠ 11 ∧ rs ≠ 13 ∧ rs ≠ 14 ∧ rs ≠ 15) (hB : bI G M (La rs) (La (rs + 1)) ns S) (dn pn : Nat) (hdn : 0 < dn ∧ dn ≤ 10) (hpn : pn ≤ 6) (hSl : S.length < 50000) (hbd : bdS S.length dn ≤ 4070) : mq_T l yX9_fillWith wsX9_fillWith { frames := 5, cells := 0, slots := 0, locals := 117 } G [.ref (La 12), .ref (La rs), .int (zI (dn : Int)), .int (zI (pn : Int))] M (mq_pi (fun r M2 => r = (fwC h d S dn pn 16 : Int) ∧ (∃ (pv2 : Nat → Nat) (h2 : Nat → Bool) (d2 : Nat → List Nat) (vd2 : Nat → Int), shP pv2 h2 d2 vd2 ∧ shI G M2 La pv2 h2 d2 vd2 ld mb nu ho ∧ ∀ i, i < 16 → h2 i = fwH dn pn i ∧ d2 i = fwD S dn pn i) ∧ mq_FR La mq_TT M M2)) 0 0 := by
  refine mq_Met.of (cc := cX9_fillWith) (maxL := 7) (ret := (some .int)) (by decide) rfl (Nat.le_of_ble_eq_true rfl) rfl rfl ?_
  intro p_ e_ s_ m_ args_ below_ meth_ c_ z_ C hr hlk hname
  have hin : ∀ r, 104 ≤ r → r < 155 → La r ∈ mq_TT.map La := fun r h1 h2 => List.mem_map.mpr ⟨r, mq_TTm.mpr (Or.inr (Or.inr ⟨h1, h2⟩)), rfl⟩
  have hno : ∀ r, r < 104 → r ≠ 12 → r ≠ 13 → La r ∉ mq_TT.map La := fun r h1 h2 h3 => mq_ni hI (by omega) mq_TTl (fun q => by have := mq_TTm.mp q; omega)
  refine xr_iconst (n := 0) C dX9_fillWith_0 (by decide +kernel) ?_
  refine xr_istore C dX9_fillWith_1 (by decide) rfl ?_
  refine xr_iconst (n := 0) C dX9_fillWith_3 (by decide +kernel) ?_
  refine xr_istore C dX9_fillWith_4 (by decide) rfl ?_
  refine mq_loop (σ := Nat × mq_M × (Nat → Nat) × (Nat → Bool) × (Nat → List Nat) × (Nat → Int)) (fun y => y.1 ≤ 16 ∧ shP y.2.2.1 y.2.2.2.1 y.2.2.2.2.1 y.2.2.2.2.2 ∧ shI G y.2.1 La y.2.2.1 y.2.2.2.1 y.2.2.2.2.1 y.2.2.2.2.2 ld mb nu ho ∧ (∀ i, i < y.1 → y.2.2.2.1 i = fwH dn pn i ∧ y.2.2.2.2.1 i = fwD S dn pn i) ∧ (∀ i, y.1 ≤ i → i < 16 → y.2.2.2.1 i = h i ∧ y.2.2.2.2.1 i = d i) ∧ mq_FR La mq_TT M y.2.1) (fun y => 16 - y.1) (fun y => y.2.1) (fun y => [some (.ref (La 12)), some (.ref (La rs)), some (.int (zI (dn : Int))), some (.int (zI (pn : Int))), some (.int (zI (fwC h d S dn pn y.1 : Int))), some (.int (zI (y.1 : Int))), none]) (fun y => []) ?_ (0, M, pv, h, d, vd) ⟨Nat.zero_le _, hP, hS, (fun i hi => by omega), (fun i _ _ => ⟨rfl, rfl⟩), mq_F.rf⟩
  rintro ⟨i, M0, pw, h0, d0, v0⟩ ⟨hi, hP0, hS0, hN0, hO0, hF0⟩ ih
  dsimp only at hi hP0 hS0 hN0 hO0 hF0 ih ⊢
  have hS0c := hS0
  have hfc := fwC_le h d S dn pn i
  obtain ⟨g1, ⟨fp, g2, g3⟩, g4, g6, g8⟩ := hS0
  have hD0 := hD.fr hF0 (hno 3 (by decide) (by decide) (by decide)) (hno 4 (by decide) (by decide) (by decide)) (hno 5 (by decide) (by decide) (by decide))
  have hC0 := hC.fr hF0 (hno 1 (by decide) (by decide) (by decide)) (hno 2 (by decide) (by decide) (by decide))
  have hB0 := hB.fr hF0 (hno rs (by omega) (by omega) (by omega)) (hno (rs + 1) (by omega) (by omega) (by omega))
  have hq16 := hP0.1 16 (by decide)
  refine xr_iload C dX9_fillWith_6 rfl ?_
  refine xr_aload_n C dX9_fillWith_8 rfl ?_
  refine xr_get C (Cn := RX9) (T := TX9) (N := 7) (by decide +kernel) g1 rfl 1 (by decide) (C.1.2.2.2.2 (.fieldLink RX9 11 "OssuaryVault$Shelf" "places" "[LOssuaryVault$Volume;") (by decide +kernel)) (fun _ h => h) rfl dX9_fillWith_9 ?_
  refine xr_alen C g2 mq_tV dX9_fillWith_12 ?_
  refine xr_icmp_ge C dX9_fillWith_13 rfl (by first | omega | (dsimp only; omega)) (by first | omega | (dsimp only; omega)) (fun hq1 => ?_) (fun hq1 => ?_)
  · change (16 : Int) ≤ (i : Int) at hq1
    refine xr_iload C dX9_fillWith_101 rfl ?_
    exact xr_iret C hr hlk ⟨_, rfl, by rw [show i = 16 by omega], ⟨pw, h0, d0, v0, hP0, hS0c, fun j hj => hN0 j (by omega)⟩, hF0⟩ (by omega) (by omega) dX9_fillWith_103
  · change (i : Int) < 16 at hq1
    have hi16 : i < 16 := by omega
    have hqi := hP0.1 i (by omega)
    have hqn : pw i ≠ pw 16 := fun e => by have := hP0.2.1 i 16 (by omega) (by decide) e; omega
    refine xr_iload C dX9_fillWith_16 rfl ?_
    refine xr_iload_n C dX9_fillWith_18 rfl ?_
    refine xr_iload_n C dX9_fillWith_19 rfl ?_
    refine xr_iadd C dX9_fillWith_20 ?_
    refine xr_icmp_ge C dX9_fillWith_21 rfl (by first | omega | (dsimp only; omega)) (by first | omega | (dsimp only; omega)) (fun hq2 => ?_) (fun hq2 => ?_)
    · have hnew : false = fwH dn pn i ∧ ([] : List Nat) = fwD S dn pn i := ⟨by unfold fwH; rw [decide_eq_false (by omega)], by unfold fwD; rw [if_neg (by omega)]⟩
      refine xr_aload_n C dX9_fillWith_40 rfl ?_
      refine xr_get C (Cn := RX9) (T := TX9) (N := 7) (by decide +kernel) g1 rfl 4 (by decide) (C.1.2.2.2.2 (.fieldLink RX9 31 "OssuaryVault$Shelf" "blank" "LOssuaryVault$Volume;") (by decide +kernel)) (fun _ h => h) rfl dX9_fillWith_41 ?_
      refine xr_callV0v C (c_vanish l G _ _ _ _ _ _ _ M0 (g8 16 (by decide)) (mq_vnd hI hq16)) (cwV 0 C.1.2.2.2.2 gX9_fillWith_X10_vanish rfl rfl rfl (by decide +kernel) ⟨Nat.le_of_ble_eq_true rfl, Nat.le_of_ble_eq_true rfl⟩) (g8 16 (by decide)).1 rfl (Nat.le_of_ble_eq_true rfl) ⟨by dsimp only; omega, by dsimp only; omega⟩ dX9_fillWith_44 (fun M1 hp1 => ?_)
      obtain ⟨hV1, hF1⟩ := hp1
      change mq_FR La [104 + 3 * pw 16, 105 + 3 * pw 16, 106 + 3 * pw 16] M0 M1 at hF1
      change shV G M1 La (pw 16) false [] 0 at hV1
      have hT6 : ∀ r ∈ [104 + 3 * pw 16, 105 + 3 * pw 16, 106 + 3 * pw 16], r < 275 := by intro r hr; simp at hr; omega
      have k1 := (hF1 (La 12) (mq_ni hI (by decide) hT6 (by simp; omega))).trans g1
      have k2 := (hF1 (La 13) (mq_ni hI (by decide) hT6 (by simp; omega))).trans g2
      have kO : shV G M1 La (pw i) (h0 i) (d0 i) (v0 i) := (g8 i (by omega)).fr hI hF1 hqi hT6 (by simp; omega) (by simp; omega) (by simp; omega)
      refine xr_aload_n C dX9_fillWith_47 rfl ?_
      refine xr_get C (Cn := RX9) (T := TX9) (N := 7) (by decide +kernel) k1 rfl 1 (by decide) (C.1.2.2.2.2 (.fieldLink RX9 11 "OssuaryVault$Shelf" "places" "[LOssuaryVault$Volume;") (by decide +kernel)) (fun _ h => h) rfl dX9_fillWith_48 ?_
      refine xr_iload C dX9_fillWith_51 rfl ?_
      refine xr_aald C k2 mq_tV (by first | omega | (dsimp only; omega)) (by first | omega | (dsimp only; omega)) (by first | omega | (dsimp only; omega)) dX9_fillWith_53 ?_
      rw [Int.toNat_natCast, g3 i hi16]
      refine mq_rfs ?_
      refine xr_astore C dX9_fillWith_54 (by decide) rfl ?_
      refine xr_iload C dX9_fillWith_56 rfl ?_
      refine xr_aload C dX9_fillWith_58 rfl ?_
      refine xr_aload_n C dX9_fillWith_60 rfl ?_
      refine xr_get C (Cn := RX9) (T := TX9) (N := 7) (by decide +kernel) k1 rfl 4 (by decide) (C.1.2.2.2.2 (.fieldLink RX9 31 "OssuaryVault$Shelf" "blank" "LOssuaryVault$Volume;") (by decide +kernel)) (fun _ h => h) rfl dX9_fillWith_61 ?_
      refine xr_callV1i C (c_vsameAs l G _ _ _ _ _ _ _ M1 kO _ _ _ _ _ _ hV1) (cwV 1 C.1.2.2.2.2 gX9_fillWith_X10_sameAs rfl rfl rfl (by decide +kernel) ⟨Nat.le_of_ble_eq_true rfl, Nat.le_of_ble_eq_true rfl⟩) kO.1 rfl (Nat.le_of_ble_eq_true rfl) ⟨by dsimp only; omega, by dsimp only; omega⟩ dX9_fillWith_64 (fun r7 M9 hp9 => ?_)
      obtain ⟨rfl, rfl⟩ := hp9
      have hcmp : (h0 i = false ∧ d0 i = []) ↔ (h i = fwH dn pn i ∧ d i = fwD S dn pn i) := by
        rw [(hO0 i (Nat.le_refl _) hi16).1, (hO0 i (Nat.le_refl _) hi16).2, ← hnew.1, ← hnew.2]
      by_cases hsm : h0 i = false ∧ d0 i = []
      · rw [if_pos hsm]
        refine xr_if_eq C dX9_fillWith_67 rfl (by decide) (fun hq => absurd hq (by decide)) (fun _ => ?_)
        have hfs : fwC h d S dn pn (i + 1) = fwC h d S dn pn i + 0 := by
          conv => lhs; unfold fwC
          rw [if_pos (hcmp.mp hsm)]
        refine xr_iconst (n := 0) C dX9_fillWith_70 (by decide +kernel) ?_
        refine xr_goto C dX9_fillWith_71 rfl ?_
        refine xr_iadd C dX9_fillWith_75 ?_
        refine xr_istore C dX9_fillWith_76 (by decide) rfl ?_
        refine xr_aload_n C dX9_fillWith_78 rfl ?_
        refine xr_get C (Cn := RX9) (T := TX9) (N := 7) (by decide +kernel) k1 rfl 1 (by decide) (C.1.2.2.2.2 (.fieldLink RX9 11 "OssuaryVault$Shelf" "places" "[LOssuaryVault$Volume;") (by decide +kernel)) (fun _ h => h) rfl dX9_fillWith_79 ?_
        refine xr_iload C dX9_fillWith_82 rfl ?_
        refine xr_aload_n C dX9_fillWith_84 rfl ?_
        refine xr_get C (Cn := RX9) (T := TX9) (N := 7) (by decide +kernel) k1 rfl 4 (by decide) (C.1.2.2.2.2 (.fieldLink RX9 31 "OssuaryVault$Shelf" "blank" "LOssuaryVault$Volume;") (by decide +kernel)) (fun _ h => h) rfl dX9_fillWith_85 ?_
        refine xr_aast C (r := (RX10, TX10, 4)) k2 mq_tV hV1.1 rfl (by first | omega | (dsimp only; omega)) (by first | omega | (dsimp only; omega)) (by first | omega | (dsimp only; omega)) dX9_fillWith_88 ?_
        refine mq_ren (fun M3 hM3 => ?_)
        rw [Int.toNat_natCast] at hM3
        have hG5 : mq_F [La 13] M1 M3 := mq_F.up hM3 (by simp)
        have j1 : M3 (La 12) = _ := (hG5 (La 12) (by simp; exact mq_ne hI (by decide) (by decide) (by decide))).trans k1
        have j2 : M3 (La 13) = some (.inl (G.2.2.2.1, 16, .inr (.inr (.inr (.inr (va_up fp i (some (La (104 + 3 * pw 16)))))))) ) := by rw [hM3, mq_up_s]
        refine xr_aload_n C dX9_fillWith_89 rfl ?_
        refine xr_aload C dX9_fillWith_90 rfl ?_
        refine xr_put C (Cn := RX9) (T := TX9) (N := 7) (by decide +kernel) j1 rfl 4 (by decide) tyX9 tyX9_ok nmX9 (C.1.2.2.2.2 (.fieldLink RX9 31 "OssuaryVault$Shelf" "blank" "LOssuaryVault$Volume;") (by decide +kernel)) (fun _ h => h) rfl (tyX9_ok 4 (by decide)) rfl rfl (Nat.le_of_ble_eq_true rfl) dX9_fillWith_92 ?_
        refine mq_ren (fun M4 hM4 => ?_)
        have hG6 : mq_F [La 12] M3 M4 := mq_F.up hM4 (by simp)
        have i1 : M4 (La 12) = some (.inr (8, [.ref (La 3), .ref (La 13), .ref (La 14), .ref (La 15), .ref (La (104 + 3 * pw i)), .int (zI ld), .int (zI mb)])) := by rw [hM4, mq_up_s]; rfl
        have i2 : M4 (La 13) = _ := (hG6 (La 13) (by simp; exact mq_ne hI (by decide) (by decide) (by decide))).trans j2
        have hT7 : ∀ r ∈ [12, 13], r < 275 := by decide
        have hG7 : mq_FR La [12, 13] M1 M4 := (hG5.mono (by simp)).tr (hG6.mono (by simp))
        have hPn : shP (fnU (fnU pw 16 (pw i)) i (pw 16)) (fnU (fnU h0 16 (h0 i)) i false) (fnU (fnU d0 16 (d0 i)) i []) (fnU (fnU v0 16 (v0 i)) i 0) := shP_sw hP0 hi16 (Or.inl rfl)
        have hSn : shI G M4 La (fnU (fnU pw 16 (pw i)) i (pw 16)) (fnU (fnU h0 16 (h0 i)) i false) (fnU (fnU d0 16 (d0 i)) i []) (fnU (fnU v0 16 (v0 i)) i 0) ld mb nu ho := by
          refine ⟨?_, ⟨_, i2, ?_⟩, ?_, ?_, ?_⟩
          · rw [fnU_n (by omega), fnU_s]; exact i1
          · intro j hj
            unfold va_up
            by_cases hji : j = i
            · rw [if_pos hji, hji, fnU_s]
            · rw [if_neg hji, fnU_n hji, fnU_n (by omega)]; exact g3 j hj
          · obtain ⟨f4, q4, q5⟩ := g4
            exact ⟨f4, ((hG7 (La 14) (mq_ni hI (by decide) hT7 (by simp))).trans (hF1 (La 14) (mq_ni hI (by decide) hT6 (by simp; omega)))).trans q4, q5⟩
          · obtain ⟨f4, q4, q5⟩ := g6
            exact ⟨f4, ((hG7 (La 15) (mq_ni hI (by decide) hT7 (by simp))).trans (hF1 (La 15) (mq_ni hI (by decide) hT6 (by simp; omega)))).trans q4, q5⟩
          · intro j hj
            by_cases hji : j = i
            · subst hji
              rw [fnU_s, fnU_s, fnU_s, fnU_s]
              exact hV1.fr hI hG7 hq16 hT7 (by simp; omega) (by simp; omega) (by simp; omega)
            · rw [fnU_n hji, fnU_n hji, fnU_n hji, fnU_n hji]
              by_cases hj6 : j = 16
              · subst hj6
                rw [fnU_s, fnU_s, fnU_s, fnU_s]
                exact kO.fr hI hG7 hqi hT7 (by simp; omega) (by simp; omega) (by simp; omega)
              · rw [fnU_n hj6, fnU_n hj6, fnU_n hj6, fnU_n hj6]
                have hqj := hP0.1 j hj
                have hqk : pw j ≠ pw 16 := fun e => hj6 (hP0.2.1 j 16 hj (by decide) e)
                exact ((g8 j hj).fr hI hF1 hqj hT6 (by simp; omega) (by simp; omega) (by simp; omega)).fr hI hG7 hqj hT7 (by simp; omega) (by simp; omega) (by simp; omega)
        have hFn : mq_FR La mq_TT M M4 := (hF0.tr (hF1.mono (fun a ha => by
          simp at ha
          rcases ha with rfl | rfl | rfl
          · exact hin _ (by omega) (by omega)
          · exact hin _ (by omega) (by omega)
          · exact hin _ (by omega) (by omega)))).tr (hG7.mono (fun a ha => by
          simp at ha
          rcases ha with rfl | rfl
          · exact List.mem_map.mpr ⟨12, mq_TTm.mpr (Or.inl rfl), rfl⟩
          · exact List.mem_map.mpr ⟨13, mq_TTm.mpr (Or.inr (Or.inl rfl)), rfl⟩))
        refine xr_iinc C dX9_fillWith_95 rfl (by decide) rfl ?_
        refine xr_goto C dX9_fillWith_98 rfl ?_
        have hNn : ∀ j, j < i + 1 → (fnU (fnU h0 16 (h0 i)) i false) j = fwH dn pn j ∧ (fnU (fnU d0 16 (d0 i)) i []) j = fwD S dn pn j := by
          intro j hj
          by_cases hji : j = i
          · subst hji
            rw [fnU_s, fnU_s]
            exact hnew
          · rw [fnU_n hji, fnU_n hji, fnU_n (by omega), fnU_n (by omega)]
            exact hN0 j (by omega)
        have hOn : ∀ j, i + 1 ≤ j → j < 16 → (fnU (fnU h0 16 (h0 i)) i false) j = h j ∧ (fnU (fnU d0 16 (d0 i)) i []) j = d j := by
          intro j hj hj2
          rw [fnU_n (by omega), fnU_n (by omega), fnU_n (by omega), fnU_n (by omega)]
          exact hO0 j (by omega) hj2
        refine mq_drop 6 ?_
        rw [show (fwC h d S dn pn i : Int) + 0 = (fwC h d S dn pn (i + 1) : Int) by rw [hfs]; simp]
        exact ih (i + 1, M4, _, _, _, _) ⟨by dsimp only; omega, hPn, hSn, hNn, hOn, hFn⟩ (by dsimp only; omega)
      · rw [if_neg hsm]
        refine xr_if_eq C dX9_fillWith_67 rfl (by decide) (fun _ => ?_) (fun hq => absurd hq (by decide))
        have hfs : fwC h d S dn pn (i + 1) = fwC h d S dn pn i + 1 := by
          conv => lhs; unfold fwC
          rw [if_neg (fun q => hsm (hcmp.mpr q))]
        refine xr_iconst (n := 1) C dX9_fillWith_74 (by decide +kernel) ?_
        refine xr_iadd C dX9_fillWith_75 ?_
        refine xr_istore C dX9_fillWith_76 (by decide) rfl ?_
        refine xr_aload_n C dX9_fillWith_78 rfl ?_
        refine xr_get C (Cn := RX9) (T := TX9) (N := 7) (by decide +kernel) k1 rfl 1 (by decide) (C.1.2.2.2.2 (.fieldLink RX9 11 "OssuaryVault$Shelf" "places" "[LOssuaryVault$Volume;") (by decide +kernel)) (fun _ h => h) rfl dX9_fillWith_79 ?_
        refine xr_iload C dX9_fillWith_82 rfl ?_
        refine xr_aload_n C dX9_fillWith_84 rfl ?_
        refine xr_get C (Cn := RX9) (T := TX9) (N := 7) (by decide +kernel) k1 rfl 4 (by decide) (C.1.2.2.2.2 (.fieldLink RX9 31 "OssuaryVault$Shelf" "blank" "LOssuaryVault$Volume;") (by decide +kernel)) (fun _ h => h) rfl dX9_fillWith_85 ?_
        refine xr_aast C (r := (RX10, TX10, 4)) k2 mq_tV hV1.1 rfl (by first | omega | (dsimp only; omega)) (by first | omega | (dsimp only; omega)) (by first | omega | (dsimp only; omega)) dX9_fillWith_88 ?_
        refine mq_ren (fun M5 hM5 => ?_)
        rw [Int.toNat_natCast] at hM5
        have hG5 : mq_F [La 13] M1 M5 := mq_F.up hM5 (by simp)
        have j1 : M5 (La 12) = _ := (hG5 (La 12) (by simp; exact mq_ne hI (by decide) (by decide) (by decide))).trans k1
        have j2 : M5 (La 13) = some (.inl (G.2.2.2.1, 16, .inr (.inr (.inr (.inr (va_up fp i (some (La (104 + 3 * pw 16)))))))) ) := by rw [hM5, mq_up_s]
        refine xr_aload_n C dX9_fillWith_89 rfl ?_
        refine xr_aload C dX9_fillWith_90 rfl ?_
        refine xr_put C (Cn := RX9) (T := TX9) (N := 7) (by decide +kernel) j1 rfl 4 (by decide) tyX9 tyX9_ok nmX9 (C.1.2.2.2.2 (.fieldLink RX9 31 "OssuaryVault$Shelf" "blank" "LOssuaryVault$Volume;") (by decide +kernel)) (fun _ h => h) rfl (tyX9_ok 4 (by decide)) rfl rfl (Nat.le_of_ble_eq_true rfl) dX9_fillWith_92 ?_
        refine mq_ren (fun M6 hM6 => ?_)
        have hG6 : mq_F [La 12] M5 M6 := mq_F.up hM6 (by simp)
        have i1 : M6 (La 12) = some (.inr (8, [.ref (La 3), .ref (La 13), .ref (La 14), .ref (La 15), .ref (La (104 + 3 * pw i)), .int (zI ld), .int (zI mb)])) := by rw [hM6, mq_up_s]; rfl
        have i2 : M6 (La 13) = _ := (hG6 (La 13) (by simp; exact mq_ne hI (by decide) (by decide) (by decide))).trans j2
        have hT7 : ∀ r ∈ [12, 13], r < 275 := by decide
        have hG7 : mq_FR La [12, 13] M1 M6 := (hG5.mono (by simp)).tr (hG6.mono (by simp))
        have hPn : shP (fnU (fnU pw 16 (pw i)) i (pw 16)) (fnU (fnU h0 16 (h0 i)) i false) (fnU (fnU d0 16 (d0 i)) i []) (fnU (fnU v0 16 (v0 i)) i 0) := shP_sw hP0 hi16 (Or.inl rfl)
        have hSn : shI G M6 La (fnU (fnU pw 16 (pw i)) i (pw 16)) (fnU (fnU h0 16 (h0 i)) i false) (fnU (fnU d0 16 (d0 i)) i []) (fnU (fnU v0 16 (v0 i)) i 0) ld mb nu ho := by
          refine ⟨?_, ⟨_, i2, ?_⟩, ?_, ?_, ?_⟩
          · rw [fnU_n (by omega), fnU_s]; exact i1
          · intro j hj
            unfold va_up
            by_cases hji : j = i
            · rw [if_pos hji, hji, fnU_s]
            · rw [if_neg hji, fnU_n hji, fnU_n (by omega)]; exact g3 j hj
          · obtain ⟨f4, q4, q5⟩ := g4
            exact ⟨f4, ((hG7 (La 14) (mq_ni hI (by decide) hT7 (by simp))).trans (hF1 (La 14) (mq_ni hI (by decide) hT6 (by simp; omega)))).trans q4, q5⟩
          · obtain ⟨f4, q4, q5⟩ := g6
            exact ⟨f4, ((hG7 (La 15) (mq_ni hI (by decide) hT7 (by simp))).trans (hF1 (La 15) (mq_ni hI (by decide) hT6 (by simp; omega)))).trans q4, q5⟩
          · intro j hj
            by_cases hji : j = i
            · subst hji
              rw [fnU_s, fnU_s, fnU_s, fnU_s]
              exact hV1.fr hI hG7 hq16 hT7 (by simp; omega) (by simp; omega) (by simp; omega)
            · rw [fnU_n hji, fnU_n hji, fnU_n hji, fnU_n hji]
              by_cases hj6 : j = 16
              · subst hj6
                rw [fnU_s, fnU_s, fnU_s, fnU_s]
                exact kO.fr hI hG7 hqi hT7 (by simp; omega) (by simp; omega) (by simp; omega)
              · rw [fnU_n hj6, fnU_n hj6, fnU_n hj6, fnU_n hj6]
                have hqj := hP0.1 j hj
                have hqk : pw j ≠ pw 16 := fun e => hj6 (hP0.2.1 j 16 hj (by decide) e)
                exact ((g8 j hj).fr hI hF1 hqj hT6 (by simp; omega) (by simp; omega) (by simp; omega)).fr hI hG7 hqj hT7 (by simp; omega) (by simp; omega) (by simp; omega)
        have hFn : mq_FR La mq_TT M M6 := (hF0.tr (hF1.mono (fun a ha => by
          simp at ha
          rcases ha with rfl | rfl | rfl
          · exact hin _ (by omega) (by omega)
          · exact hin _ (by omega) (by omega)
          · exact hin _ (by omega) (by omega)))).tr (hG7.mono (fun a ha => by
          simp at ha
          rcases ha with rfl | rfl
          · exact List.mem_map.mpr ⟨12, mq_TTm.mpr (Or.inl rfl), rfl⟩
          · exact List.mem_map.mpr ⟨13, mq_TTm.mpr (Or.inr (Or.inl rfl)), rfl⟩))
        refine xr_iinc C dX9_fillWith_95 rfl (by decide) rfl ?_
        refine xr_goto C dX9_fillWith_98 rfl ?_
        have hNn : ∀ j, j < i + 1 → (fnU (fnU h0 16 (h0 i)) i false) j = fwH dn pn j ∧ (fnU (fnU d0 16 (d0 i)) i []) j = fwD S dn pn j := by
          intro j hj
          by_cases hji : j = i
          · subst hji
            rw [fnU_s, fnU_s]
            exact hnew
          · rw [fnU_n hji, fnU_n hji, fnU_n (by omega), fnU_n (by omega)]
            exact hN0 j (by omega)
        have hOn : ∀ j, i + 1 ≤ j → j < 16 → (fnU (fnU h0 16 (h0 i)) i false) j = h j ∧ (fnU (fnU d0 16 (d0 i)) i []) j = d j := by
          intro j hj hj2
          rw [fnU_n (by omega), fnU_n (by omega), fnU_n (by omega), fnU_n (by omega)]
          exact hO0 j (by omega) hj2
        refine mq_drop 6 ?_
        rw [show (fwC h d S dn pn i : Int) + 1 = (fwC h d S dn pn (i + 1) : Int) by rw [hfs]; simp]
        exact ih (i + 1, M6, _, _, _, _) ⟨by dsimp only; omega, hPn, hSn, hNn, hOn, hFn⟩ (by dsimp only; omega)
    · have hnew : true = fwH dn pn i ∧ vFm S i dn pn = fwD S dn pn i := ⟨by unfold fwH; rw [decide_eq_true (by omega)], by unfold fwD; rw [if_pos (by omega)]⟩
      refine xr_aload_n C dX9_fillWith_24 rfl ?_
      refine xr_aload_n C dX9_fillWith_25 rfl ?_
      refine xr_get C (Cn := RX9) (T := TX9) (N := 7) (by decide +kernel) g1 rfl 4 (by decide) (C.1.2.2.2.2 (.fieldLink RX9 31 "OssuaryVault$Shelf" "blank" "LOssuaryVault$Volume;") (by decide +kernel)) (fun _ h => h) rfl dX9_fillWith_26 ?_
      refine xr_iload C dX9_fillWith_29 rfl ?_
      refine xr_iload_n C dX9_fillWith_31 rfl ?_
      refine xr_iload_n C dX9_fillWith_32 rfl ?_
      refine xr_aload_n C dX9_fillWith_33 rfl ?_
      refine xr_callV5v C (c_form l G La hI (pw 16) hq16 _ _ _ M0 (g8 16 (by decide)) _ _ _ _ _ _ g1 hD0 hC0 rs ns S hrs hr1 ⟨by omega, by omega⟩ hB0 i dn pn (by omega) hdn hpn hSl hbd) (cwV 5 C.1.2.2.2.2 gX9_fillWith_X9_form rfl rfl rfl (by decide +kernel) ⟨Nat.le_of_ble_eq_true rfl, Nat.le_of_ble_eq_true rfl⟩) g1 rfl (Nat.le_of_ble_eq_true rfl) ⟨by dsimp only; omega, by dsimp only; omega⟩ dX9_fillWith_34 (fun M1 hp1 => ?_)
      obtain ⟨hV1, hF1⟩ := hp1
      refine xr_goto C dX9_fillWith_37 rfl ?_
      have hT6 : ∀ r ∈ [104 + 3 * pw 16, 105 + 3 * pw 16, 106 + 3 * pw 16], r < 275 := by intro r hr; simp at hr; omega
      have k1 := (hF1 (La 12) (mq_ni hI (by decide) hT6 (by simp; omega))).trans g1
      have k2 := (hF1 (La 13) (mq_ni hI (by decide) hT6 (by simp; omega))).trans g2
      have kO : shV G M1 La (pw i) (h0 i) (d0 i) (v0 i) := (g8 i (by omega)).fr hI hF1 hqi hT6 (by simp; omega) (by simp; omega) (by simp; omega)
      refine xr_aload_n C dX9_fillWith_47 rfl ?_
      refine xr_get C (Cn := RX9) (T := TX9) (N := 7) (by decide +kernel) k1 rfl 1 (by decide) (C.1.2.2.2.2 (.fieldLink RX9 11 "OssuaryVault$Shelf" "places" "[LOssuaryVault$Volume;") (by decide +kernel)) (fun _ h => h) rfl dX9_fillWith_48 ?_
      refine xr_iload C dX9_fillWith_51 rfl ?_
      refine xr_aald C k2 mq_tV (by first | omega | (dsimp only; omega)) (by first | omega | (dsimp only; omega)) (by first | omega | (dsimp only; omega)) dX9_fillWith_53 ?_
      rw [Int.toNat_natCast, g3 i hi16]
      refine mq_rfs ?_
      refine xr_astore C dX9_fillWith_54 (by decide) rfl ?_
      refine xr_iload C dX9_fillWith_56 rfl ?_
      refine xr_aload C dX9_fillWith_58 rfl ?_
      refine xr_aload_n C dX9_fillWith_60 rfl ?_
      refine xr_get C (Cn := RX9) (T := TX9) (N := 7) (by decide +kernel) k1 rfl 4 (by decide) (C.1.2.2.2.2 (.fieldLink RX9 31 "OssuaryVault$Shelf" "blank" "LOssuaryVault$Volume;") (by decide +kernel)) (fun _ h => h) rfl dX9_fillWith_61 ?_
      refine xr_callV1i C (c_vsameAs l G _ _ _ _ _ _ _ M1 kO _ _ _ _ _ _ hV1) (cwV 1 C.1.2.2.2.2 gX9_fillWith_X10_sameAs rfl rfl rfl (by decide +kernel) ⟨Nat.le_of_ble_eq_true rfl, Nat.le_of_ble_eq_true rfl⟩) kO.1 rfl (Nat.le_of_ble_eq_true rfl) ⟨by dsimp only; omega, by dsimp only; omega⟩ dX9_fillWith_64 (fun r7 M9 hp9 => ?_)
      obtain ⟨rfl, rfl⟩ := hp9
      have hcmp : (h0 i = true ∧ d0 i = (vFm S i dn pn)) ↔ (h i = fwH dn pn i ∧ d i = fwD S dn pn i) := by
        rw [(hO0 i (Nat.le_refl _) hi16).1, (hO0 i (Nat.le_refl _) hi16).2, ← hnew.1, ← hnew.2]
      by_cases hsm : h0 i = true ∧ d0 i = (vFm S i dn pn)
      · rw [if_pos hsm]
        refine xr_if_eq C dX9_fillWith_67 rfl (by decide) (fun hq => absurd hq (by decide)) (fun _ => ?_)
        have hfs : fwC h d S dn pn (i + 1) = fwC h d S dn pn i + 0 := by
          conv => lhs; unfold fwC
          rw [if_pos (hcmp.mp hsm)]
        refine xr_iconst (n := 0) C dX9_fillWith_70 (by decide +kernel) ?_
        refine xr_goto C dX9_fillWith_71 rfl ?_
        refine xr_iadd C dX9_fillWith_75 ?_
        refine xr_istore C dX9_fillWith_76 (by decide) rfl ?_
        refine xr_aload_n C dX9_fillWith_78 rfl ?_
        refine xr_get C (Cn := RX9) (T := TX9) (N := 7) (by decide +kernel) k1 rfl 1 (by decide) (C.1.2.2.2.2 (.fieldLink RX9 11 "OssuaryVault$Shelf" "places" "[LOssuaryVault$Volume;") (by decide +kernel)) (fun _ h => h) rfl dX9_fillWith_79 ?_
        refine xr_iload C dX9_fillWith_82 rfl ?_
        refine xr_aload_n C dX9_fillWith_84 rfl ?_
        refine xr_get C (Cn := RX9) (T := TX9) (N := 7) (by decide +kernel) k1 rfl 4 (by decide) (C.1.2.2.2.2 (.fieldLink RX9 31 "OssuaryVault$Shelf" "blank" "LOssuaryVault$Volume;") (by decide +kernel)) (fun _ h => h) rfl dX9_fillWith_85 ?_
        refine xr_aast C (r := (RX10, TX10, 4)) k2 mq_tV hV1.1 rfl (by first | omega | (dsimp only; omega)) (by first | omega | (dsimp only; omega)) (by first | omega | (dsimp only; omega)) dX9_fillWith_88 ?_
        refine mq_ren (fun M7 hM7 => ?_)
        rw [Int.toNat_natCast] at hM7
        have hG5 : mq_F [La 13] M1 M7 := mq_F.up hM7 (by simp)
        have j1 : M7 (La 12) = _ := (hG5 (La 12) (by simp; exact mq_ne hI (by decide) (by decide) (by decide))).trans k1
        have j2 : M7 (La 13) = some (.inl (G.2.2.2.1, 16, .inr (.inr (.inr (.inr (va_up fp i (some (La (104 + 3 * pw 16)))))))) ) := by rw [hM7, mq_up_s]
        refine xr_aload_n C dX9_fillWith_89 rfl ?_
        refine xr_aload C dX9_fillWith_90 rfl ?_
        refine xr_put C (Cn := RX9) (T := TX9) (N := 7) (by decide +kernel) j1 rfl 4 (by decide) tyX9 tyX9_ok nmX9 (C.1.2.2.2.2 (.fieldLink RX9 31 "OssuaryVault$Shelf" "blank" "LOssuaryVault$Volume;") (by decide +kernel)) (fun _ h => h) rfl (tyX9_ok 4 (by decide)) rfl rfl (Nat.le_of_ble_eq_true rfl) dX9_fillWith_92 ?_
        refine mq_ren (fun M8 hM8 => ?_)
        have hG6 : mq_F [La 12] M7 M8 := mq_F.up hM8 (by simp)
        have i1 : M8 (La 12) = some (.inr (8, [.ref (La 3), .ref (La 13), .ref (La 14), .ref (La 15), .ref (La (104 + 3 * pw i)), .int (zI ld), .int (zI mb)])) := by rw [hM8, mq_up_s]; rfl
        have i2 : M8 (La 13) = _ := (hG6 (La 13) (by simp; exact mq_ne hI (by decide) (by decide) (by decide))).trans j2
        have hT7 : ∀ r ∈ [12, 13], r < 275 := by decide
        have hG7 : mq_FR La [12, 13] M1 M8 := (hG5.mono (by simp)).tr (hG6.mono (by simp))
        have hPn : shP (fnU (fnU pw 16 (pw i)) i (pw 16)) (fnU (fnU h0 16 (h0 i)) i true) (fnU (fnU d0 16 (d0 i)) i (vFm S i dn pn)) (fnU (fnU v0 16 (v0 i)) i 0) := shP_sw hP0 hi16 (Or.inl rfl)
        have hSn : shI G M8 La (fnU (fnU pw 16 (pw i)) i (pw 16)) (fnU (fnU h0 16 (h0 i)) i true) (fnU (fnU d0 16 (d0 i)) i (vFm S i dn pn)) (fnU (fnU v0 16 (v0 i)) i 0) ld mb nu ho := by
          refine ⟨?_, ⟨_, i2, ?_⟩, ?_, ?_, ?_⟩
          · rw [fnU_n (by omega), fnU_s]; exact i1
          · intro j hj
            unfold va_up
            by_cases hji : j = i
            · rw [if_pos hji, hji, fnU_s]
            · rw [if_neg hji, fnU_n hji, fnU_n (by omega)]; exact g3 j hj
          · obtain ⟨f4, q4, q5⟩ := g4
            exact ⟨f4, ((hG7 (La 14) (mq_ni hI (by decide) hT7 (by simp))).trans (hF1 (La 14) (mq_ni hI (by decide) hT6 (by simp; omega)))).trans q4, q5⟩
          · obtain ⟨f4, q4, q5⟩ := g6
            exact ⟨f4, ((hG7 (La 15) (mq_ni hI (by decide) hT7 (by simp))).trans (hF1 (La 15) (mq_ni hI (by decide) hT6 (by simp; omega)))).trans q4, q5⟩
          · intro j hj
            by_cases hji : j = i
            · subst hji
              rw [fnU_s, fnU_s, fnU_s, fnU_s]
              exact hV1.fr hI hG7 hq16 hT7 (by simp; omega) (by simp; omega) (by simp; omega)
            · rw [fnU_n hji, fnU_n hji, fnU_n hji, fnU_n hji]
              by_cases hj6 : j = 16
              · subst hj6
                rw [fnU_s, fnU_s, fnU_s, fnU_s]
                exact kO.fr hI hG7 hqi hT7 (by simp; omega) (by simp; omega) (by simp; omega)
              · rw [fnU_n hj6, fnU_n hj6, fnU_n hj6, fnU_n hj6]
                have hqj := hP0.1 j hj
                have hqk : pw j ≠ pw 16 := fun e => hj6 (hP0.2.1 j 16 hj (by decide) e)
                exact ((g8 j hj).fr hI hF1 hqj hT6 (by simp; omega) (by simp; omega) (by simp; omega)).fr hI hG7 hqj hT7 (by simp; omega) (by simp; omega) (by simp; omega)
        have hFn : mq_FR La mq_TT M M8 := (hF0.tr (hF1.mono (fun a ha => by
          simp at ha
          rcases ha with rfl | rfl | rfl
          · exact hin _ (by omega) (by omega)
          · exact hin _ (by omega) (by omega)
          · exact hin _ (by omega) (by omega)))).tr (hG7.mono (fun a ha => by
          simp at ha
          rcases ha with rfl | rfl
          · exact List.mem_map.mpr ⟨12, mq_TTm.mpr (Or.inl rfl), rfl⟩
          · exact List.mem_map.mpr ⟨13, mq_TTm.mpr (Or.inr (Or.inl rfl)), rfl⟩))
        refine xr_iinc C dX9_fillWith_95 rfl (by decide) rfl ?_
        refine xr_goto C dX9_fillWith_98 rfl ?_
        have hNn : ∀ j, j < i + 1 → (fnU (fnU h0 16 (h0 i)) i true) j = fwH dn pn j ∧ (fnU (fnU d0 16 (d0 i)) i (vFm S i dn pn)) j = fwD S dn pn j := by
          intro j hj
          by_cases hji : j = i
          · subst hji
            rw [fnU_s, fnU_s]
            exact hnew
          · rw [fnU_n hji, fnU_n hji, fnU_n (by omega), fnU_n (by omega)]
            exact hN0 j (by omega)
        have hOn : ∀ j, i + 1 ≤ j → j < 16 → (fnU (fnU h0 16 (h0 i)) i true) j = h j ∧ (fnU (fnU d0 16 (d0 i)) i (vFm S i dn pn)) j = d j := by
          intro j hj hj2
          rw [fnU_n (by omega), fnU_n (by omega), fnU_n (by omega), fnU_n (by omega)]
          exact hO0 j (by omega) hj2
        refine mq_drop 6 ?_
        rw [show (fwC h d S dn pn i : Int) + 0 = (fwC h d S dn pn (i + 1) : Int) by rw [hfs]; simp]
        exact ih (i + 1, M8, _, _, _, _) ⟨by dsimp only; omega, hPn, hSn, hNn, hOn, hFn⟩ (by dsimp only; omega)
      · rw [if_neg hsm]
        refine xr_if_eq C dX9_fillWith_67 rfl (by decide) (fun _ => ?_) (fun hq => absurd hq (by decide))
        have hfs : fwC h d S dn pn (i + 1) = fwC h d S dn pn i + 1 := by
          conv => lhs; unfold fwC
          rw [if_neg (fun q => hsm (hcmp.mpr q))]
        refine xr_iconst (n := 1) C dX9_fillWith_74 (by decide +kernel) ?_
        refine xr_iadd C dX9_fillWith_75 ?_
        refine xr_istore C dX9_fillWith_76 (by decide) rfl ?_
        refine xr_aload_n C dX9_fillWith_78 rfl ?_
        refine xr_get C (Cn := RX9) (T := TX9) (N := 7) (by decide +kernel) k1 rfl 1 (by decide) (C.1.2.2.2.2 (.fieldLink RX9 11 "OssuaryVault$Shelf" "places" "[LOssuaryVault$Volume;") (by decide +kernel)) (fun _ h => h) rfl dX9_fillWith_79 ?_
        refine xr_iload C dX9_fillWith_82 rfl ?_
        refine xr_aload_n C dX9_fillWith_84 rfl ?_
        refine xr_get C (Cn := RX9) (T := TX9) (N := 7) (by decide +kernel) k1 rfl 4 (by decide) (C.1.2.2.2.2 (.fieldLink RX9 31 "OssuaryVault$Shelf" "blank" "LOssuaryVault$Volume;") (by decide +kernel)) (fun _ h => h) rfl dX9_fillWith_85 ?_
        refine xr_aast C (r := (RX10, TX10, 4)) k2 mq_tV hV1.1 rfl (by first | omega | (dsimp only; omega)) (by first | omega | (dsimp only; omega)) (by first | omega | (dsimp only; omega)) dX9_fillWith_88 ?_
        refine mq_ren (fun M9 hM9 => ?_)
        rw [Int.toNat_natCast] at hM9
        have hG5 : mq_F [La 13] M1 M9 := mq_F.up hM9 (by simp)
        have j1 : M9 (La 12) = _ := (hG5 (La 12) (by simp; exact mq_ne hI (by decide) (by decide) (by decide))).trans k1
        have j2 : M9 (La 13) = some (.inl (G.2.2.2.1, 16, .inr (.inr (.inr (.inr (va_up fp i (some (La (104 + 3 * pw 16)))))))) ) := by rw [hM9, mq_up_s]
        refine xr_aload_n C dX9_fillWith_89 rfl ?_
        refine xr_aload C dX9_fillWith_90 rfl ?_
        refine xr_put C (Cn := RX9) (T := TX9) (N := 7) (by decide +kernel) j1 rfl 4 (by decide) tyX9 tyX9_ok nmX9 (C.1.2.2.2.2 (.fieldLink RX9 31 "OssuaryVault$Shelf" "blank" "LOssuaryVault$Volume;") (by decide +kernel)) (fun _ h => h) rfl (tyX9_ok 4 (by decide)) rfl rfl (Nat.le_of_ble_eq_true rfl) dX9_fillWith_92 ?_
        refine mq_ren (fun M10 hM10 => ?_)
        have hG6 : mq_F [La 12] M9 M10 := mq_F.up hM10 (by simp)
        have i1 : M10 (La 12) = some (.inr (8, [.ref (La 3), .ref (La 13), .ref (La 14), .ref (La 15), .ref (La (104 + 3 * pw i)), .int (zI ld), .int (zI mb)])) := by rw [hM10, mq_up_s]; rfl
        have i2 : M10 (La 13) = _ := (hG6 (La 13) (by simp; exact mq_ne hI (by decide) (by decide) (by decide))).trans j2
        have hT7 : ∀ r ∈ [12, 13], r < 275 := by decide
        have hG7 : mq_FR La [12, 13] M1 M10 := (hG5.mono (by simp)).tr (hG6.mono (by simp))
        have hPn : shP (fnU (fnU pw 16 (pw i)) i (pw 16)) (fnU (fnU h0 16 (h0 i)) i true) (fnU (fnU d0 16 (d0 i)) i (vFm S i dn pn)) (fnU (fnU v0 16 (v0 i)) i 0) := shP_sw hP0 hi16 (Or.inl rfl)
        have hSn : shI G M10 La (fnU (fnU pw 16 (pw i)) i (pw 16)) (fnU (fnU h0 16 (h0 i)) i true) (fnU (fnU d0 16 (d0 i)) i (vFm S i dn pn)) (fnU (fnU v0 16 (v0 i)) i 0) ld mb nu ho := by
          refine ⟨?_, ⟨_, i2, ?_⟩, ?_, ?_, ?_⟩
          · rw [fnU_n (by omega), fnU_s]; exact i1
          · intro j hj
            unfold va_up
            by_cases hji : j = i
            · rw [if_pos hji, hji, fnU_s]
            · rw [if_neg hji, fnU_n hji, fnU_n (by omega)]; exact g3 j hj
          · obtain ⟨f4, q4, q5⟩ := g4
            exact ⟨f4, ((hG7 (La 14) (mq_ni hI (by decide) hT7 (by simp))).trans (hF1 (La 14) (mq_ni hI (by decide) hT6 (by simp; omega)))).trans q4, q5⟩
          · obtain ⟨f4, q4, q5⟩ := g6
            exact ⟨f4, ((hG7 (La 15) (mq_ni hI (by decide) hT7 (by simp))).trans (hF1 (La 15) (mq_ni hI (by decide) hT6 (by simp; omega)))).trans q4, q5⟩
          · intro j hj
            by_cases hji : j = i
            · subst hji
              rw [fnU_s, fnU_s, fnU_s, fnU_s]
              exact hV1.fr hI hG7 hq16 hT7 (by simp; omega) (by simp; omega) (by simp; omega)
            · rw [fnU_n hji, fnU_n hji, fnU_n hji, fnU_n hji]
              by_cases hj6 : j = 16
              · subst hj6
                rw [fnU_s, fnU_s, fnU_s, fnU_s]
                exact kO.fr hI hG7 hqi hT7 (by simp; omega) (by simp; omega) (by simp; omega)
              · rw [fnU_n hj6, fnU_n hj6, fnU_n hj6, fnU_n hj6]
                have hqj := hP0.1 j hj
                have hqk : pw j ≠ pw 16 := fun e => hj6 (hP0.2.1 j 16 hj (by decide) e)
                exact ((g8 j hj).fr hI hF1 hqj hT6 (by simp; omega) (by simp; omega) (by simp; omega)).fr hI hG7 hqj hT7 (by simp; omega) (by simp; omega) (by simp; omega)
        have hFn : mq_FR La mq_TT M M10 := (hF0.tr (hF1.mono (fun a ha => by
          simp at ha
          rcases ha with rfl | rfl | rfl
          · exact hin _ (by omega) (by omega)
          · exact hin _ (by omega) (by omega)
          · exact hin _ (by omega) (by omega)))).tr (hG7.mono (fun a ha => by
          simp at ha
          rcases ha with rfl | rfl
          · exact List.mem_map.mpr ⟨12, mq_TTm.mpr (Or.inl rfl), rfl⟩
          · exact List.mem_map.mpr ⟨13, mq_TTm.mpr (Or.inr (Or.inl rfl)), rfl⟩))
        refine xr_iinc C dX9_fillWith_95 rfl (by decide) rfl ?_
        refine xr_goto C dX9_fillWith_98 rfl ?_
        have hNn : ∀ j, j < i + 1 → (fnU (fnU h0 16 (h0 i)) i true) j = fwH dn pn j ∧ (fnU (fnU d0 16 (d0 i)) i (vFm S i dn pn)) j = fwD S dn pn j := by
          intro j hj
          by_cases hji : j = i
          · subst hji
            rw [fnU_s, fnU_s]
            exact hnew
          · rw [fnU_n hji, fnU_n hji, fnU_n (by omega), fnU_n (by omega)]
            exact hN0 j (by omega)
        have hOn : ∀ j, i + 1 ≤ j → j < 16 → (fnU (fnU h0 16 (h0 i)) i true) j = h j ∧ (fnU (fnU d0 16 (d0 i)) i (vFm S i dn pn)) j = d j := by
          intro j hj hj2
          rw [fnU_n (by omega), fnU_n (by omega), fnU_n (by omega), fnU_n (by omega)]
          exact hO0 j (by omega) hj2
        refine mq_drop 6 ?_
        rw [show (fwC h d S dn pn i : Int) + 1 = (fwC h d S dn pn (i + 1) : Int) by rw [hfs]; simp]
        exact ih (i + 1, M10, _, _, _, _) ⟨by dsimp only; omega, hPn, hSn, hNn, hOn, hFn⟩ (by dsimp only; omega)
