/-! ===== p48: the law: fill and build, a step, all ===== -/
set_option maxHeartbeats 4000000 in
set_option maxRecDepth 100000 in
theorem lg_build {p : Program} {e : Env} {s : State} {m : MethodId} {args : Array Value} {below : List Frame} {meth : Method} {c : Code} {Q : State → Prop} {z : Nat} (l : Launch) (G : mq_G) (b sn : Nat) (sx : Nat → Int32) (hG : qG G b sn sx) (hA : pA G) (hsn : sn < 1000) (La : Nat → Nat) (x ka ca : Nat) (hB : ldB La x ka ca) (tm stp : Int) (k : vtD) (h : Nat → Bool) (d : Nat → List Nat) (r : vtR) (dr : Int) (hdr : 0 ≤ dr ∧ dr < 600000) (M : mq_M) (hD : ldA G M La x b ka ca [] k h d r dr) (C : mq_C p m c cL_law 19 s args wsL_law RL G.1.1 (mq_tys G) z) (cells slots : Nat) (hc : cells ≤ 500000) (hs : slots ≤ 6000000) (kk : ∀ (M2 : mq_M) (k2 : vtD) (h2 : Nat → Bool) (d2 : Nat → List Nat) (r2 : vtR) (dr2 : Int), (dr ≤ dr2 ∧ dr2 ≤ dr + 220) → ldA G M2 La x b ka ca [] k2 h2 d2 r2 dr2 → mq_X p l e { frames := 12, cells := 600130, slots := 7301080, locals := 448 } s m args below meth c Q 19 G.1.1 z s.heap (cells + 6) (slots + 900) M2 89 [some (.ref b), some (.int (zI tm)), some (.ref x), some (.ref (La 0)), some (.int (zI stp)), none, none, none, none, none, none, none, none, none, none, none, none, none, none] []) : mq_X p l e { frames := 12, cells := 600130, slots := 7301080, locals := 448 } s m args below meth c Q 19 G.1.1 z s.heap cells slots M 51 [some (.ref b), some (.int (zI tm)), some (.ref x), some (.ref (La 0)), some (.int (zI stp)), none, none, none, none, none, none, none, none, none, none, none, none, none, none] [] := by
  refine xr_aload_n C dL_law_51 rfl ?_
  refine xr_iconst (n := 1) C dL_law_52 (by decide +kernel) ?_
  refine xr_aload_n C dL_law_53 rfl ?_
  refine xr_iconst (n := 3) C dL_law_54 (by decide +kernel) ?_
  refine xr_callV1i C (l_draw l G sn sx x (La 0) b (dr) (k.1 : Int) ka ca _ hD.D hG hsn (by omega) 3 (by decide)) (cwV 1 C.1.2.2.2.2 gL_law_X12_draw rfl rfl rfl (by decide +kernel) ⟨Nat.le_of_ble_eq_true rfl, Nat.le_of_ble_eq_true rfl⟩) hD.D rfl (Nat.le_of_ble_eq_true rfl) ⟨by dsimp only; omega, by dsimp only; omega⟩ dL_law_55 (fun v1 Mdv1 hpv1 => ?_)
  obtain ⟨hv1, hMv1⟩ := hpv1
  have hEv1 := hD.draw hB hMv1
  obtain ⟨u, rfl⟩ := Int.eq_ofNat_of_zero_le hv1.1
  refine xr_iadd C dL_law_58 ?_
  refine xr_bipush (n := 60) C dL_law_59 (by decide +kernel) ?_
  rw [show 1 + (u : Int) = ((1 + u : Nat) : Int) by omega]
  refine xr_callV2i C (l_fill l G b sn sx hG hA hsn La x ka ca hB k h d r (dr + 1) (by omega) _ hEv1 (1 + u) (by omega)) (cwV 2 C.1.2.2.2.2 gL_law_X12_fill rfl rfl rfl (by decide +kernel) ⟨Nat.le_of_ble_eq_true rfl, Nat.le_of_ble_eq_true rfl⟩) hEv1.D rfl (Nat.le_of_ble_eq_true rfl) ⟨by dsimp only; omega, by dsimp only; omega⟩ dL_law_61 (fun rf Mrf hprf => ?_)
  obtain ⟨rfl, k2, dr2, ⟨h21, h22⟩, hD2⟩ := hprf
  refine xr_if_eq C dL_law_64 rfl (by omega) (fun hq => absurd hq (by omega)) (fun _ => ?_)
  refine xr_aload_n C dL_law_67 rfl ?_
  refine xr_iconst (n := 1) C dL_law_68 (by decide +kernel) ?_
  refine xr_aload_n C dL_law_69 rfl ?_
  refine xr_iconst (n := 5) C dL_law_70 (by decide +kernel) ?_
  refine xr_callV1i C (l_draw l G sn sx x (La 0) b (dr2) (k2.1 : Int) ka ca _ hD2.D hG hsn (by omega) 5 (by decide)) (cwV 1 C.1.2.2.2.2 gL_law_X12_draw rfl rfl rfl (by decide +kernel) ⟨Nat.le_of_ble_eq_true rfl, Nat.le_of_ble_eq_true rfl⟩) hD2.D rfl (Nat.le_of_ble_eq_true rfl) ⟨by dsimp only; omega, by dsimp only; omega⟩ dL_law_71 (fun v2 Mdv2 hpv2 => ?_)
  obtain ⟨hv2, hMv2⟩ := hpv2
  have hEv2 := hD2.draw hB hMv2
  obtain ⟨u5, rfl⟩ := Int.eq_ofNat_of_zero_le hv2.1
  refine xr_iadd C dL_law_74 ?_
  refine xr_aload_n C dL_law_75 rfl ?_
  refine xr_iconst (n := 4) C dL_law_76 (by decide +kernel) ?_
  refine xr_callV1i C (l_draw l G sn sx x (La 0) b (dr2 + 1) (k2.1 : Int) ka ca _ hEv2.D hG hsn (by omega) 4 (by decide)) (cwV 1 C.1.2.2.2.2 gL_law_X12_draw rfl rfl rfl (by decide +kernel) ⟨Nat.le_of_ble_eq_true rfl, Nat.le_of_ble_eq_true rfl⟩) hEv2.D rfl (Nat.le_of_ble_eq_true rfl) ⟨by dsimp only; omega, by dsimp only; omega⟩ dL_law_77 (fun v3 Mdv3 hpv3 => ?_)
  obtain ⟨hv3, hMv3⟩ := hpv3
  have hEv3 := hEv2.draw hB hMv3
  obtain ⟨u4, rfl⟩ := Int.eq_ofNat_of_zero_le hv3.1
  rw [show 1 + (u5 : Int) = ((1 + u5 : Nat) : Int) by omega]
  refine xr_callV2i C (c_build l G La hB.1 [] k2 h d r _ hEv3.V (1 + u5) u4 (by omega) (by omega)) (cwV 2 C.1.2.2.2.2 gL_law_X11_build rfl rfl rfl (by decide +kernel) ⟨Nat.le_of_ble_eq_true rfl, Nat.le_of_ble_eq_true rfl⟩) hEv3.V.1 rfl (Nat.le_of_ble_eq_true rfl) ⟨by dsimp only; omega, by dsimp only; omega⟩ dL_law_80 (fun r4 Mr4 hpr4 => ?_)
  obtain ⟨b1, b2, -, ⟨S, h2, d2, -, hV2⟩, hF2⟩ := hpr4
  have hE2 := hEv3.vault hB hV2 hF2
  refine xr_iconst (n := 1) C dL_law_83 (by decide +kernel) ?_
  refine xr_icmp_ge C dL_law_84 rfl (by omega) (by omega) (fun _ => ?_) (fun hq => absurd hq (by omega))
  refine mq_widen (k := cells + 6) (n := slots + 900) (by omega) (by omega) ?_
  exact kk _ k2 h2 d2 (false, r.2) _ ⟨by omega, by omega⟩ hE2
set_option maxHeartbeats 4000000 in
set_option maxRecDepth 100000 in
theorem lg_head {p : Program} {e : Env} {s : State} {m : MethodId} {args : Array Value} {below : List Frame} {meth : Method} {c : Code} {Q : State → Prop} {z : Nat} (l : Launch) (G : mq_G) (b sn : Nat) (sx : Nat → Int32) (hG : qG G b sn sx) (hA : pA G) (hsn : sn < 1000) (La : Nat → Nat) (x ka ca : Nat) (hB : ldB La x ka ca) (tm stp : Int) (k : vtD) (h : Nat → Bool) (d : Nat → List Nat) (r : vtR) (dr : Int) (hdr : 0 ≤ dr ∧ dr < 500000) (M : mq_M) (hD : ldA G M La x b ka ca [] k h d r dr) (hstp : 0 ≤ stp ∧ stp < 10) (C : mq_C p m c cL_law 19 s args wsL_law RL G.1.1 (mq_tys G) z) (cells slots : Nat) (hc : cells ≤ 500000) (hs : slots ≤ 6000000) (kk : ∀ (M2 : mq_M) (k2 : vtD) (h2 : Nat → Bool) (d2 : Nat → List Nat) (r2 : vtR) (dr2 : Int), (dr ≤ dr2 ∧ dr2 ≤ dr + 225) → ldA G M2 La x b ka ca [] k2 h2 d2 r2 dr2 → mq_X p l e { frames := 12, cells := 600130, slots := 7301080, locals := 448 } s m args below meth c Q 19 G.1.1 z s.heap (cells + 6) (slots + 900) M2 89 [some (.ref b), some (.int (zI tm)), some (.ref x), some (.ref (La 0)), some (.int (zI stp)), none, none, none, none, none, none, none, none, none, none, none, none, none, none] []) : mq_X p l e { frames := 12, cells := 600130, slots := 7301080, locals := 448 } s m args below meth c Q 19 G.1.1 z s.heap cells slots M 38 [some (.ref b), some (.int (zI tm)), some (.ref x), some (.ref (La 0)), some (.int (zI stp)), none, none, none, none, none, none, none, none, none, none, none, none, none, none] [] := by
  refine xr_iload C dL_law_38 rfl ?_
  refine xr_if_eq C dL_law_40 rfl (by omega) (fun hq1 => ?_) (fun hq1 => ?_)
  · exact lg_build l G b sn sx hG hA hsn La x ka ca hB tm stp k h d r dr (by omega) M hD C _ _ (by omega) (by omega) (fun M2 k2 h2 d2 r2 dr2 hdr2 hD2 => kk M2 k2 h2 d2 r2 dr2 ⟨by omega, by omega⟩ hD2)
  · refine xr_aload_n C dL_law_43 rfl ?_
    refine xr_iconst (n := 5) C dL_law_44 (by decide +kernel) ?_
    refine xr_callV1i C (l_draw l G sn sx x (La 0) b (dr) (k.1 : Int) ka ca _ hD.D hG hsn (by omega) 5 (by decide)) (cwV 1 C.1.2.2.2.2 gL_law_X12_draw rfl rfl rfl (by decide +kernel) ⟨Nat.le_of_ble_eq_true rfl, Nat.le_of_ble_eq_true rfl⟩) hD.D rfl (Nat.le_of_ble_eq_true rfl) ⟨by dsimp only; omega, by dsimp only; omega⟩ dL_law_45 (fun v2 Mdv2 hpv2 => ?_)
    obtain ⟨hv2, hMv2⟩ := hpv2
    have hEv2 := hD.draw hB hMv2
    refine xr_if_ne C dL_law_48 rfl (by omega) (fun hq3 => ?_) (fun hq3 => ?_)
    · refine mq_widen (k := cells + 6) (n := slots + 900) (by omega) (by omega) ?_
      exact kk _ k h d r _ ⟨by omega, by omega⟩ hEv2
    · refine lg_build l G b sn sx hG hA hsn La x ka ca hB tm stp k h d r (dr + 1) (by omega) _ hEv2 C _ _ (by omega) (by omega) (fun M2 k2 h2 d2 r2 dr2 hdr2 hD2 => ?_)
      exact kk M2 k2 h2 d2 r2 dr2 ⟨by omega, by omega⟩ hD2
set_option maxHeartbeats 4000000 in
set_option maxRecDepth 100000 in
theorem lg_step {p : Program} {e : Env} {s : State} {m : MethodId} {args : Array Value} {below : List Frame} {meth : Method} {c : Code} {Q : State → Prop} {z : Nat} (l : Launch) (G : mq_G) (b sn : Nat) (sx : Nat → Int32) (hG : qG G b sn sx) (hA : pA G) (hsn : sn < 1000) (La : Nat → Nat) (x ka ca : Nat) (hB : ldB La x ka ca) (tm stp : Int) (k : vtD) (h : Nat → Bool) (d : Nat → List Nat) (r : vtR) (dr : Int) (hdr : 0 ≤ dr ∧ dr < 500000) (M : mq_M) (hD : ldA G M La x b ka ca [] k h d r dr) (hstp : 0 ≤ stp ∧ stp < 10) (C : mq_C p m c cL_law 19 s args wsL_law RL G.1.1 (mq_tys G) z) (cells slots : Nat) (hc : cells ≤ 400000) (hs : slots ≤ 5000000) (kk : ∀ (M2 : mq_M) (k2 : vtD) (h2 : Nat → Bool) (d2 : Nat → List Nat) (r2 : vtR) (dr2 : Int), (dr ≤ dr2 ∧ dr2 ≤ dr + 300) → ldA G M2 La x b ka ca [] k2 h2 d2 r2 dr2 → mq_X p l e { frames := 12, cells := 600130, slots := 7301080, locals := 448 } s m args below meth c Q 19 G.1.1 z s.heap (cells + 47) (slots + 51200) M2 997 [some (.ref b), some (.int (zI tm)), some (.ref x), some (.ref (La 0)), some (.int (zI stp)), none, none, none, none, none, none, none, none, none, none, none, none, none, none] []) : mq_X p l e { frames := 12, cells := 600130, slots := 7301080, locals := 448 } s m args below meth c Q 19 G.1.1 z s.heap cells slots M 38 [some (.ref b), some (.int (zI tm)), some (.ref x), some (.ref (La 0)), some (.int (zI stp)), none, none, none, none, none, none, none, none, none, none, none, none, none, none] [] := by
  refine lg_head l G b sn sx hG hA hsn La x ka ca hB tm stp k h d r dr hdr M hD hstp C _ _ (by omega) (by omega) (fun M2 k2 h2 d2 r2 dr2 hdr2 hD2 => ?_)
  refine lg_ops l G b sn sx hG hA hsn La x ka ca hB tm stp k2 h2 d2 r2 dr2 (by omega) M2 hD2 C _ _ (by omega) (by omega) (fun M3 h3 d3 dr3 hdr3 hD3 => ?_)
  refine lg_survey l G b sn sx hG hA hsn La x ka ca hB tm stp k2 h3 d3 r2 dr3 M3 hD3 C _ _ (by omega) (by omega) (fun M4 met hm hD4 => ?_)
  refine lg_cmps l G b sn sx hG hA hsn La x ka ca hB tm stp k2 h3 d3 r2 dr3 M4 hD4 met C _ _ (by omega) (by omega) (fun M5 hD5 => ?_)
  refine lg_open l G b sn sx hG hA hsn La x ka ca hB tm stp k2 h3 d3 r2 dr3 M5 hD5 met C _ _ (by omega) (by omega) (fun M6 hD6 => ?_) (fun M6 ld dn pn S fc fk fp ft fg hf hD6 => ?_)
  · refine mq_widen (k := cells + 47) (n := slots + 51200) (by omega) (by omega) ?_
    exact kk M6 k2 h3 d3 _ dr3 ⟨by omega, by omega⟩ hD6
  · obtain ⟨hld, hl16, hg2, hg3, hlen, hok⟩ := hf
    obtain ⟨-, hlw⟩ := svS_ld h3 d3 16 ld hld
    obtain ⟨-, -, hlr, -, hll⟩ := vWhl_nums hlw
    have hby := (hD6.V.bt (i := ld) hl16).2
    rw [hg2, hg3] at hlr
    rw [hg2, ← hlen] at hll
    have hdn : 1 ≤ dn ∧ dn ≤ 10 := ⟨hlr.1, hlr.2.1⟩
    have hpn : pn ≤ 6 := hlr.2.2
    have hbd : bdS S.length dn ≤ 4070 := by omega
    refine lg_work l G b sn sx hG hA hsn La x ka ca hB tm stp k2 h3 d3 dr3 M6 met ld dn pn S fc fk fp ft fg hld hl16 hg2 hg3 hlen hm hD6 C _ _ (by omega) (by omega) ?_
    refine lg_files l G b sn sx hG hA hsn La x ka ca hB tm stp k2 h3 d3 dr3 M6 dn pn S fc fk fp ft fg hok hD6 C _ _ (by omega) (by omega) (fun M7 hD7 => ?_)
    refine lg_stream l G b sn sx hG hA hsn La x ka ca hB tm stp k2 h3 d3 dr3 M7 dn pn S fc fk fp ft fg hD7 C _ _ (by omega) (by omega) (fun M8 q f hq hQ hD8 => ?_)
    refine lg_repair l G b sn sx hG hA hsn La x ka ca hB tm stp k2 h3 d3 dr3 M8 dn pn S fc fk fp ft fg hdn hpn hbd q f hq hQ hD8 C _ _ (by omega) (by omega) (fun M9 h9 d9 fc2 fk2 fp2 ft2 fg2 hA9 hok9 hq9 hD9 => ?_)
    refine lg_same l G b sn sx hG hA hsn La x ka ca hB tm stp k2 h9 d9 dr3 M9 dn pn S fc fk fp ft fg fc2 fk2 fp2 ft2 fg2 hdn hpn hbd hok hok9 hA9 q f ⟨hq9, hQ.2⟩ hD9 C _ _ (by omega) (by omega) (fun M10 h10 d10 hD10 => ?_)
    refine mq_widen (k := cells + 47) (n := slots + 51200) (by omega) (by omega) ?_
    exact kk M10 k2 h10 d10 _ dr3 ⟨by omega, by omega⟩ hD10
set_option maxHeartbeats 4000000 in
set_option maxRecDepth 100000 in
theorem lb_main {p : Program} {e : Env} {s : State} {m : MethodId} {args : Array Value} {below : List Frame} {meth : Method} {c : Code} {Q : State → Prop} {z : Nat} (l : Launch) (G : mq_G) (b sn : Nat) (sx : Nat → Int32) (hG : qG G b sn sx) (hA : pA G) (hsn : sn < 1000) (C : mq_C p m c cL_law 19 s args wsL_law RL G.1.1 (mq_tys G) z) (hE : ∀ (M2 : mq_M) (c2 s2 : Nat) (L2 : List (Option Value)), c2 ≤ 600130 → s2 ≤ 7301080 → mq_X p l e { frames := 12, cells := 600130, slots := 7301080, locals := 448 } s m args below meth c Q 19 G.1.1 z s.heap c2 s2 M2 1010 L2 [.int (zI 1)]) : mq_X p l e { frames := 12, cells := 600130, slots := 7301080, locals := 448 } s m args below meth c Q 19 G.1.1 z s.heap 0 0 (fun _ => none) 0 [some (.ref b), none, none, none, none, none, none, none, none, none, none, none, none, none, none, none, none, none, none] [] := by
  refine xr_iconst (n := 0) C dL_law_0 (by decide +kernel) ?_
  refine xr_istore_n C dL_law_1 (by decide) rfl ?_
  refine mq_loopK (σ := Nat × mq_M) (fun y => y.1 ≤ 3) (fun y => 3 - y.1) (fun y => 1000 * y.1) (fun y => 600000 * y.1) (fun y => y.2) (fun y => [some (.ref b), some (.int (zI (y.1 : Int))), none, none, none, none, none, none, none, none, none, none, none, none, none, none, none, none, none]) (fun y => []) ?_ (0, fun _ => none) (Nat.zero_le _)
  rintro ⟨t, M0⟩ ht ih
  dsimp only at ht ih ⊢
  refine xr_iload_n C dL_law_2 rfl ?_
  refine xr_iconst (n := 3) C dL_law_3 (by decide +kernel) ?_
  refine xr_icmp_ge C dL_law_4 rfl (by omega) (by omega) (fun hq1 => ?_) (fun hq1 => ?_)
  · refine xr_iconst (n := 1) C dL_law_1009 (by decide +kernel) ?_
    exact hE _ _ _ _ (by omega) (by omega)
  · refine xr_new C (ci := 11) (fs := [.null, .null, .int 0, .int 0, .null, .null]) (Cn := RX12) (T := TX12) (N := 6) (by decide +kernel) tyX12 tyX12_ok (C.1.2.2.2.2 (.classLink RL 23 RX12) (by decide +kernel)) (C.1.2.2.2.2 (.instantiable RX12 6) (by decide +kernel)) (C.1.2.2.2.2 (.initialized RX12) (by decide +kernel)) rfl (fun j hj => by rcases (show j = 0 ∨ j = 1 ∨ j = 2 ∨ j = 3 ∨ j = 4 ∨ j = 5 by omega) with rfl | rfl | rfl | rfl | rfl | rfl <;> rfl) (by dsimp only; omega) (by dsimp only; omega) dL_law_7 (fun q2 hq2 => ?_)
    refine mq_ren (fun M3 hM3 => ?_)
    refine xr_dup C dL_law_10 rfl ?_
    refine xr_aload_n C dL_law_11 rfl ?_
    refine xr_bipush (n := 31) C dL_law_12 (by decide +kernel) ?_
    refine xr_iload_n C dL_law_14 rfl ?_
    refine xr_imul C dL_law_15 ?_
    refine xr_bipush (n := 6) C dL_law_16 (by decide +kernel) ?_
    refine xr_iadd C dL_law_18 ?_
    refine xr_callI2 C (l_Desk_init l G b sn sx hG hA q2 _ M3 (by rw [hM3, mq_up_s])) (cwI 2 C.1.2.2.2.2 gL_law_X12_init rfl rfl rfl (C.1.2.2.2.2 (.initialized RX12) (by decide +kernel)) (C.1.2.2.2.2 (.methodLink RL 46 yX12_init) (by decide +kernel)) (C.1.2.2.2.2 (.instanceMethod yX12_init) (by decide +kernel)) rfl (by decide +kernel) ⟨Nat.le_of_ble_eq_true rfl, Nat.le_of_ble_eq_true rfl⟩) (Nat.le_of_ble_eq_true rfl) ⟨by dsimp only; omega, by dsimp only; omega⟩ dL_law_19 (fun M2 hp2 => ?_)
    obtain ⟨La, ka, ca, hB, hD⟩ := hp2
    refine xr_astore_n C dL_law_22 (by decide) rfl ?_
    refine xr_aload_n C dL_law_23 rfl ?_
    refine xr_get C (Cn := RX12) (T := TX12) (N := 6) (by decide +kernel) hD.D rfl 0 (by decide) (C.1.2.2.2.2 (.fieldLink RL 49 "OssuaryVaultLaw$Desk" "m" "LOssuaryVault;") (by decide +kernel)) (fun _ h => h) rfl dL_law_24 ?_
    refine xr_astore_n C dL_law_27 (by decide) rfl ?_
    refine xr_iconst (n := 0) C dL_law_28 (by decide +kernel) ?_
    refine xr_istore C dL_law_29 (by decide) rfl ?_
    refine mq_widen (k := 1000 * t + 280 + 47 * 0) (n := 600000 * t + 140000 + 51200 * 0) (by omega) (by omega) ?_
    refine mq_loopK (σ := Nat × mq_M × vtD × (Nat → Bool) × (Nat → List Nat) × vtR × Int) (fun y => (y.1 ≤ 7 ∧ 0 ≤ y.2.2.2.2.2.2 ∧ y.2.2.2.2.2.2 ≤ 100 + 300 * (y.1 : Int)) ∧ ldA G y.2.1 La q2 b ka ca [] y.2.2.1 y.2.2.2.1 y.2.2.2.2.1 y.2.2.2.2.2.1 y.2.2.2.2.2.2) (fun y => 7 - y.1) (fun y => 1000 * t + 280 + 47 * y.1) (fun y => 600000 * t + 140000 + 51200 * y.1) (fun y => y.2.1) (fun y => [some (.ref b), some (.int (zI (t : Int))), some (.ref q2), some (.ref (La 0)), some (.int (zI (y.1 : Int))), none, none, none, none, none, none, none, none, none, none, none, none, none, none]) (fun y => []) ?_ (0, M2, vk0, (fun _ => false), (fun _ => []), vr0, 31 * (t : Int) + 6) ⟨⟨Nat.zero_le _, by dsimp only; omega, by dsimp only; omega⟩, hD⟩
    rintro ⟨u, M5, k5, h5, d5, r5, dq⟩ ⟨⟨hu, hd1, hd2⟩, hE5⟩ ih5
    dsimp only at hu hd1 hd2 hE5 ih5 ⊢
    refine xr_iload C dL_law_31 rfl ?_
    refine xr_bipush (n := 7) C dL_law_33 (by decide +kernel) ?_
    refine xr_icmp_ge C dL_law_35 rfl (by omega) (by omega) (fun hq4 => ?_) (fun hq4 => ?_)
    · refine xr_iinc C dL_law_1003 rfl (by decide) rfl ?_
      refine xr_goto C dL_law_1006 rfl ?_
      refine mq_drop 2 ?_
      refine mq_drop 3 ?_
      refine mq_drop 4 ?_
      rw [show (t : Int) + 1 = ((t + 1 : Nat) : Int) by omega]
      refine mq_widen (k := 1000 * (t + 1)) (n := 600000 * (t + 1)) (by omega) (by omega) ?_
      exact ih (t + 1, M5) (by dsimp only; omega) (by dsimp only; omega)
    · refine lg_step l G b sn sx hG hA hsn La q2 ka ca hB (t : Int) (u : Int) k5 h5 d5 r5 dq (by omega) M5 hE5 (by omega) C _ _ (by omega) (by omega) (fun M6 k6 h6 d6 r6 dr6 hd6 hE6 => ?_)
      refine xr_iinc C dL_law_997 rfl (by decide) rfl ?_
      refine xr_goto C dL_law_1000 rfl ?_
      rw [show (u : Int) + 1 = ((u + 1 : Nat) : Int) by omega]
      refine mq_widen (k := 1000 * t + 280 + 47 * (u + 1)) (n := 600000 * t + 140000 + 51200 * (u + 1)) (by omega) (by omega) ?_
      exact ih5 (u + 1, M6, k6, h6, d6, r6, dr6) ⟨⟨by dsimp only; omega, by dsimp only; omega, by dsimp only; omega⟩, hE6⟩ (by dsimp only; omega)
