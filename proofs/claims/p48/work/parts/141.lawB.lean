/-! ===== p48: the law: the survey ===== -/
set_option maxHeartbeats 4000000 in
set_option maxRecDepth 100000 in
theorem lg_survey {p : Program} {e : Env} {s : State} {m : MethodId} {args : Array Value} {below : List Frame} {meth : Method} {c : Code} {Q : State → Prop} {z : Nat} (l : Launch) (G : mq_G) (b sn : Nat) (sx : Nat → Int32) (hG : qG G b sn sx) (hA : pA G) (hsn : sn < 1000) (La : Nat → Nat) (x ka ca : Nat) (hB : ldB La x ka ca) (tm stp : Int) (k : vtD) (h : Nat → Bool) (d : Nat → List Nat) (r : vtR) (dr : Int) (M : mq_M) (hD : ldA G M La x b ka ca [] k h d r dr) (C : mq_C p m c cL_law 19 s args wsL_law RL G.1.1 (mq_tys G) z) (cells slots : Nat) (hc : cells ≤ 500000) (hs : slots ≤ 6000000) (kk : ∀ (M2 : mq_M) (met : Nat), lvM (svS h d 16).2.2.1 0 met → ldA G M2 La x b ka ca [] k h d r dr → mq_X p l e { frames := 12, cells := 600130, slots := 7301080, locals := 448 } s m args below meth c Q 19 G.1.1 z s.heap cells slots M2 424 [some (.ref b), some (.int (zI tm)), some (.ref x), some (.ref (La 0)), some (.int (zI stp)), some (.long (dgA k h d r)), none, some (.int (zI (svS h d 16).1)), some (.int (zI (svS h d 16).1)), some (.int (zI (svS h d 16).2.1)), some (.int (zI (met : Int))), none, none, none, none, none, none, none, none] []) : mq_X p l e { frames := 12, cells := 600130, slots := 7301080, locals := 448 } s m args below meth c Q 19 G.1.1 z s.heap cells slots M 276 [some (.ref b), some (.int (zI tm)), some (.ref x), some (.ref (La 0)), some (.int (zI stp)), none, none, none, none, none, none, none, none, none, none, none, none, none, none] [] := by
  have hS := svP_S h d 16
  have hrg := svS_rng h d 16 (by decide)
  refine xr_aload_n C dL_law_276 rfl ?_
  refine xr_callV0l C (c_digest l G La hB.1 [] k h d r _ hD.V) (cwV 0 C.1.2.2.2.2 gL_law_X11_digest rfl rfl rfl (by decide +kernel) ⟨Nat.le_of_ble_eq_true rfl, Nat.le_of_ble_eq_true rfl⟩) hD.V.1 rfl (Nat.le_of_ble_eq_true rfl) ⟨by dsimp only; omega, by dsimp only; omega⟩ dL_law_277 (fun r1 Mr1 hpr1 => ?_)
  obtain ⟨rfl, hVq2, hFq2⟩ := hpr1
  have hEq2 := hD.vault hB hVq2 hFq2
  refine xr_lstore C dL_law_280 (by decide) rfl ?_
  refine xr_aload_n C dL_law_282 rfl ?_
  refine xr_callV0i C (c_leader l G La hB.1 [] k h d r _ hEq2.V) (cwV 0 C.1.2.2.2.2 gL_law_X11_leader rfl rfl rfl (by decide +kernel) ⟨Nat.le_of_ble_eq_true rfl, Nat.le_of_ble_eq_true rfl⟩) hEq2.V.1 rfl (Nat.le_of_ble_eq_true rfl) ⟨by dsimp only; omega, by dsimp only; omega⟩ dL_law_283 (fun r3 Mr3 hpr3 => ?_)
  obtain ⟨rfl, hVq4, hFq4⟩ := hpr3
  have hEq4 := hEq2.vault hB hVq4 hFq4
  refine xr_istore C dL_law_286 (by decide) rfl ?_
  refine xr_iconst (n := (-1)) C dL_law_288 (by decide +kernel) ?_
  refine xr_istore C dL_law_289 (by decide) rfl ?_
  refine xr_iconst (n := 0) C dL_law_291 (by decide +kernel) ?_
  refine xr_istore C dL_law_292 (by decide) rfl ?_
  refine xr_iconst (n := 0) C dL_law_294 (by decide +kernel) ?_
  refine xr_istore C dL_law_295 (by decide) rfl ?_
  refine xr_bipush (n := 15) C dL_law_297 (by decide +kernel) ?_
  refine xr_istore C dL_law_299 (by decide) rfl ?_
  have hp0 : (0 : Int) + svK (svS h d 16).2.2.1 16 = (svS h d 16).2.1 := by
    rw [Int.zero_add]
    exact hS.2.2.1.symm
  refine mq_loop (σ := Nat × Int × Int × Int × Nat × mq_M) (fun y => (y.1 ≤ 16 ∧ y.2.1 = (y.1 : Int) - 1 ∧ lvF h d y.1 y.2.2.1 ∧ (0 ≤ y.2.2.2.1 ∧ y.2.2.2.1 + svK (svS h d 16).2.2.1 y.1 = (svS h d 16).2.1) ∧ lvM (svS h d 16).2.2.1 y.1 y.2.2.2.2.1) ∧ ldA G y.2.2.2.2.2 La x b ka ca [] k h d r dr) (fun y => y.1) (fun y => y.2.2.2.2.2) (fun y => [some (.ref b), some (.int (zI tm)), some (.ref x), some (.ref (La 0)), some (.int (zI stp)), some (.long (dgA k h d r)), none, some (.int (zI (svS h d 16).1)), some (.int (zI y.2.2.1)), some (.int (zI y.2.2.2.1)), some (.int (zI (y.2.2.2.2.1 : Int))), some (.int (zI y.2.1)), none, none, none, none, none, none, none]) (fun y => []) ?_ (16, 15, -1, 0, 0, Mr3) ⟨⟨Nat.le_refl _, rfl, lvF.z, ⟨Int.le_refl _, hp0⟩, lvM.z⟩, hEq4⟩
  rintro ⟨i, v, f, pr, met, M5⟩ ⟨⟨hi, hv, hF, ⟨hp0, hp1⟩, hm⟩, hE⟩ ih
  dsimp only at hi hv hF hp0 hp1 hm hE ih ⊢
  have hsk := svK_rng (svS h d 16).2.2.1 i
  have hpr : pr ≤ 16 := by have := hrg.2.1.2; omega
  refine xr_iload C dL_law_301 rfl ?_
  refine xr_if_lt C dL_law_303 rfl (by omega) (fun hq5 => ?_) (fun hq5 => ?_)
  · obtain rfl : i = 0 := by omega
    have e1 : (svS h d 16).1 = f := hF.fin hS
    have e2 : pr = (svS h d 16).2.1 := by
      have h9 := hp1
      unfold svK at h9
      omega
    refine mq_drop 11 ?_
    rw [← e1, e2]
    exact kk M5 met hm hE
  · obtain ⟨j, rfl⟩ : ∃ j, i = j + 1 := ⟨i - 1, by omega⟩
    obtain rfl : v = (j : Int) := by omega
    have hnr := hrg.2.2.1 j
    have hkj : svK (svS h d 16).2.2.1 (j + 1) = svK (svS h d 16).2.2.1 j + (if 0 ≤ (svS h d 16).2.2.1 j then 1 else 0) := rfl
    refine xr_aload_n C dL_law_306 rfl ?_
    refine xr_iload C dL_law_307 rfl ?_
    refine xr_callV1i C (c_numberOf l G La hB.1 [] k h d r _ hE.V j (by omega)) (cwV 1 C.1.2.2.2.2 gL_law_X11_numberOf rfl rfl rfl (by decide +kernel) ⟨Nat.le_of_ble_eq_true rfl, Nat.le_of_ble_eq_true rfl⟩) hE.V.1 rfl (Nat.le_of_ble_eq_true rfl) ⟨by dsimp only; omega, by dsimp only; omega⟩ dL_law_309 (fun r6 Mr6 hpr6 => ?_)
    obtain ⟨rfl, hVq7, hFq7⟩ := hpr6
    have hEq7 := hE.vault hB hVq7 hFq7
    refine xr_istore C dL_law_312 (by decide) rfl ?_
    refine xr_aload_n C dL_law_314 rfl ?_
    refine xr_iload C dL_law_315 rfl ?_
    refine xr_callV1i C (c_isSound l G La hB.1 [] k h d r _ hEq7.V j (by omega)) (cwV 1 C.1.2.2.2.2 gL_law_X11_isSound rfl rfl rfl (by decide +kernel) ⟨Nat.le_of_ble_eq_true rfl, Nat.le_of_ble_eq_true rfl⟩) hEq7.V.1 rfl (Nat.le_of_ble_eq_true rfl) ⟨by dsimp only; omega, by dsimp only; omega⟩ dL_law_317 (fun r8 Mr8 hpr8 => ?_)
    obtain ⟨rfl, hVq9, hFq9⟩ := hpr8
    have hEq9 := hEq7.vault hB hVq9 hFq9
    rcases Bool.eq_false_or_eq_true (vWhl (h j) (d j)) with hw | hw
    · rw [show mq_b (vWhl (h j) (d j)) = 1 by rw [hw]; rfl]
      refine xr_if_eq C dL_law_320 rfl (by omega) (fun hq => absurd hq (by omega)) (fun _ => ?_)
      refine xr_iload C dL_law_323 rfl ?_
      refine xr_istore C dL_law_325 (by decide) rfl ?_
      refine xr_iload C dL_law_327 rfl ?_
      refine xr_if_ge C dL_law_329 rfl (by omega) (fun hq10 => ?_) (fun hq10 => ?_)
      · have hge : 0 ≤ (svS h d 16).2.2.1 j := by omega
        obtain ⟨-, -, e1, -, l0, hone⟩ := hS.1 j hge
        obtain ⟨hh, hlen, -, hQ, -⟩ := vWhl_nums hw
        obtain ⟨ldn, hld⟩ := Int.eq_ofNat_of_zero_le l0
        obtain ⟨hl16, hlw⟩ := svS_ld h d 16 ldn hld
        obtain ⟨hlh, hllen, -, -, -⟩ := vWhl_nums hlw
        have hone2 : vOne (d j) (d ldn) = true := by
          rw [hld, Int.toNat_natCast] at hone
          exact hone
        have hdup := lv_nodup hS hm hQ e1
        have hm0 := hm.1
        have hdiv : met / 2 ^ mq_gd (d j) 1 ≤ met := Nat.div_le_self _ _
        have hpw : 2 ^ mq_gd (d j) 1 < 2 ^ 16 := Nat.pow_lt_pow_right (by decide) hQ
        have hk1 : svK (svS h d 16).2.2.1 (j + 1) = svK (svS h d 16).2.2.1 j + 1 := by rw [hkj, if_pos hge]
        rw [e1]
        refine xr_aload_n C dL_law_335 rfl ?_
        refine xr_iload C dL_law_336 rfl ?_
        refine xr_callV1i C (c_isSound l G La hB.1 [] k h d r _ hEq9.V j (by omega)) (cwV 1 C.1.2.2.2.2 gL_law_X11_isSound rfl rfl rfl (by decide +kernel) ⟨Nat.le_of_ble_eq_true rfl, Nat.le_of_ble_eq_true rfl⟩) hEq9.V.1 rfl (Nat.le_of_ble_eq_true rfl) ⟨by dsimp only; omega, by dsimp only; omega⟩ dL_law_338 (fun r11 Mr11 hpr11 => ?_)
        obtain ⟨rfl, hVq12, hFq12⟩ := hpr11
        have hEq12 := hEq9.vault hB hVq12 hFq12
        rw [show mq_b (vWhl (h j) (d j)) = 1 by rw [hw]; rfl]
        refine xr_if_eq C dL_law_341 rfl (by omega) (fun hq => absurd hq (by omega)) (fun _ => ?_)
        refine xr_iload C dL_law_344 rfl ?_
        refine xr_aload_n C dL_law_346 rfl ?_
        refine xr_iload C dL_law_347 rfl ?_
        refine xr_iconst (n := 1) C dL_law_349 (by decide +kernel) ?_
        refine xr_callV2i C (c_byteAt l G La hB.1 [] k h d r _ hEq12.V j (by omega) hh 1 (by omega)) (cwV 2 C.1.2.2.2.2 gL_law_X11_byteAt rfl rfl rfl (by decide +kernel) ⟨Nat.le_of_ble_eq_true rfl, Nat.le_of_ble_eq_true rfl⟩) hEq12.V.1 rfl (Nat.le_of_ble_eq_true rfl) ⟨by dsimp only; omega, by dsimp only; omega⟩ dL_law_350 (fun r13 Mr13 hpr13 => ?_)
        obtain ⟨rfl, rfl⟩ := hpr13
        rw [show mq_gd (d j) ((1 : Nat) : Int) = mq_gd (d j) 1 from rfl]
        refine xr_icmp_ne C dL_law_353 rfl (by omega) (by omega) (fun hq => absurd hq (by omega)) (fun _ => ?_)
        refine xr_iload C dL_law_356 rfl ?_
        refine xr_iload C dL_law_358 rfl ?_
        refine xr_ishr (w := ((met / 2 ^ mq_gd (d j) 1 : Nat) : Int)) C dL_law_360 (zI_shrN (by omega) (by omega)) ?_
        refine xr_iconst (n := 1) C dL_law_361 (by decide +kernel) ?_
        refine xr_iand (w := ((met / 2 ^ mq_gd (d j) 1 % 2 : Nat) : Int)) C dL_law_362 (by exact zI_and1 (by omega)) ?_
        refine xr_iconst (n := 1) C dL_law_363 (by decide +kernel) ?_
        refine xr_icmp_ne C dL_law_364 rfl (by omega) (by omega) (fun _ => ?_) (fun hq => absurd hq (by omega))
        refine xr_iload C dL_law_369 rfl ?_
        refine xr_iconst (n := 1) C dL_law_371 (by decide +kernel) ?_
        refine xr_iload C dL_law_372 rfl ?_
        refine xr_ishl (w := ((1 * 2 ^ mq_gd (d j) 1 : Nat) : Int)) C dL_law_374 (by exact zI_shlN (a := 1) (by omega) (by omega)) ?_
        refine xr_ior (w := ((met ||| 1 * 2 ^ mq_gd (d j) 1 : Nat) : Int)) C dL_law_375 (zI_orN (by omega) (by omega)) ?_
        rw [Nat.one_mul]
        refine xr_istore C dL_law_376 (by decide) rfl ?_
        refine xr_iinc C dL_law_378 rfl (by decide) rfl ?_
        refine xr_iconst (n := 2) C dL_law_381 (by decide +kernel) ?_
        refine xr_istore C dL_law_382 (by decide) rfl ?_
        rw [hld]
        refine mq_loop (σ := Nat) (fun y => 2 ≤ y ∧ y ≤ 8) (fun y => 8 - y) (fun y => Mr11) (fun y => [some (.ref b), some (.int (zI tm)), some (.ref x), some (.ref (La 0)), some (.int (zI stp)), some (.long (dgA k h d r)), none, some (.int (zI (ldn : Int))), some (.int (zI (j : Int))), some (.int (zI (pr + 1))), some (.int (zI ((met ||| 2 ^ mq_gd (d j) 1 : Nat) : Int))), some (.int (zI (j : Int))), some (.int (zI (mq_gd (d j) 1 : Int))), some (.int (zI (y : Int))), none, none, none, none, none]) (fun y => []) ?_ 2 ⟨Nat.le_refl _, by decide⟩
        rintro t ⟨ht0, ht1⟩ ih5
        try dsimp only at ht0 ht1 ih5 ⊢
        refine xr_iload C dL_law_384 rfl ?_
        refine xr_bipush (n := 8) C dL_law_386 (by decide +kernel) ?_
        refine xr_icmp_ge C dL_law_388 rfl (by omega) (by omega) (fun hq14 => ?_) (fun hq14 => ?_)
        · rw [← hld]
          refine xr_iinc C dL_law_418 rfl (by decide) rfl ?_
          refine xr_goto C dL_law_421 rfl ?_
          refine mq_drop 12 ?_
          refine mq_drop 13 ?_
          rw [show (j : Int) + -1 = (j : Int) - 1 by omega]
          exact ih (j, (j : Int) - 1, (j : Int), pr + 1, met ||| 2 ^ mq_gd (d j) 1, Mr11) ⟨⟨by dsimp only; omega, rfl, lvF.yes (by omega) hw, ⟨by dsimp only; omega, by dsimp only; omega⟩, hm.yes (by omega) e1 hQ⟩, hEq12⟩ (by dsimp only; omega)
        · have hA1 := (hEq12.V.bt (i := j) (by omega)).1
          have hA2 := (hEq12.V.bt (i := ldn) hl16).1
          have hA3 := vOne_by hone2 hA1 hA2 t ht0 (by omega)
          have hA4 := mq_gd_lt hA1 (t : Int)
          have hA5 := mq_gd_lt hA2 (t : Int)
          refine xr_aload_n C dL_law_391 rfl ?_
          refine xr_iload C dL_law_392 rfl ?_
          refine xr_iload C dL_law_394 rfl ?_
          refine xr_callV2i C (c_byteAt l G La hB.1 [] k h d r _ hEq12.V j (by omega) hh t (by omega)) (cwV 2 C.1.2.2.2.2 gL_law_X11_byteAt rfl rfl rfl (by decide +kernel) ⟨Nat.le_of_ble_eq_true rfl, Nat.le_of_ble_eq_true rfl⟩) hEq12.V.1 rfl (Nat.le_of_ble_eq_true rfl) ⟨by dsimp only; omega, by dsimp only; omega⟩ dL_law_396 (fun r15 Mr15 hpr15 => ?_)
          obtain ⟨rfl, rfl⟩ := hpr15
          refine xr_aload_n C dL_law_399 rfl ?_
          refine xr_iload C dL_law_400 rfl ?_
          refine xr_iload C dL_law_402 rfl ?_
          refine xr_callV2i C (c_byteAt l G La hB.1 [] k h d r _ hEq12.V ldn hl16 hlh t (by omega)) (cwV 2 C.1.2.2.2.2 gL_law_X11_byteAt rfl rfl rfl (by decide +kernel) ⟨Nat.le_of_ble_eq_true rfl, Nat.le_of_ble_eq_true rfl⟩) hEq12.V.1 rfl (Nat.le_of_ble_eq_true rfl) ⟨by dsimp only; omega, by dsimp only; omega⟩ dL_law_404 (fun r16 Mr16 hpr16 => ?_)
          obtain ⟨rfl, rfl⟩ := hpr16
          refine xr_icmp_eq C dL_law_407 rfl (by omega) (by omega) (fun _ => ?_) (fun hq => absurd hq (by omega))
          refine xr_iinc C dL_law_412 rfl (by decide) rfl ?_
          refine xr_goto C dL_law_415 rfl ?_
          rw [show (t : Int) + 1 = ((t + 1 : Nat) : Int) by omega]
          exact ih5 (t + 1) ⟨by omega, by omega⟩ (by omega)
      · have hk0 : svK (svS h d 16).2.2.1 (j + 1) = svK (svS h d 16).2.2.1 j := by rw [hkj, if_neg (by omega)]; omega
        refine xr_goto C dL_law_332 rfl ?_
        refine xr_iinc C dL_law_418 rfl (by decide) rfl ?_
        refine xr_goto C dL_law_421 rfl ?_
        refine mq_drop 12 ?_
        rw [show (j : Int) + -1 = (j : Int) - 1 by omega]
        exact ih (j, (j : Int) - 1, (j : Int), pr, met, Mr8) ⟨⟨by dsimp only; omega, rfl, lvF.yes (by omega) hw, ⟨hp0, by have h9 := hp1; rw [hk0] at h9; exact h9⟩, hm.no (by omega)⟩, hEq9⟩ (by dsimp only; omega)
    · rw [show mq_b (vWhl (h j) (d j)) = 0 by rw [hw]; rfl]
      have hneg : (svS h d 16).2.2.1 j < 0 := by
        by_cases hc9 : 0 ≤ (svS h d 16).2.2.1 j
        · have := (hS.1 j hc9).2.1
          rw [hw] at this
          cases this
        · omega
      have hk0 : svK (svS h d 16).2.2.1 (j + 1) = svK (svS h d 16).2.2.1 j := by rw [hkj, if_neg (by omega)]; omega
      refine xr_if_eq C dL_law_320 rfl (by omega) (fun _ => ?_) (fun hq => absurd hq (by omega))
      refine xr_iload C dL_law_327 rfl ?_
      refine xr_if_ge C dL_law_329 rfl (by omega) (fun hq => absurd hq (by omega)) (fun _ => ?_)
      refine xr_goto C dL_law_332 rfl ?_
      refine xr_iinc C dL_law_418 rfl (by decide) rfl ?_
      refine xr_goto C dL_law_421 rfl ?_
      refine mq_drop 12 ?_
      rw [show (j : Int) + -1 = (j : Int) - 1 by omega]
      exact ih (j, (j : Int) - 1, f, pr, met, Mr8) ⟨⟨by dsimp only; omega, rfl, hF.no hw, ⟨hp0, by have h9 := hp1; rw [hk0] at h9; exact h9⟩, hm.no hneg⟩, hEq9⟩ (by dsimp only; omega)
