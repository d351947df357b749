set_option maxHeartbeats 4000000 in
set_option maxRecDepth 100000 in
theorem lb_1 {p : Program} {e : Env} {s : State} {m : MethodId} {args : Array Value} {below : List Frame} {meth : Method} {c : Code} {Q : State → Prop} {z : Nat} (l : Launch) (hlt : l.stackTraces = false) (G : mq_G) (sb sn : Nat) (sx : Nat → Int32) (hG : pG G sb sn sx) (hA : pA G) (hn : sn = 4) (La : Nat → Nat) (hI : mq_inj La) (Mb : Nat → Nat) (hb : mb_inj Mb) (hLM : ∀ r, r < 275 → ∀ i, mbU i = true → Mb i ≠ La r) (M : mq_M) (hV : vF G M La) (hD : mdI G M Mb 0) (hO : lwO G M (Mb 39) none)
    (C : mq_C p m c cL_law 9 s args wsL_law RL G.1.1 (mq_tys G) z) (cells slots : Nat) (hc : cells ≤ 1000) (hs : slots ≤ 1000000)
    (kk : ∀ (M2 : mq_M) (cells2 slots2 : Nat), cells2 ≤ 2000 → slots2 ≤ 2000000 → mq_X p l e { frames := 12, cells := 600002, slots := 7302232, locals := 436 } s m args below meth c Q 9 G.1.1 z s.heap cells2 slots2 M2 2554 [some (.ref sb), some (.ref (La 0)), some (.ref (Mb 0)), some (.ref (Mb 39)), some (.int (zI 0)), none, none, none, none] []) : mq_X p l e { frames := 12, cells := 600002, slots := 7302232, locals := 436 } s m args below meth c Q 9 G.1.1 z s.heap cells slots M 300 [some (.ref sb), some (.ref (La 0)), some (.ref (Mb 0)), some (.ref (Mb 39)), some (.int (zI 0)), none, none, none, none] [] := by
  subst hn
  obtain ⟨a, ea, har⟩ := zI_of (sx 1)
  by_cases hv : 1 ≤ a ∧ a ≤ 255
  · refine xr_aload_n C dL_law_300 rfl ?_
    refine xr_aload_n C dL_law_301 rfl ?_
    refine xr_iload C dL_law_302 rfl ?_
    refine xr_iconst (n := 1) C dL_law_304 (by decide +kernel) ?_
    refine xr_iadd C dL_law_305 ?_
    refine xr_sldv C (hG.old C).1 (by omega) (by omega) (by omega) (by exact ea) dL_law_306 ?_
    refine xr_aload_n C dL_law_307 rfl ?_
    refine xr_callXH3i C (h_inverse l hlt G sb 4 sx hG hA La hI M hV (Mb 39) (fun r9 hr9 => hLM r9 hr9 39 (by decide)) hO a har) (vx_cwSW 3 C.1.2.2.2.2 gL_law_L_inverse rfl rfl rfl (by decide +kernel) ⟨Nat.le_of_ble_eq_true rfl, Nat.le_of_ble_eq_true rfl⟩) (Nat.le_of_ble_eq_true rfl) ⟨by dsimp only; omega, by dsimp only; omega⟩ dL_law_308 (fun _ _ h9 => h9.elim) (fun k9 M9 hp9 => ?_)
    obtain ⟨hk9, hO9, hF9⟩ := hp9
    rw [if_pos hv] at hk9 hO9
    subst hk9
    obtain ⟨g9, hg9, hv9⟩ := hO9
    have hD9 : mdI G M9 Mb 0 := (hD.frU (fun i9 hi9 h9 => hF9 (Mb i9) (fun h8 => absurd (hb _ _ hi9 (by decide) h8) h9) (fun r9 hr9 => hLM r9 hr9 i9 hi9)))
    refine xr_istore C dL_law_311 (by decide) rfl ?_
    refine xr_aload_n C dL_law_313 rfl ?_
    refine xr_aload_n C dL_law_314 rfl ?_
    refine xr_iload C dL_law_315 rfl ?_
    refine xr_iconst (n := 1) C dL_law_317 (by decide +kernel) ?_
    refine xr_iadd C dL_law_318 ?_
    refine xr_sldv C (hG.old C).1 (by omega) (by omega) (by omega) (by exact ea) dL_law_319 ?_
    refine xr_callV1i C (m_inverse l G Mb hb 0 M9 hD9 a har) (cwV 1 C.1.2.2.2.2 gL_law_X12_inverse rfl rfl rfl (by decide +kernel) ⟨Nat.le_of_ble_eq_true rfl, Nat.le_of_ble_eq_true rfl⟩) hD9.1 rfl (Nat.le_of_ble_eq_true rfl) ⟨by dsimp only; omega, by dsimp only; omega⟩ dL_law_320 (fun r8 M8 hp8 => ?_)
    obtain ⟨hr8, hQ8⟩ := hp8
    rw [if_pos hv] at hr8 hQ8
    obtain ⟨⟨vs8, hT8⟩, h39⟩ := hQ8
    have e8 := hr8 rfl
    subst e8
    refine xr_istore C dL_law_323 (by decide) rfl ?_
    refine xr_aload_n C dL_law_325 rfl ?_
    refine xr_callV0i C (m_thrown l G M8 (Mb 0) 0 vs8 hT8) (cwV 0 C.1.2.2.2.2 gL_law_X12_thrown rfl rfl rfl (by decide +kernel) ⟨Nat.le_of_ble_eq_true rfl, Nat.le_of_ble_eq_true rfl⟩) hT8 rfl (Nat.le_of_ble_eq_true rfl) ⟨by dsimp only; omega, by dsimp only; omega⟩ dL_law_326 (fun t8 M7 hp7 => ?_)
    obtain ⟨rfl, rfl⟩ := hp7
    refine xr_iload C dL_law_329 rfl ?_
    refine xr_icmp_eq C dL_law_331 rfl (by decide) (by decide) (fun _ => ?_) (fun hq => absurd hq (by omega))
    refine xr_iload C dL_law_336 rfl ?_
    refine xr_if_ne C dL_law_338 rfl (by decide) (fun hq => absurd hq (by decide)) (fun _ => ?_)
    refine xr_aload_n C dL_law_341 rfl ?_
    refine xr_iconst (n := 0) C dL_law_342 (by decide +kernel) ?_
    have hg8 : M8 (Mb 39) = some (.inl (gJ G, 1, .inr (.inl g9))) := h39.trans hg9
    refine xr_lald C hg8 hA.J (by decide) (by decide) (by decide) dL_law_343 ?_
    refine xr_iload C dL_law_344 rfl ?_
    refine xr_i2l C dL_law_346 ?_
    refine xr_lcmp (w := 0) C dL_law_347 (by rw [show g9 (0 : Int).toNat = _ from hv9 _ rfl]; exact lg_cmp_rf _) ?_
    refine xr_if_eq C dL_law_348 rfl (by decide) (fun _ => ?_) (fun hq => absurd hq (by decide))
    refine xr_goto C dL_law_353 rfl ?_
    refine mq_drop 5 ?_
    refine mq_drop 6 ?_
    exact kk _ _ _ (by omega) (by omega)
  · refine xr_aload_n C dL_law_300 rfl ?_
    refine xr_aload_n C dL_law_301 rfl ?_
    refine xr_iload C dL_law_302 rfl ?_
    refine xr_iconst (n := 1) C dL_law_304 (by decide +kernel) ?_
    refine xr_iadd C dL_law_305 ?_
    refine xr_sldv C (hG.old C).1 (by omega) (by omega) (by omega) (by exact ea) dL_law_306 ?_
    refine xr_aload_n C dL_law_307 rfl ?_
    refine xr_callXH3i C (h_inverse l hlt G sb 4 sx hG hA La hI M hV (Mb 39) (fun r9 hr9 => hLM r9 hr9 39 (by decide)) hO a har) (vx_cwSW 3 C.1.2.2.2.2 gL_law_L_inverse rfl rfl rfl (by decide +kernel) ⟨Nat.le_of_ble_eq_true rfl, Nat.le_of_ble_eq_true rfl⟩) (Nat.le_of_ble_eq_true rfl) ⟨by dsimp only; omega, by dsimp only; omega⟩ dL_law_308 (fun _ _ h9 => h9.elim) (fun k9 M9 hp9 => ?_)
    obtain ⟨hk9, hO9, hF9⟩ := hp9
    rw [if_neg hv] at hk9 hO9
    subst hk9
    obtain ⟨g9, hg9, hv9⟩ := hO9
    have hD9 : mdI G M9 Mb 0 := (hD.frU (fun i9 hi9 h9 => hF9 (Mb i9) (fun h8 => absurd (hb _ _ hi9 (by decide) h8) h9) (fun r9 hr9 => hLM r9 hr9 i9 hi9)))
    refine xr_istore C dL_law_311 (by decide) rfl ?_
    refine xr_aload_n C dL_law_313 rfl ?_
    refine xr_aload_n C dL_law_314 rfl ?_
    refine xr_iload C dL_law_315 rfl ?_
    refine xr_iconst (n := 1) C dL_law_317 (by decide +kernel) ?_
    refine xr_iadd C dL_law_318 ?_
    refine xr_sldv C (hG.old C).1 (by omega) (by omega) (by omega) (by exact ea) dL_law_319 ?_
    refine xr_callV1i C (m_inverse l G Mb hb 0 M9 hD9 a har) (cwV 1 C.1.2.2.2.2 gL_law_X12_inverse rfl rfl rfl (by decide +kernel) ⟨Nat.le_of_ble_eq_true rfl, Nat.le_of_ble_eq_true rfl⟩) hD9.1 rfl (Nat.le_of_ble_eq_true rfl) ⟨by dsimp only; omega, by dsimp only; omega⟩ dL_law_320 (fun r8 M8 hp8 => ?_)
    obtain ⟨hr8, hQ8⟩ := hp8
    rw [if_neg hv] at hr8 hQ8
    obtain ⟨⟨vs8, hT8⟩, h39⟩ := hQ8
    refine xr_istore C dL_law_323 (by decide) rfl ?_
    refine xr_aload_n C dL_law_325 rfl ?_
    refine xr_callV0i C (m_thrown l G M8 (Mb 0) 1 vs8 hT8) (cwV 0 C.1.2.2.2.2 gL_law_X12_thrown rfl rfl rfl (by decide +kernel) ⟨Nat.le_of_ble_eq_true rfl, Nat.le_of_ble_eq_true rfl⟩) hT8 rfl (Nat.le_of_ble_eq_true rfl) ⟨by dsimp only; omega, by dsimp only; omega⟩ dL_law_326 (fun t8 M7 hp7 => ?_)
    obtain ⟨rfl, rfl⟩ := hp7
    refine xr_iload C dL_law_329 rfl ?_
    refine xr_icmp_eq C dL_law_331 rfl (by decide) (by decide) (fun _ => ?_) (fun hq => absurd hq (by omega))
    refine xr_iload C dL_law_336 rfl ?_
    refine xr_if_ne C dL_law_338 rfl (by decide) (fun _ => ?_) (fun hq => absurd hq (by decide))
    refine xr_goto C dL_law_353 rfl ?_
    refine mq_drop 5 ?_
    refine mq_drop 6 ?_
    exact kk _ _ _ (by omega) (by omega)
set_option maxHeartbeats 4000000 in
set_option maxRecDepth 100000 in
theorem lb_2 {p : Program} {e : Env} {s : State} {m : MethodId} {args : Array Value} {below : List Frame} {meth : Method} {c : Code} {Q : State → Prop} {z : Nat} (l : Launch) (hlt : l.stackTraces = false) (G : mq_G) (sb sn : Nat) (sx : Nat → Int32) (hG : pG G sb sn sx) (hA : pA G) (hn : sn = 4) (La : Nat → Nat) (hI : mq_inj La) (Mb : Nat → Nat) (hb : mb_inj Mb) (hLM : ∀ r, r < 275 → ∀ i, mbU i = true → Mb i ≠ La r) (M : mq_M) (hV : vF G M La) (hD : mdI G M Mb 0) (hO : lwO G M (Mb 39) none)
    (C : mq_C p m c cL_law 9 s args wsL_law RL G.1.1 (mq_tys G) z) (cells slots : Nat) (hc : cells ≤ 1000) (hs : slots ≤ 1000000)
    (kk : ∀ (M2 : mq_M) (cells2 slots2 : Nat), cells2 ≤ 2000 → slots2 ≤ 2000000 → mq_X p l e { frames := 12, cells := 600002, slots := 7302232, locals := 436 } s m args below meth c Q 9 G.1.1 z s.heap cells2 slots2 M2 2554 [some (.ref sb), some (.ref (La 0)), some (.ref (Mb 0)), some (.ref (Mb 39)), some (.int (zI 0)), none, none, none, none] []) : mq_X p l e { frames := 12, cells := 600002, slots := 7302232, locals := 436 } s m args below meth c Q 9 G.1.1 z s.heap cells slots M 356 [some (.ref sb), some (.ref (La 0)), some (.ref (Mb 0)), some (.ref (Mb 39)), some (.int (zI 0)), none, none, none, none] [] := by
  subst hn
  obtain ⟨a, ea, har⟩ := zI_of (sx 1)
  obtain ⟨n, en, hnr⟩ := zI_of (sx 2)
  by_cases hv : (0 ≤ a ∧ a ≤ 255) ∧ (0 ≤ n ∧ n ≤ 1000)
  · refine xr_aload_n C dL_law_356 rfl ?_
    refine xr_aload_n C dL_law_357 rfl ?_
    refine xr_iload C dL_law_358 rfl ?_
    refine xr_iconst (n := 1) C dL_law_360 (by decide +kernel) ?_
    refine xr_iadd C dL_law_361 ?_
    refine xr_sldv C (hG.old C).1 (by omega) (by omega) (by omega) (by exact ea) dL_law_362 ?_
    refine xr_aload_n C dL_law_363 rfl ?_
    refine xr_iload C dL_law_364 rfl ?_
    refine xr_iconst (n := 2) C dL_law_366 (by decide +kernel) ?_
    refine xr_iadd C dL_law_367 ?_
    refine xr_sldv C (hG.old C).1 (by omega) (by omega) (by omega) (by exact en) dL_law_368 ?_
    refine xr_aload_n C dL_law_369 rfl ?_
    refine xr_callXH4i C (h_power l hlt G sb 4 sx hG hA La hI M hV (Mb 39) (fun r9 hr9 => hLM r9 hr9 39 (by decide)) hO a har n hnr) (vx_cwSW 4 C.1.2.2.2.2 gL_law_L_power rfl rfl rfl (by decide +kernel) ⟨Nat.le_of_ble_eq_true rfl, Nat.le_of_ble_eq_true rfl⟩) (Nat.le_of_ble_eq_true rfl) ⟨by dsimp only; omega, by dsimp only; omega⟩ dL_law_370 (fun _ _ h9 => h9.elim) (fun k9 M9 hp9 => ?_)
    obtain ⟨hk9, hO9, hF9⟩ := hp9
    rw [if_pos hv] at hk9 hO9
    subst hk9
    obtain ⟨g9, hg9, hv9⟩ := hO9
    have hD9 : mdI G M9 Mb 0 := (hD.frU (fun i9 hi9 h9 => hF9 (Mb i9) (fun h8 => absurd (hb _ _ hi9 (by decide) h8) h9) (fun r9 hr9 => hLM r9 hr9 i9 hi9)))
    refine xr_istore C dL_law_373 (by decide) rfl ?_
    refine xr_aload_n C dL_law_375 rfl ?_
    refine xr_aload_n C dL_law_376 rfl ?_
    refine xr_iload C dL_law_377 rfl ?_
    refine xr_iconst (n := 1) C dL_law_379 (by decide +kernel) ?_
    refine xr_iadd C dL_law_380 ?_
    refine xr_sldv C (hG.old C).1 (by omega) (by omega) (by omega) (by exact ea) dL_law_381 ?_
    refine xr_aload_n C dL_law_382 rfl ?_
    refine xr_iload C dL_law_383 rfl ?_
    refine xr_iconst (n := 2) C dL_law_385 (by decide +kernel) ?_
    refine xr_iadd C dL_law_386 ?_
    refine xr_sldv C (hG.old C).1 (by omega) (by omega) (by omega) (by exact en) dL_law_387 ?_
    refine xr_callV2i C (m_power l G Mb hb 0 M9 hD9 a har n hnr) (cwV 2 C.1.2.2.2.2 gL_law_X12_power rfl rfl rfl (by decide +kernel) ⟨Nat.le_of_ble_eq_true rfl, Nat.le_of_ble_eq_true rfl⟩) hD9.1 rfl (Nat.le_of_ble_eq_true rfl) ⟨by dsimp only; omega, by dsimp only; omega⟩ dL_law_388 (fun r8 M8 hp8 => ?_)
    obtain ⟨hr8, hQ8⟩ := hp8
    rw [if_pos hv] at hr8 hQ8
    obtain ⟨⟨vs8, hT8⟩, h39⟩ := hQ8
    have e8 := hr8 rfl
    subst e8
    refine xr_istore C dL_law_391 (by decide) rfl ?_
    refine xr_aload_n C dL_law_393 rfl ?_
    refine xr_callV0i C (m_thrown l G M8 (Mb 0) 0 vs8 hT8) (cwV 0 C.1.2.2.2.2 gL_law_X12_thrown rfl rfl rfl (by decide +kernel) ⟨Nat.le_of_ble_eq_true rfl, Nat.le_of_ble_eq_true rfl⟩) hT8 rfl (Nat.le_of_ble_eq_true rfl) ⟨by dsimp only; omega, by dsimp only; omega⟩ dL_law_394 (fun t8 M7 hp7 => ?_)
    obtain ⟨rfl, rfl⟩ := hp7
    refine xr_iload C dL_law_397 rfl ?_
    refine xr_icmp_eq C dL_law_399 rfl (by decide) (by decide) (fun _ => ?_) (fun hq => absurd hq (by omega))
    refine xr_iload C dL_law_404 rfl ?_
    refine xr_if_ne C dL_law_406 rfl (by decide) (fun hq => absurd hq (by decide)) (fun _ => ?_)
    refine xr_aload_n C dL_law_409 rfl ?_
    refine xr_iconst (n := 0) C dL_law_410 (by decide +kernel) ?_
    have hg8 : M8 (Mb 39) = some (.inl (gJ G, 1, .inr (.inl g9))) := h39.trans hg9
    refine xr_lald C hg8 hA.J (by decide) (by decide) (by decide) dL_law_411 ?_
    refine xr_iload C dL_law_412 rfl ?_
    refine xr_i2l C dL_law_414 ?_
    refine xr_lcmp (w := 0) C dL_law_415 (by rw [show g9 (0 : Int).toNat = _ from hv9 _ rfl]; exact lg_cmp_rf _) ?_
    refine xr_if_eq C dL_law_416 rfl (by decide) (fun _ => ?_) (fun hq => absurd hq (by decide))
    refine xr_goto C dL_law_421 rfl ?_
    refine mq_drop 5 ?_
    refine mq_drop 6 ?_
    exact kk _ _ _ (by omega) (by omega)
  · refine xr_aload_n C dL_law_356 rfl ?_
    refine xr_aload_n C dL_law_357 rfl ?_
    refine xr_iload C dL_law_358 rfl ?_
    refine xr_iconst (n := 1) C dL_law_360 (by decide +kernel) ?_
    refine xr_iadd C dL_law_361 ?_
    refine xr_sldv C (hG.old C).1 (by omega) (by omega) (by omega) (by exact ea) dL_law_362 ?_
    refine xr_aload_n C dL_law_363 rfl ?_
    refine xr_iload C dL_law_364 rfl ?_
    refine xr_iconst (n := 2) C dL_law_366 (by decide +kernel) ?_
    refine xr_iadd C dL_law_367 ?_
    refine xr_sldv C (hG.old C).1 (by omega) (by omega) (by omega) (by exact en) dL_law_368 ?_
    refine xr_aload_n C dL_law_369 rfl ?_
    refine xr_callXH4i C (h_power l hlt G sb 4 sx hG hA La hI M hV (Mb 39) (fun r9 hr9 => hLM r9 hr9 39 (by decide)) hO a har n hnr) (vx_cwSW 4 C.1.2.2.2.2 gL_law_L_power rfl rfl rfl (by decide +kernel) ⟨Nat.le_of_ble_eq_true rfl, Nat.le_of_ble_eq_true rfl⟩) (Nat.le_of_ble_eq_true rfl) ⟨by dsimp only; omega, by dsimp only; omega⟩ dL_law_370 (fun _ _ h9 => h9.elim) (fun k9 M9 hp9 => ?_)
    obtain ⟨hk9, hO9, hF9⟩ := hp9
    rw [if_neg hv] at hk9 hO9
    subst hk9
    obtain ⟨g9, hg9, hv9⟩ := hO9
    have hD9 : mdI G M9 Mb 0 := (hD.frU (fun i9 hi9 h9 => hF9 (Mb i9) (fun h8 => absurd (hb _ _ hi9 (by decide) h8) h9) (fun r9 hr9 => hLM r9 hr9 i9 hi9)))
    refine xr_istore C dL_law_373 (by decide) rfl ?_
    refine xr_aload_n C dL_law_375 rfl ?_
    refine xr_aload_n C dL_law_376 rfl ?_
    refine xr_iload C dL_law_377 rfl ?_
    refine xr_iconst (n := 1) C dL_law_379 (by decide +kernel) ?_
    refine xr_iadd C dL_law_380 ?_
    refine xr_sldv C (hG.old C).1 (by omega) (by omega) (by omega) (by exact ea) dL_law_381 ?_
    refine xr_aload_n C dL_law_382 rfl ?_
    refine xr_iload C dL_law_383 rfl ?_
    refine xr_iconst (n := 2) C dL_law_385 (by decide +kernel) ?_
    refine xr_iadd C dL_law_386 ?_
    refine xr_sldv C (hG.old C).1 (by omega) (by omega) (by omega) (by exact en) dL_law_387 ?_
    refine xr_callV2i C (m_power l G Mb hb 0 M9 hD9 a har n hnr) (cwV 2 C.1.2.2.2.2 gL_law_X12_power rfl rfl rfl (by decide +kernel) ⟨Nat.le_of_ble_eq_true rfl, Nat.le_of_ble_eq_true rfl⟩) hD9.1 rfl (Nat.le_of_ble_eq_true rfl) ⟨by dsimp only; omega, by dsimp only; omega⟩ dL_law_388 (fun r8 M8 hp8 => ?_)
    obtain ⟨hr8, hQ8⟩ := hp8
    rw [if_neg hv] at hr8 hQ8
    obtain ⟨⟨vs8, hT8⟩, h39⟩ := hQ8
    refine xr_istore C dL_law_391 (by decide) rfl ?_
    refine xr_aload_n C dL_law_393 rfl ?_
    refine xr_callV0i C (m_thrown l G M8 (Mb 0) 1 vs8 hT8) (cwV 0 C.1.2.2.2.2 gL_law_X12_thrown rfl rfl rfl (by decide +kernel) ⟨Nat.le_of_ble_eq_true rfl, Nat.le_of_ble_eq_true rfl⟩) hT8 rfl (Nat.le_of_ble_eq_true rfl) ⟨by dsimp only; omega, by dsimp only; omega⟩ dL_law_394 (fun t8 M7 hp7 => ?_)
    obtain ⟨rfl, rfl⟩ := hp7
    refine xr_iload C dL_law_397 rfl ?_
    refine xr_icmp_eq C dL_law_399 rfl (by decide) (by decide) (fun _ => ?_) (fun hq => absurd hq (by omega))
    refine xr_iload C dL_law_404 rfl ?_
    refine xr_if_ne C dL_law_406 rfl (by decide) (fun _ => ?_) (fun hq => absurd hq (by decide))
    refine xr_goto C dL_law_421 rfl ?_
    refine mq_drop 5 ?_
    refine mq_drop 6 ?_
    exact kk _ _ _ (by omega) (by omega)
set_option maxHeartbeats 4000000 in
set_option maxRecDepth 100000 in
theorem lb_3 {p : Program} {e : Env} {s : State} {m : MethodId} {args : Array Value} {below : List Frame} {meth : Method} {c : Code} {Q : State → Prop} {z : Nat} (l : Launch) (hlt : l.stackTraces = false) (G : mq_G) (sb sn : Nat) (sx : Nat → Int32) (hG : pG G sb sn sx) (hA : pA G) (hn : sn = 4) (La : Nat → Nat) (hI : mq_inj La) (Mb : Nat → Nat) (hb : mb_inj Mb) (hLM : ∀ r, r < 275 → ∀ i, mbU i = true → Mb i ≠ La r) (M : mq_M) (hV : vF G M La) (hD : mdI G M Mb 0) (hO : lwO G M (Mb 39) none)
    (C : mq_C p m c cL_law 9 s args wsL_law RL G.1.1 (mq_tys G) z) (cells slots : Nat) (hc : cells ≤ 1000) (hs : slots ≤ 1000000)
    (kk : ∀ (M2 : mq_M) (cells2 slots2 : Nat), cells2 ≤ 2000 → slots2 ≤ 2000000 → mq_X p l e { frames := 12, cells := 600002, slots := 7302232, locals := 436 } s m args below meth c Q 9 G.1.1 z s.heap cells2 slots2 M2 2554 [some (.ref sb), some (.ref (La 0)), some (.ref (Mb 0)), some (.ref (Mb 39)), some (.int (zI 0)), none, none, none, none] []) : mq_X p l e { frames := 12, cells := 600002, slots := 7302232, locals := 436 } s m args below meth c Q 9 G.1.1 z s.heap cells slots M 424 [some (.ref sb), some (.ref (La 0)), some (.ref (Mb 0)), some (.ref (Mb 39)), some (.int (zI 0)), none, none, none, none] [] := by
  subst hn
  obtain ⟨j, ej, hjr⟩ := zI_of (sx 1)
  obtain ⟨x, ex, hxr⟩ := zI_of (sx 2)
  by_cases hv : (0 ≤ j ∧ j ≤ 5) ∧ (0 ≤ x ∧ x ≤ 9)
  · refine xr_aload_n C dL_law_424 rfl ?_
    refine xr_aload_n C dL_law_425 rfl ?_
    refine xr_iload C dL_law_426 rfl ?_
    refine xr_iconst (n := 1) C dL_law_428 (by decide +kernel) ?_
    refine xr_iadd C dL_law_429 ?_
    refine xr_sldv C (hG.old C).1 (by omega) (by omega) (by omega) (by exact ej) dL_law_430 ?_
    refine xr_aload_n C dL_law_431 rfl ?_
    refine xr_iload C dL_law_432 rfl ?_
    refine xr_iconst (n := 2) C dL_law_434 (by decide +kernel) ?_
    refine xr_iadd C dL_law_435 ?_
    refine xr_sldv C (hG.old C).1 (by omega) (by omega) (by omega) (by exact ex) dL_law_436 ?_
    refine xr_aload_n C dL_law_437 rfl ?_
    refine xr_callXH4i C (h_coefficient l hlt G sb 4 sx hG hA La hI M hV (Mb 39) (fun r9 hr9 => hLM r9 hr9 39 (by decide)) hO j hjr x hxr) (vx_cwSW 4 C.1.2.2.2.2 gL_law_L_coefficient rfl rfl rfl (by decide +kernel) ⟨Nat.le_of_ble_eq_true rfl, Nat.le_of_ble_eq_true rfl⟩) (Nat.le_of_ble_eq_true rfl) ⟨by dsimp only; omega, by dsimp only; omega⟩ dL_law_438 (fun _ _ h9 => h9.elim) (fun k9 M9 hp9 => ?_)
    obtain ⟨hk9, hO9, hF9⟩ := hp9
    rw [if_pos hv] at hk9 hO9
    subst hk9
    obtain ⟨g9, hg9, hv9⟩ := hO9
    have hD9 : mdI G M9 Mb 0 := (hD.frU (fun i9 hi9 h9 => hF9 (Mb i9) (fun h8 => absurd (hb _ _ hi9 (by decide) h8) h9) (fun r9 hr9 => hLM r9 hr9 i9 hi9)))
    refine xr_istore C dL_law_441 (by decide) rfl ?_
    refine xr_aload_n C dL_law_443 rfl ?_
    refine xr_aload_n C dL_law_444 rfl ?_
    refine xr_iload C dL_law_445 rfl ?_
    refine xr_iconst (n := 1) C dL_law_447 (by decide +kernel) ?_
    refine xr_iadd C dL_law_448 ?_
    refine xr_sldv C (hG.old C).1 (by omega) (by omega) (by omega) (by exact ej) dL_law_449 ?_
    refine xr_aload_n C dL_law_450 rfl ?_
    refine xr_iload C dL_law_451 rfl ?_
    refine xr_iconst (n := 2) C dL_law_453 (by decide +kernel) ?_
    refine xr_iadd C dL_law_454 ?_
    refine xr_sldv C (hG.old C).1 (by omega) (by omega) (by omega) (by exact ex) dL_law_455 ?_
    refine xr_callV2i C (m_coefficient l G Mb hb 0 M9 hD9 j hjr x hxr) (cwV 2 C.1.2.2.2.2 gL_law_X12_coefficient rfl rfl rfl (by decide +kernel) ⟨Nat.le_of_ble_eq_true rfl, Nat.le_of_ble_eq_true rfl⟩) hD9.1 rfl (Nat.le_of_ble_eq_true rfl) ⟨by dsimp only; omega, by dsimp only; omega⟩ dL_law_456 (fun r8 M8 hp8 => ?_)
    obtain ⟨hr8, hQ8⟩ := hp8
    rw [if_pos hv] at hr8 hQ8
    obtain ⟨⟨vs8, hT8⟩, h39⟩ := hQ8
    have e8 := hr8 rfl
    subst e8
    refine xr_istore C dL_law_459 (by decide) rfl ?_
    refine xr_aload_n C dL_law_461 rfl ?_
    refine xr_callV0i C (m_thrown l G M8 (Mb 0) 0 vs8 hT8) (cwV 0 C.1.2.2.2.2 gL_law_X12_thrown rfl rfl rfl (by decide +kernel) ⟨Nat.le_of_ble_eq_true rfl, Nat.le_of_ble_eq_true rfl⟩) hT8 rfl (Nat.le_of_ble_eq_true rfl) ⟨by dsimp only; omega, by dsimp only; omega⟩ dL_law_462 (fun t8 M7 hp7 => ?_)
    obtain ⟨rfl, rfl⟩ := hp7
    refine xr_iload C dL_law_465 rfl ?_
    refine xr_icmp_eq C dL_law_467 rfl (by decide) (by decide) (fun _ => ?_) (fun hq => absurd hq (by omega))
    refine xr_iload C dL_law_472 rfl ?_
    refine xr_if_ne C dL_law_474 rfl (by decide) (fun hq => absurd hq (by decide)) (fun _ => ?_)
    refine xr_aload_n C dL_law_477 rfl ?_
    refine xr_iconst (n := 0) C dL_law_478 (by decide +kernel) ?_
    have hg8 : M8 (Mb 39) = some (.inl (gJ G, 1, .inr (.inl g9))) := h39.trans hg9
    refine xr_lald C hg8 hA.J (by decide) (by decide) (by decide) dL_law_479 ?_
    refine xr_iload C dL_law_480 rfl ?_
    refine xr_i2l C dL_law_482 ?_
    refine xr_lcmp (w := 0) C dL_law_483 (by rw [show g9 (0 : Int).toNat = _ from hv9 _ rfl]; exact lg_cmp_rf _) ?_
    refine xr_if_eq C dL_law_484 rfl (by decide) (fun _ => ?_) (fun hq => absurd hq (by decide))
    refine xr_goto C dL_law_489 rfl ?_
    refine mq_drop 5 ?_
    refine mq_drop 6 ?_
    exact kk _ _ _ (by omega) (by omega)
  · refine xr_aload_n C dL_law_424 rfl ?_
    refine xr_aload_n C dL_law_425 rfl ?_
    refine xr_iload C dL_law_426 rfl ?_
    refine xr_iconst (n := 1) C dL_law_428 (by decide +kernel) ?_
    refine xr_iadd C dL_law_429 ?_
    refine xr_sldv C (hG.old C).1 (by omega) (by omega) (by omega) (by exact ej) dL_law_430 ?_
    refine xr_aload_n C dL_law_431 rfl ?_
    refine xr_iload C dL_law_432 rfl ?_
    refine xr_iconst (n := 2) C dL_law_434 (by decide +kernel) ?_
    refine xr_iadd C dL_law_435 ?_
    refine xr_sldv C (hG.old C).1 (by omega) (by omega) (by omega) (by exact ex) dL_law_436 ?_
    refine xr_aload_n C dL_law_437 rfl ?_
    refine xr_callXH4i C (h_coefficient l hlt G sb 4 sx hG hA La hI M hV (Mb 39) (fun r9 hr9 => hLM r9 hr9 39 (by decide)) hO j hjr x hxr) (vx_cwSW 4 C.1.2.2.2.2 gL_law_L_coefficient rfl rfl rfl (by decide +kernel) ⟨Nat.le_of_ble_eq_true rfl, Nat.le_of_ble_eq_true rfl⟩) (Nat.le_of_ble_eq_true rfl) ⟨by dsimp only; omega, by dsimp only; omega⟩ dL_law_438 (fun _ _ h9 => h9.elim) (fun k9 M9 hp9 => ?_)
    obtain ⟨hk9, hO9, hF9⟩ := hp9
    rw [if_neg hv] at hk9 hO9
    subst hk9
    obtain ⟨g9, hg9, hv9⟩ := hO9
    have hD9 : mdI G M9 Mb 0 := (hD.frU (fun i9 hi9 h9 => hF9 (Mb i9) (fun h8 => absurd (hb _ _ hi9 (by decide) h8) h9) (fun r9 hr9 => hLM r9 hr9 i9 hi9)))
    refine xr_istore C dL_law_441 (by decide) rfl ?_
    refine xr_aload_n C dL_law_443 rfl ?_
    refine xr_aload_n C dL_law_444 rfl ?_
    refine xr_iload C dL_law_445 rfl ?_
    refine xr_iconst (n := 1) C dL_law_447 (by decide +kernel) ?_
    refine xr_iadd C dL_law_448 ?_
    refine xr_sldv C (hG.old C).1 (by omega) (by omega) (by omega) (by exact ej) dL_law_449 ?_
    refine xr_aload_n C dL_law_450 rfl ?_
    refine xr_iload C dL_law_451 rfl ?_
    refine xr_iconst (n := 2) C dL_law_453 (by decide +kernel) ?_
    refine xr_iadd C dL_law_454 ?_
    refine xr_sldv C (hG.old C).1 (by omega) (by omega) (by omega) (by exact ex) dL_law_455 ?_
    refine xr_callV2i C (m_coefficient l G Mb hb 0 M9 hD9 j hjr x hxr) (cwV 2 C.1.2.2.2.2 gL_law_X12_coefficient rfl rfl rfl (by decide +kernel) ⟨Nat.le_of_ble_eq_true rfl, Nat.le_of_ble_eq_true rfl⟩) hD9.1 rfl (Nat.le_of_ble_eq_true rfl) ⟨by dsimp only; omega, by dsimp only; omega⟩ dL_law_456 (fun r8 M8 hp8 => ?_)
    obtain ⟨hr8, hQ8⟩ := hp8
    rw [if_neg hv] at hr8 hQ8
    obtain ⟨⟨vs8, hT8⟩, h39⟩ := hQ8
    refine xr_istore C dL_law_459 (by decide) rfl ?_
    refine xr_aload_n C dL_law_461 rfl ?_
    refine xr_callV0i C (m_thrown l G M8 (Mb 0) 1 vs8 hT8) (cwV 0 C.1.2.2.2.2 gL_law_X12_thrown rfl rfl rfl (by decide +kernel) ⟨Nat.le_of_ble_eq_true rfl, Nat.le_of_ble_eq_true rfl⟩) hT8 rfl (Nat.le_of_ble_eq_true rfl) ⟨by dsimp only; omega, by dsimp only; omega⟩ dL_law_462 (fun t8 M7 hp7 => ?_)
    obtain ⟨rfl, rfl⟩ := hp7
    refine xr_iload C dL_law_465 rfl ?_
    refine xr_icmp_eq C dL_law_467 rfl (by decide) (by decide) (fun _ => ?_) (fun hq => absurd hq (by omega))
    refine xr_iload C dL_law_472 rfl ?_
    refine xr_if_ne C dL_law_474 rfl (by decide) (fun _ => ?_) (fun hq => absurd hq (by decide))
    refine xr_goto C dL_law_489 rfl ?_
    refine mq_drop 5 ?_
    refine mq_drop 6 ?_
    exact kk _ _ _ (by omega) (by omega)
set_option maxHeartbeats 4000000 in
set_option maxRecDepth 100000 in
theorem lb_4 {p : Program} {e : Env} {s : State} {m : MethodId} {args : Array Value} {below : List Frame} {meth : Method} {c : Code} {Q : State → Prop} {z : Nat} (l : Launch) (hlt : l.stackTraces = false) (G : mq_G) (sb sn : Nat) (sx : Nat → Int32) (hG : pG G sb sn sx) (hA : pA G) (hn : sn = 4) (La : Nat → Nat) (hI : mq_inj La) (Mb : Nat → Nat) (hb : mb_inj Mb) (hLM : ∀ r, r < 275 → ∀ i, mbU i = true → Mb i ≠ La r) (M : mq_M) (hV : vF G M La) (hD : mdI G M Mb 0) (hO : lwO G M (Mb 39) none)
    (C : mq_C p m c cL_law 9 s args wsL_law RL G.1.1 (mq_tys G) z) (cells slots : Nat) (hc : cells ≤ 1000) (hs : slots ≤ 1000000)
    (kk : ∀ (M2 : mq_M) (cells2 slots2 : Nat), cells2 ≤ 2000 → slots2 ≤ 2000000 → mq_X p l e { frames := 12, cells := 600002, slots := 7302232, locals := 436 } s m args below meth c Q 9 G.1.1 z s.heap cells2 slots2 M2 2554 [some (.ref sb), some (.ref (La 0)), some (.ref (Mb 0)), some (.ref (Mb 39)), some (.int (zI 0)), none, none, none, none] []) : mq_X p l e { frames := 12, cells := 600002, slots := 7302232, locals := 436 } s m args below meth c Q 9 G.1.1 z s.heap cells slots M 492 [some (.ref sb), some (.ref (La 0)), some (.ref (Mb 0)), some (.ref (Mb 39)), some (.int (zI 0)), none, none, none, none] [] := by
  subst hn
  obtain ⟨v, ev, hvr⟩ := zI_of (sx 1)
  obtain ⟨t, et, htr⟩ := zI_of (sx 2)
  by_cases hv : (0 ≤ v ∧ v ≤ 255) ∧ (1 ≤ t ∧ t ≤ 200)
  · refine xr_aload_n C dL_law_492 rfl ?_
    refine xr_aload_n C dL_law_493 rfl ?_
    refine xr_iload C dL_law_494 rfl ?_
    refine xr_iconst (n := 1) C dL_law_496 (by decide +kernel) ?_
    refine xr_iadd C dL_law_497 ?_
    refine xr_sldv C (hG.old C).1 (by omega) (by omega) (by omega) (by exact ev) dL_law_498 ?_
    refine xr_aload_n C dL_law_499 rfl ?_
    refine xr_iload C dL_law_500 rfl ?_
    refine xr_iconst (n := 2) C dL_law_502 (by decide +kernel) ?_
    refine xr_iadd C dL_law_503 ?_
    refine xr_sldv C (hG.old C).1 (by omega) (by omega) (by omega) (by exact et) dL_law_504 ?_
    refine xr_aload_n C dL_law_505 rfl ?_
    refine xr_callXH4i C (h_write l hlt G sb 4 sx hG hA La hI M hV (Mb 39) (fun r9 hr9 => hLM r9 hr9 39 (by decide)) hO v hvr t htr) (vx_cwSW 4 C.1.2.2.2.2 gL_law_L_write rfl rfl rfl (by decide +kernel) ⟨Nat.le_of_ble_eq_true rfl, Nat.le_of_ble_eq_true rfl⟩) (Nat.le_of_ble_eq_true rfl) ⟨by dsimp only; omega, by dsimp only; omega⟩ dL_law_506 (fun _ _ h9 => h9.elim) (fun k9 M9 hp9 => ?_)
    obtain ⟨hk9, hO9, hF9⟩ := hp9
    rw [if_pos hv] at hk9 hO9
    subst hk9
    obtain ⟨g9, hg9, hv9⟩ := hO9
    have hD9 : mdI G M9 Mb 0 := (hD.frU (fun i9 hi9 h9 => hF9 (Mb i9) (fun h8 => absurd (hb _ _ hi9 (by decide) h8) h9) (fun r9 hr9 => hLM r9 hr9 i9 hi9)))
    refine xr_istore C dL_law_509 (by decide) rfl ?_
    refine xr_aload_n C dL_law_511 rfl ?_
    refine xr_aload_n C dL_law_512 rfl ?_
    refine xr_iload C dL_law_513 rfl ?_
    refine xr_iconst (n := 1) C dL_law_515 (by decide +kernel) ?_
    refine xr_iadd C dL_law_516 ?_
    refine xr_sldv C (hG.old C).1 (by omega) (by omega) (by omega) (by exact ev) dL_law_517 ?_
    refine xr_aload_n C dL_law_518 rfl ?_
    refine xr_iload C dL_law_519 rfl ?_
    refine xr_iconst (n := 2) C dL_law_521 (by decide +kernel) ?_
    refine xr_iadd C dL_law_522 ?_
    refine xr_sldv C (hG.old C).1 (by omega) (by omega) (by omega) (by exact et) dL_law_523 ?_
    refine xr_callV2i C (m_write l G Mb hb 0 M9 hD9 v hvr t htr) (cwV 2 C.1.2.2.2.2 gL_law_X12_write rfl rfl rfl (by decide +kernel) ⟨Nat.le_of_ble_eq_true rfl, Nat.le_of_ble_eq_true rfl⟩) hD9.1 rfl (Nat.le_of_ble_eq_true rfl) ⟨by dsimp only; omega, by dsimp only; omega⟩ dL_law_524 (fun r8 M8 hp8 => ?_)
    obtain ⟨hr8, hQ8⟩ := hp8
    rw [if_pos hv] at hr8 hQ8
    obtain ⟨⟨vs8, hT8⟩, h39⟩ := hQ8
    have e8 := hr8 rfl
    subst e8
    refine xr_istore C dL_law_527 (by decide) rfl ?_
    refine xr_aload_n C dL_law_529 rfl ?_
    refine xr_callV0i C (m_thrown l G M8 (Mb 0) 0 vs8 hT8) (cwV 0 C.1.2.2.2.2 gL_law_X12_thrown rfl rfl rfl (by decide +kernel) ⟨Nat.le_of_ble_eq_true rfl, Nat.le_of_ble_eq_true rfl⟩) hT8 rfl (Nat.le_of_ble_eq_true rfl) ⟨by dsimp only; omega, by dsimp only; omega⟩ dL_law_530 (fun t8 M7 hp7 => ?_)
    obtain ⟨rfl, rfl⟩ := hp7
    refine xr_iload C dL_law_533 rfl ?_
    refine xr_icmp_eq C dL_law_535 rfl (by decide) (by decide) (fun _ => ?_) (fun hq => absurd hq (by omega))
    refine xr_iload C dL_law_540 rfl ?_
    refine xr_if_ne C dL_law_542 rfl (by decide) (fun hq => absurd hq (by decide)) (fun _ => ?_)
    refine xr_aload_n C dL_law_545 rfl ?_
    refine xr_iconst (n := 0) C dL_law_546 (by decide +kernel) ?_
    have hg8 : M8 (Mb 39) = some (.inl (gJ G, 1, .inr (.inl g9))) := h39.trans hg9
    refine xr_lald C hg8 hA.J (by decide) (by decide) (by decide) dL_law_547 ?_
    refine xr_iload C dL_law_548 rfl ?_
    refine xr_i2l C dL_law_550 ?_
    refine xr_lcmp (w := 0) C dL_law_551 (by rw [show g9 (0 : Int).toNat = _ from hv9 _ rfl]; exact lg_cmp_rf _) ?_
    refine xr_if_eq C dL_law_552 rfl (by decide) (fun _ => ?_) (fun hq => absurd hq (by decide))
    refine xr_goto C dL_law_557 rfl ?_
    refine mq_drop 5 ?_
    refine mq_drop 6 ?_
    exact kk _ _ _ (by omega) (by omega)
  · refine xr_aload_n C dL_law_492 rfl ?_
    refine xr_aload_n C dL_law_493 rfl ?_
    refine xr_iload C dL_law_494 rfl ?_
    refine xr_iconst (n := 1) C dL_law_496 (by decide +kernel) ?_
    refine xr_iadd C dL_law_497 ?_
    refine xr_sldv C (hG.old C).1 (by omega) (by omega) (by omega) (by exact ev) dL_law_498 ?_
    refine xr_aload_n C dL_law_499 rfl ?_
    refine xr_iload C dL_law_500 rfl ?_
    refine xr_iconst (n := 2) C dL_law_502 (by decide +kernel) ?_
    refine xr_iadd C dL_law_503 ?_
    refine xr_sldv C (hG.old C).1 (by omega) (by omega) (by omega) (by exact et) dL_law_504 ?_
    refine xr_aload_n C dL_law_505 rfl ?_
    refine xr_callXH4i C (h_write l hlt G sb 4 sx hG hA La hI M hV (Mb 39) (fun r9 hr9 => hLM r9 hr9 39 (by decide)) hO v hvr t htr) (vx_cwSW 4 C.1.2.2.2.2 gL_law_L_write rfl rfl rfl (by decide +kernel) ⟨Nat.le_of_ble_eq_true rfl, Nat.le_of_ble_eq_true rfl⟩) (Nat.le_of_ble_eq_true rfl) ⟨by dsimp only; omega, by dsimp only; omega⟩ dL_law_506 (fun _ _ h9 => h9.elim) (fun k9 M9 hp9 => ?_)
    obtain ⟨hk9, hO9, hF9⟩ := hp9
    rw [if_neg hv] at hk9 hO9
    subst hk9
    obtain ⟨g9, hg9, hv9⟩ := hO9
    have hD9 : mdI G M9 Mb 0 := (hD.frU (fun i9 hi9 h9 => hF9 (Mb i9) (fun h8 => absurd (hb _ _ hi9 (by decide) h8) h9) (fun r9 hr9 => hLM r9 hr9 i9 hi9)))
    refine xr_istore C dL_law_509 (by decide) rfl ?_
    refine xr_aload_n C dL_law_511 rfl ?_
    refine xr_aload_n C dL_law_512 rfl ?_
    refine xr_iload C dL_law_513 rfl ?_
    refine xr_iconst (n := 1) C dL_law_515 (by decide +kernel) ?_
    refine xr_iadd C dL_law_516 ?_
    refine xr_sldv C (hG.old C).1 (by omega) (by omega) (by omega) (by exact ev) dL_law_517 ?_
    refine xr_aload_n C dL_law_518 rfl ?_
    refine xr_iload C dL_law_519 rfl ?_
    refine xr_iconst (n := 2) C dL_law_521 (by decide +kernel) ?_
    refine xr_iadd C dL_law_522 ?_
    refine xr_sldv C (hG.old C).1 (by omega) (by omega) (by omega) (by exact et) dL_law_523 ?_
    refine xr_callV2i C (m_write l G Mb hb 0 M9 hD9 v hvr t htr) (cwV 2 C.1.2.2.2.2 gL_law_X12_write rfl rfl rfl (by decide +kernel) ⟨Nat.le_of_ble_eq_true rfl, Nat.le_of_ble_eq_true rfl⟩) hD9.1 rfl (Nat.le_of_ble_eq_true rfl) ⟨by dsimp only; omega, by dsimp only; omega⟩ dL_law_524 (fun r8 M8 hp8 => ?_)
    obtain ⟨hr8, hQ8⟩ := hp8
    rw [if_neg hv] at hr8 hQ8
    obtain ⟨⟨vs8, hT8⟩, h39⟩ := hQ8
    refine xr_istore C dL_law_527 (by decide) rfl ?_
    refine xr_aload_n C dL_law_529 rfl ?_
    refine xr_callV0i C (m_thrown l G M8 (Mb 0) 1 vs8 hT8) (cwV 0 C.1.2.2.2.2 gL_law_X12_thrown rfl rfl rfl (by decide +kernel) ⟨Nat.le_of_ble_eq_true rfl, Nat.le_of_ble_eq_true rfl⟩) hT8 rfl (Nat.le_of_ble_eq_true rfl) ⟨by dsimp only; omega, by dsimp only; omega⟩ dL_law_530 (fun t8 M7 hp7 => ?_)
    obtain ⟨rfl, rfl⟩ := hp7
    refine xr_iload C dL_law_533 rfl ?_
    refine xr_icmp_eq C dL_law_535 rfl (by decide) (by decide) (fun _ => ?_) (fun hq => absurd hq (by omega))
    refine xr_iload C dL_law_540 rfl ?_
    refine xr_if_ne C dL_law_542 rfl (by decide) (fun _ => ?_) (fun hq => absurd hq (by decide))
    refine xr_goto C dL_law_557 rfl ?_
    refine mq_drop 5 ?_
    refine mq_drop 6 ?_
    exact kk _ _ _ (by omega) (by omega)
set_option maxHeartbeats 4000000 in
set_option maxRecDepth 100000 in
theorem lb_5 {p : Program} {e : Env} {s : State} {m : MethodId} {args : Array Value} {below : List Frame} {meth : Method} {c : Code} {Q : State → Prop} {z : Nat} (l : Launch) (hlt : l.stackTraces = false) (G : mq_G) (sb sn : Nat) (sx : Nat → Int32) (hG : pG G sb sn sx) (hA : pA G) (hn : sn = 4) (La : Nat → Nat) (hI : mq_inj La) (Mb : Nat → Nat) (hb : mb_inj Mb) (hLM : ∀ r, r < 275 → ∀ i, mbU i = true → Mb i ≠ La r) (M : mq_M) (hV : vF G M La) (hD : mdI G M Mb 0) (hO : lwO G M (Mb 39) none)
    (C : mq_C p m c cL_law 9 s args wsL_law RL G.1.1 (mq_tys G) z) (cells slots : Nat) (hc : cells ≤ 1000) (hs : slots ≤ 1000000)
    (kk : ∀ (M2 : mq_M) (cells2 slots2 : Nat), cells2 ≤ 2000 → slots2 ≤ 2000000 → mq_X p l e { frames := 12, cells := 600002, slots := 7302232, locals := 436 } s m args below meth c Q 9 G.1.1 z s.heap cells2 slots2 M2 2554 [some (.ref sb), some (.ref (La 0)), some (.ref (Mb 0)), some (.ref (Mb 39)), some (.int (zI 0)), none, none, none, none] []) : mq_X p l e { frames := 12, cells := 600002, slots := 7302232, locals := 436 } s m args below meth c Q 9 G.1.1 z s.heap cells slots M 560 [some (.ref sb), some (.ref (La 0)), some (.ref (Mb 0)), some (.ref (Mb 39)), some (.int (zI 0)), none, none, none, none] [] := by
  subst hn
  obtain ⟨v, ev, hvr⟩ := zI_of (sx 1)
  obtain ⟨t, et, htr⟩ := zI_of (sx 2)
  by_cases hv : (0 ≤ v ∧ v ≤ 65535) ∧ (1 ≤ t ∧ t ≤ 240)
  · refine xr_aload_n C dL_law_560 rfl ?_
    refine xr_aload_n C dL_law_561 rfl ?_
    refine xr_iload C dL_law_562 rfl ?_
    refine xr_iconst (n := 1) C dL_law_564 (by decide +kernel) ?_
    refine xr_iadd C dL_law_565 ?_
    refine xr_sldv C (hG.old C).1 (by omega) (by omega) (by omega) (by exact ev) dL_law_566 ?_
    refine xr_aload_n C dL_law_567 rfl ?_
    refine xr_iload C dL_law_568 rfl ?_
    refine xr_iconst (n := 2) C dL_law_570 (by decide +kernel) ?_
    refine xr_iadd C dL_law_571 ?_
    refine xr_sldv C (hG.old C).1 (by omega) (by omega) (by omega) (by exact et) dL_law_572 ?_
    refine xr_aload_n C dL_law_573 rfl ?_
    refine xr_callXH4i C (h_noise l hlt G sb 4 sx hG hA La hI M hV (Mb 39) (fun r9 hr9 => hLM r9 hr9 39 (by decide)) hO v hvr t htr) (vx_cwSW 4 C.1.2.2.2.2 gL_law_L_noise rfl rfl rfl (by decide +kernel) ⟨Nat.le_of_ble_eq_true rfl, Nat.le_of_ble_eq_true rfl⟩) (Nat.le_of_ble_eq_true rfl) ⟨by dsimp only; omega, by dsimp only; omega⟩ dL_law_574 (fun _ _ h9 => h9.elim) (fun k9 M9 hp9 => ?_)
    obtain ⟨hk9, hO9, hF9⟩ := hp9
    rw [if_pos hv] at hk9 hO9
    subst hk9
    obtain ⟨g9, hg9, hv9⟩ := hO9
    have hD9 : mdI G M9 Mb 0 := (hD.frU (fun i9 hi9 h9 => hF9 (Mb i9) (fun h8 => absurd (hb _ _ hi9 (by decide) h8) h9) (fun r9 hr9 => hLM r9 hr9 i9 hi9)))
    refine xr_istore C dL_law_577 (by decide) rfl ?_
    refine xr_aload_n C dL_law_579 rfl ?_
    refine xr_aload_n C dL_law_580 rfl ?_
    refine xr_iload C dL_law_581 rfl ?_
    refine xr_iconst (n := 1) C dL_law_583 (by decide +kernel) ?_
    refine xr_iadd C dL_law_584 ?_
    refine xr_sldv C (hG.old C).1 (by omega) (by omega) (by omega) (by exact ev) dL_law_585 ?_
    refine xr_aload_n C dL_law_586 rfl ?_
    refine xr_iload C dL_law_587 rfl ?_
    refine xr_iconst (n := 2) C dL_law_589 (by decide +kernel) ?_
    refine xr_iadd C dL_law_590 ?_
    refine xr_sldv C (hG.old C).1 (by omega) (by omega) (by omega) (by exact et) dL_law_591 ?_
    refine xr_callV2i C (m_noise l G Mb hb 0 M9 hD9 v hvr t htr) (cwV 2 C.1.2.2.2.2 gL_law_X12_noise rfl rfl rfl (by decide +kernel) ⟨Nat.le_of_ble_eq_true rfl, Nat.le_of_ble_eq_true rfl⟩) hD9.1 rfl (Nat.le_of_ble_eq_true rfl) ⟨by dsimp only; omega, by dsimp only; omega⟩ dL_law_592 (fun r8 M8 hp8 => ?_)
    obtain ⟨hr8, hQ8⟩ := hp8
    rw [if_pos hv] at hr8 hQ8
    obtain ⟨⟨vs8, hT8⟩, h39⟩ := hQ8
    have e8 := hr8 rfl
    subst e8
    refine xr_istore C dL_law_595 (by decide) rfl ?_
    refine xr_aload_n C dL_law_597 rfl ?_
    refine xr_callV0i C (m_thrown l G M8 (Mb 0) 0 vs8 hT8) (cwV 0 C.1.2.2.2.2 gL_law_X12_thrown rfl rfl rfl (by decide +kernel) ⟨Nat.le_of_ble_eq_true rfl, Nat.le_of_ble_eq_true rfl⟩) hT8 rfl (Nat.le_of_ble_eq_true rfl) ⟨by dsimp only; omega, by dsimp only; omega⟩ dL_law_598 (fun t8 M7 hp7 => ?_)
    obtain ⟨rfl, rfl⟩ := hp7
    refine xr_iload C dL_law_601 rfl ?_
    refine xr_icmp_eq C dL_law_603 rfl (by decide) (by decide) (fun _ => ?_) (fun hq => absurd hq (by omega))
    refine xr_iload C dL_law_608 rfl ?_
    refine xr_if_ne C dL_law_610 rfl (by decide) (fun hq => absurd hq (by decide)) (fun _ => ?_)
    refine xr_aload_n C dL_law_613 rfl ?_
    refine xr_iconst (n := 0) C dL_law_614 (by decide +kernel) ?_
    have hg8 : M8 (Mb 39) = some (.inl (gJ G, 1, .inr (.inl g9))) := h39.trans hg9
    refine xr_lald C hg8 hA.J (by decide) (by decide) (by decide) dL_law_615 ?_
    refine xr_iload C dL_law_616 rfl ?_
    refine xr_i2l C dL_law_618 ?_
    refine xr_lcmp (w := 0) C dL_law_619 (by rw [show g9 (0 : Int).toNat = _ from hv9 _ rfl]; exact lg_cmp_rf _) ?_
    refine xr_if_eq C dL_law_620 rfl (by decide) (fun _ => ?_) (fun hq => absurd hq (by decide))
    refine xr_goto C dL_law_625 rfl ?_
    refine mq_drop 5 ?_
    refine mq_drop 6 ?_
    exact kk _ _ _ (by omega) (by omega)
  · refine xr_aload_n C dL_law_560 rfl ?_
    refine xr_aload_n C dL_law_561 rfl ?_
    refine xr_iload C dL_law_562 rfl ?_
    refine xr_iconst (n := 1) C dL_law_564 (by decide +kernel) ?_
    refine xr_iadd C dL_law_565 ?_
    refine xr_sldv C (hG.old C).1 (by omega) (by omega) (by omega) (by exact ev) dL_law_566 ?_
    refine xr_aload_n C dL_law_567 rfl ?_
    refine xr_iload C dL_law_568 rfl ?_
    refine xr_iconst (n := 2) C dL_law_570 (by decide +kernel) ?_
    refine xr_iadd C dL_law_571 ?_
    refine xr_sldv C (hG.old C).1 (by omega) (by omega) (by omega) (by exact et) dL_law_572 ?_
    refine xr_aload_n C dL_law_573 rfl ?_
    refine xr_callXH4i C (h_noise l hlt G sb 4 sx hG hA La hI M hV (Mb 39) (fun r9 hr9 => hLM r9 hr9 39 (by decide)) hO v hvr t htr) (vx_cwSW 4 C.1.2.2.2.2 gL_law_L_noise rfl rfl rfl (by decide +kernel) ⟨Nat.le_of_ble_eq_true rfl, Nat.le_of_ble_eq_true rfl⟩) (Nat.le_of_ble_eq_true rfl) ⟨by dsimp only; omega, by dsimp only; omega⟩ dL_law_574 (fun _ _ h9 => h9.elim) (fun k9 M9 hp9 => ?_)
    obtain ⟨hk9, hO9, hF9⟩ := hp9
    rw [if_neg hv] at hk9 hO9
    subst hk9
    obtain ⟨g9, hg9, hv9⟩ := hO9
    have hD9 : mdI G M9 Mb 0 := (hD.frU (fun i9 hi9 h9 => hF9 (Mb i9) (fun h8 => absurd (hb _ _ hi9 (by decide) h8) h9) (fun r9 hr9 => hLM r9 hr9 i9 hi9)))
    refine xr_istore C dL_law_577 (by decide) rfl ?_
    refine xr_aload_n C dL_law_579 rfl ?_
    refine xr_aload_n C dL_law_580 rfl ?_
    refine xr_iload C dL_law_581 rfl ?_
    refine xr_iconst (n := 1) C dL_law_583 (by decide +kernel) ?_
    refine xr_iadd C dL_law_584 ?_
    refine xr_sldv C (hG.old C).1 (by omega) (by omega) (by omega) (by exact ev) dL_law_585 ?_
    refine xr_aload_n C dL_law_586 rfl ?_
    refine xr_iload C dL_law_587 rfl ?_
    refine xr_iconst (n := 2) C dL_law_589 (by decide +kernel) ?_
    refine xr_iadd C dL_law_590 ?_
    refine xr_sldv C (hG.old C).1 (by omega) (by omega) (by omega) (by exact et) dL_law_591 ?_
    refine xr_callV2i C (m_noise l G Mb hb 0 M9 hD9 v hvr t htr) (cwV 2 C.1.2.2.2.2 gL_law_X12_noise rfl rfl rfl (by decide +kernel) ⟨Nat.le_of_ble_eq_true rfl, Nat.le_of_ble_eq_true rfl⟩) hD9.1 rfl (Nat.le_of_ble_eq_true rfl) ⟨by dsimp only; omega, by dsimp only; omega⟩ dL_law_592 (fun r8 M8 hp8 => ?_)
    obtain ⟨hr8, hQ8⟩ := hp8
    rw [if_neg hv] at hr8 hQ8
    obtain ⟨⟨vs8, hT8⟩, h39⟩ := hQ8
    refine xr_istore C dL_law_595 (by decide) rfl ?_
    refine xr_aload_n C dL_law_597 rfl ?_
    refine xr_callV0i C (m_thrown l G M8 (Mb 0) 1 vs8 hT8) (cwV 0 C.1.2.2.2.2 gL_law_X12_thrown rfl rfl rfl (by decide +kernel) ⟨Nat.le_of_ble_eq_true rfl, Nat.le_of_ble_eq_true rfl⟩) hT8 rfl (Nat.le_of_ble_eq_true rfl) ⟨by dsimp only; omega, by dsimp only; omega⟩ dL_law_598 (fun t8 M7 hp7 => ?_)
    obtain ⟨rfl, rfl⟩ := hp7
    refine xr_iload C dL_law_601 rfl ?_
    refine xr_icmp_eq C dL_law_603 rfl (by decide) (by decide) (fun _ => ?_) (fun hq => absurd hq (by omega))
    refine xr_iload C dL_law_608 rfl ?_
    refine xr_if_ne C dL_law_610 rfl (by decide) (fun _ => ?_) (fun hq => absurd hq (by decide))
    refine xr_goto C dL_law_625 rfl ?_
    refine mq_drop 5 ?_
    refine mq_drop 6 ?_
    exact kk _ _ _ (by omega) (by omega)
set_option maxHeartbeats 4000000 in
set_option maxRecDepth 100000 in
theorem lb_6 {p : Program} {e : Env} {s : State} {m : MethodId} {args : Array Value} {below : List Frame} {meth : Method} {c : Code} {Q : State → Prop} {z : Nat} (l : Launch) (hlt : l.stackTraces = false) (G : mq_G) (sb sn : Nat) (sx : Nat → Int32) (hG : pG G sb sn sx) (hA : pA G) (hn : sn = 4) (La : Nat → Nat) (hI : mq_inj La) (Mb : Nat → Nat) (hb : mb_inj Mb) (hLM : ∀ r, r < 275 → ∀ i, mbU i = true → Mb i ≠ La r) (M : mq_M) (hV : vF G M La) (hD : mdI G M Mb 0) (hO : lwO G M (Mb 39) none)
    (C : mq_C p m c cL_law 9 s args wsL_law RL G.1.1 (mq_tys G) z) (cells slots : Nat) (hc : cells ≤ 1000) (hs : slots ≤ 1000000)
    (kk : ∀ (M2 : mq_M) (cells2 slots2 : Nat), cells2 ≤ 2000 → slots2 ≤ 2000000 → mq_X p l e { frames := 12, cells := 600002, slots := 7302232, locals := 436 } s m args below meth c Q 9 G.1.1 z s.heap cells2 slots2 M2 2554 [some (.ref sb), some (.ref (La 0)), some (.ref (Mb 0)), some (.ref (Mb 39)), some (.int (zI 0)), none, none, none, none] []) : mq_X p l e { frames := 12, cells := 600002, slots := 7302232, locals := 436 } s m args below meth c Q 9 G.1.1 z s.heap cells slots M 628 [some (.ref sb), some (.ref (La 0)), some (.ref (Mb 0)), some (.ref (Mb 39)), some (.int (zI 0)), none, none, none, none] [] := by
  subst hn
  obtain ⟨n, en, hnr⟩ := zI_of (sx 1)
  by_cases hv : n = 0
  · refine xr_aload_n C dL_law_628 rfl ?_
    refine xr_aload_n C dL_law_629 rfl ?_
    refine xr_iload C dL_law_630 rfl ?_
    refine xr_iconst (n := 1) C dL_law_632 (by decide +kernel) ?_
    refine xr_iadd C dL_law_633 ?_
    refine xr_sldv C (hG.old C).1 (by omega) (by omega) (by omega) (by exact en) dL_law_634 ?_
    refine xr_aload_n C dL_law_635 rfl ?_
    refine xr_callXH3i C (h_cutSheet l hlt G sb 4 sx hG hA La hI M hV (Mb 39) (fun r9 hr9 => hLM r9 hr9 39 (by decide)) hO n hnr) (vx_cwSW 3 C.1.2.2.2.2 gL_law_L_cutSheet rfl rfl rfl (by decide +kernel) ⟨Nat.le_of_ble_eq_true rfl, Nat.le_of_ble_eq_true rfl⟩) (Nat.le_of_ble_eq_true rfl) ⟨by dsimp only; omega, by dsimp only; omega⟩ dL_law_636 (fun _ _ h9 => h9.elim) (fun k9 M9 hp9 => ?_)
    obtain ⟨hk9, hO9, hF9⟩ := hp9
    rw [if_pos hv] at hk9 hO9
    subst hk9
    obtain ⟨g9, hg9, hv9⟩ := hO9
    have hD9 : mdI G M9 Mb 0 := (hD.frU (fun i9 hi9 h9 => hF9 (Mb i9) (fun h8 => absurd (hb _ _ hi9 (by decide) h8) h9) (fun r9 hr9 => hLM r9 hr9 i9 hi9)))
    refine xr_istore C dL_law_639 (by decide) rfl ?_
    refine xr_aload_n C dL_law_641 rfl ?_
    refine xr_aload_n C dL_law_642 rfl ?_
    refine xr_iload C dL_law_643 rfl ?_
    refine xr_iconst (n := 1) C dL_law_645 (by decide +kernel) ?_
    refine xr_iadd C dL_law_646 ?_
    refine xr_sldv C (hG.old C).1 (by omega) (by omega) (by omega) (by exact en) dL_law_647 ?_
    refine xr_callV1i C (m_cutSheet l G Mb hb 0 M9 hD9 n hnr) (cwV 1 C.1.2.2.2.2 gL_law_X12_cutSheet rfl rfl rfl (by decide +kernel) ⟨Nat.le_of_ble_eq_true rfl, Nat.le_of_ble_eq_true rfl⟩) hD9.1 rfl (Nat.le_of_ble_eq_true rfl) ⟨by dsimp only; omega, by dsimp only; omega⟩ dL_law_648 (fun r8 M8 hp8 => ?_)
    obtain ⟨hr8, hQ8⟩ := hp8
    rw [if_pos hv] at hr8 hQ8
    obtain ⟨⟨vs8, hT8⟩, h39⟩ := hQ8
    have e8 := hr8 rfl
    subst e8
    refine xr_istore C dL_law_651 (by decide) rfl ?_
    refine xr_aload_n C dL_law_653 rfl ?_
    refine xr_callV0i C (m_thrown l G M8 (Mb 0) 0 vs8 hT8) (cwV 0 C.1.2.2.2.2 gL_law_X12_thrown rfl rfl rfl (by decide +kernel) ⟨Nat.le_of_ble_eq_true rfl, Nat.le_of_ble_eq_true rfl⟩) hT8 rfl (Nat.le_of_ble_eq_true rfl) ⟨by dsimp only; omega, by dsimp only; omega⟩ dL_law_654 (fun t8 M7 hp7 => ?_)
    obtain ⟨rfl, rfl⟩ := hp7
    refine xr_iload C dL_law_657 rfl ?_
    refine xr_icmp_eq C dL_law_659 rfl (by decide) (by decide) (fun _ => ?_) (fun hq => absurd hq (by omega))
    refine xr_iload C dL_law_664 rfl ?_
    refine xr_if_ne C dL_law_666 rfl (by decide) (fun hq => absurd hq (by decide)) (fun _ => ?_)
    refine xr_aload_n C dL_law_669 rfl ?_
    refine xr_iconst (n := 0) C dL_law_670 (by decide +kernel) ?_
    have hg8 : M8 (Mb 39) = some (.inl (gJ G, 1, .inr (.inl g9))) := h39.trans hg9
    refine xr_lald C hg8 hA.J (by decide) (by decide) (by decide) dL_law_671 ?_
    refine xr_iload C dL_law_672 rfl ?_
    refine xr_i2l C dL_law_674 ?_
    refine xr_lcmp (w := 0) C dL_law_675 (by rw [show g9 (0 : Int).toNat = _ from hv9 _ rfl]; exact lg_cmp_rf _) ?_
    refine xr_if_eq C dL_law_676 rfl (by decide) (fun _ => ?_) (fun hq => absurd hq (by decide))
    refine xr_goto C dL_law_681 rfl ?_
    refine mq_drop 5 ?_
    refine mq_drop 6 ?_
    exact kk _ _ _ (by omega) (by omega)
  · refine xr_aload_n C dL_law_628 rfl ?_
    refine xr_aload_n C dL_law_629 rfl ?_
    refine xr_iload C dL_law_630 rfl ?_
    refine xr_iconst (n := 1) C dL_law_632 (by decide +kernel) ?_
    refine xr_iadd C dL_law_633 ?_
    refine xr_sldv C (hG.old C).1 (by omega) (by omega) (by omega) (by exact en) dL_law_634 ?_
    refine xr_aload_n C dL_law_635 rfl ?_
    refine xr_callXH3i C (h_cutSheet l hlt G sb 4 sx hG hA La hI M hV (Mb 39) (fun r9 hr9 => hLM r9 hr9 39 (by decide)) hO n hnr) (vx_cwSW 3 C.1.2.2.2.2 gL_law_L_cutSheet rfl rfl rfl (by decide +kernel) ⟨Nat.le_of_ble_eq_true rfl, Nat.le_of_ble_eq_true rfl⟩) (Nat.le_of_ble_eq_true rfl) ⟨by dsimp only; omega, by dsimp only; omega⟩ dL_law_636 (fun _ _ h9 => h9.elim) (fun k9 M9 hp9 => ?_)
    obtain ⟨hk9, hO9, hF9⟩ := hp9
    rw [if_neg hv] at hk9 hO9
    subst hk9
    obtain ⟨g9, hg9, hv9⟩ := hO9
    have hD9 : mdI G M9 Mb 0 := (hD.frU (fun i9 hi9 h9 => hF9 (Mb i9) (fun h8 => absurd (hb _ _ hi9 (by decide) h8) h9) (fun r9 hr9 => hLM r9 hr9 i9 hi9)))
    refine xr_istore C dL_law_639 (by decide) rfl ?_
    refine xr_aload_n C dL_law_641 rfl ?_
    refine xr_aload_n C dL_law_642 rfl ?_
    refine xr_iload C dL_law_643 rfl ?_
    refine xr_iconst (n := 1) C dL_law_645 (by decide +kernel) ?_
    refine xr_iadd C dL_law_646 ?_
    refine xr_sldv C (hG.old C).1 (by omega) (by omega) (by omega) (by exact en) dL_law_647 ?_
    refine xr_callV1i C (m_cutSheet l G Mb hb 0 M9 hD9 n hnr) (cwV 1 C.1.2.2.2.2 gL_law_X12_cutSheet rfl rfl rfl (by decide +kernel) ⟨Nat.le_of_ble_eq_true rfl, Nat.le_of_ble_eq_true rfl⟩) hD9.1 rfl (Nat.le_of_ble_eq_true rfl) ⟨by dsimp only; omega, by dsimp only; omega⟩ dL_law_648 (fun r8 M8 hp8 => ?_)
    obtain ⟨hr8, hQ8⟩ := hp8
    rw [if_neg hv] at hr8 hQ8
    obtain ⟨⟨vs8, hT8⟩, h39⟩ := hQ8
    refine xr_istore C dL_law_651 (by decide) rfl ?_
    refine xr_aload_n C dL_law_653 rfl ?_
    refine xr_callV0i C (m_thrown l G M8 (Mb 0) 1 vs8 hT8) (cwV 0 C.1.2.2.2.2 gL_law_X12_thrown rfl rfl rfl (by decide +kernel) ⟨Nat.le_of_ble_eq_true rfl, Nat.le_of_ble_eq_true rfl⟩) hT8 rfl (Nat.le_of_ble_eq_true rfl) ⟨by dsimp only; omega, by dsimp only; omega⟩ dL_law_654 (fun t8 M7 hp7 => ?_)
    obtain ⟨rfl, rfl⟩ := hp7
    refine xr_iload C dL_law_657 rfl ?_
    refine xr_icmp_eq C dL_law_659 rfl (by decide) (by decide) (fun _ => ?_) (fun hq => absurd hq (by omega))
    refine xr_iload C dL_law_664 rfl ?_
    refine xr_if_ne C dL_law_666 rfl (by decide) (fun _ => ?_) (fun hq => absurd hq (by decide))
    refine xr_goto C dL_law_681 rfl ?_
    refine mq_drop 5 ?_
    refine mq_drop 6 ?_
    exact kk _ _ _ (by omega) (by omega)
set_option maxHeartbeats 4000000 in
set_option maxRecDepth 100000 in
theorem lb_7 {p : Program} {e : Env} {s : State} {m : MethodId} {args : Array Value} {below : List Frame} {meth : Method} {c : Code} {Q : State → Prop} {z : Nat} (l : Launch) (hlt : l.stackTraces = false) (G : mq_G) (sb sn : Nat) (sx : Nat → Int32) (hG : pG G sb sn sx) (hA : pA G) (hn : sn = 4) (La : Nat → Nat) (hI : mq_inj La) (Mb : Nat → Nat) (hb : mb_inj Mb) (hLM : ∀ r, r < 275 → ∀ i, mbU i = true → Mb i ≠ La r) (M : mq_M) (hV : vF G M La) (hD : mdI G M Mb 0) (hO : lwO G M (Mb 39) none)
    (C : mq_C p m c cL_law 9 s args wsL_law RL G.1.1 (mq_tys G) z) (cells slots : Nat) (hc : cells ≤ 1000) (hs : slots ≤ 1000000)
    (kk : ∀ (M2 : mq_M) (cells2 slots2 : Nat), cells2 ≤ 2000 → slots2 ≤ 2000000 → mq_X p l e { frames := 12, cells := 600002, slots := 7302232, locals := 436 } s m args below meth c Q 9 G.1.1 z s.heap cells2 slots2 M2 2554 [some (.ref sb), some (.ref (La 0)), some (.ref (Mb 0)), some (.ref (Mb 39)), some (.int (zI 0)), none, none, none, none] []) : mq_X p l e { frames := 12, cells := 600002, slots := 7302232, locals := 436 } s m args below meth c Q 9 G.1.1 z s.heap cells slots M 684 [some (.ref sb), some (.ref (La 0)), some (.ref (Mb 0)), some (.ref (Mb 39)), some (.int (zI 0)), none, none, none, none] [] := by
  subst hn
  obtain ⟨v, ev, hvr⟩ := zI_of (sx 1)
  by_cases hv : 0 ≤ v ∧ v ≤ 65535
  · refine xr_aload_n C dL_law_684 rfl ?_
    refine xr_aload_n C dL_law_685 rfl ?_
    refine xr_iload C dL_law_686 rfl ?_
    refine xr_iconst (n := 1) C dL_law_688 (by decide +kernel) ?_
    refine xr_iadd C dL_law_689 ?_
    refine xr_sldv C (hG.old C).1 (by omega) (by omega) (by omega) (by exact ev) dL_law_690 ?_
    refine xr_aload_n C dL_law_691 rfl ?_
    refine xr_callXH3i C (h_store l hlt G sb 4 sx hG hA La hI M hV (Mb 39) (fun r9 hr9 => hLM r9 hr9 39 (by decide)) hO v hvr) (vx_cwSW 3 C.1.2.2.2.2 gL_law_L_store rfl rfl rfl (by decide +kernel) ⟨Nat.le_of_ble_eq_true rfl, Nat.le_of_ble_eq_true rfl⟩) (Nat.le_of_ble_eq_true rfl) ⟨by dsimp only; omega, by dsimp only; omega⟩ dL_law_692 (fun _ _ h9 => h9.elim) (fun k9 M9 hp9 => ?_)
    obtain ⟨hk9, hO9, hF9⟩ := hp9
    rw [if_pos hv] at hk9 hO9
    subst hk9
    obtain ⟨g9, hg9, hv9⟩ := hO9
    have hD9 : mdI G M9 Mb 0 := (hD.frU (fun i9 hi9 h9 => hF9 (Mb i9) (fun h8 => absurd (hb _ _ hi9 (by decide) h8) h9) (fun r9 hr9 => hLM r9 hr9 i9 hi9)))
    refine xr_istore C dL_law_695 (by decide) rfl ?_
    refine xr_aload_n C dL_law_697 rfl ?_
    refine xr_aload_n C dL_law_698 rfl ?_
    refine xr_iload C dL_law_699 rfl ?_
    refine xr_iconst (n := 1) C dL_law_701 (by decide +kernel) ?_
    refine xr_iadd C dL_law_702 ?_
    refine xr_sldv C (hG.old C).1 (by omega) (by omega) (by omega) (by exact ev) dL_law_703 ?_
    refine xr_callV1i C (m_store l G hA Mb hb 0 M9 hD9 v hvr) (cwV 1 C.1.2.2.2.2 gL_law_X12_store rfl rfl rfl (by decide +kernel) ⟨Nat.le_of_ble_eq_true rfl, Nat.le_of_ble_eq_true rfl⟩) hD9.1 rfl (Nat.le_of_ble_eq_true rfl) ⟨by dsimp only; omega, by dsimp only; omega⟩ dL_law_704 (fun r8 M8 hp8 => ?_)
    obtain ⟨hr8, hQ8⟩ := hp8
    rw [if_pos hv] at hr8 hQ8
    obtain ⟨⟨vs8, hT8⟩, h39⟩ := hQ8
    have e8 := hr8 rfl
    subst e8
    refine xr_istore C dL_law_707 (by decide) rfl ?_
    refine xr_aload_n C dL_law_709 rfl ?_
    refine xr_callV0i C (m_thrown l G M8 (Mb 0) 0 vs8 hT8) (cwV 0 C.1.2.2.2.2 gL_law_X12_thrown rfl rfl rfl (by decide +kernel) ⟨Nat.le_of_ble_eq_true rfl, Nat.le_of_ble_eq_true rfl⟩) hT8 rfl (Nat.le_of_ble_eq_true rfl) ⟨by dsimp only; omega, by dsimp only; omega⟩ dL_law_710 (fun t8 M7 hp7 => ?_)
    obtain ⟨rfl, rfl⟩ := hp7
    refine xr_iload C dL_law_713 rfl ?_
    refine xr_icmp_eq C dL_law_715 rfl (by decide) (by decide) (fun _ => ?_) (fun hq => absurd hq (by omega))
    refine xr_iload C dL_law_720 rfl ?_
    refine xr_if_ne C dL_law_722 rfl (by decide) (fun hq => absurd hq (by decide)) (fun _ => ?_)
    refine xr_aload_n C dL_law_725 rfl ?_
    refine xr_iconst (n := 0) C dL_law_726 (by decide +kernel) ?_
    have hg8 : M8 (Mb 39) = some (.inl (gJ G, 1, .inr (.inl g9))) := h39.trans hg9
    refine xr_lald C hg8 hA.J (by decide) (by decide) (by decide) dL_law_727 ?_
    refine xr_iload C dL_law_728 rfl ?_
    refine xr_i2l C dL_law_730 ?_
    refine xr_lcmp (w := 0) C dL_law_731 (by rw [show g9 (0 : Int).toNat = _ from hv9 _ rfl]; exact lg_cmp_rf _) ?_
    refine xr_if_eq C dL_law_732 rfl (by decide) (fun _ => ?_) (fun hq => absurd hq (by decide))
    refine xr_goto C dL_law_737 rfl ?_
    refine mq_drop 5 ?_
    refine mq_drop 6 ?_
    exact kk _ _ _ (by omega) (by omega)
  · refine xr_aload_n C dL_law_684 rfl ?_
    refine xr_aload_n C dL_law_685 rfl ?_
    refine xr_iload C dL_law_686 rfl ?_
    refine xr_iconst (n := 1) C dL_law_688 (by decide +kernel) ?_
    refine xr_iadd C dL_law_689 ?_
    refine xr_sldv C (hG.old C).1 (by omega) (by omega) (by omega) (by exact ev) dL_law_690 ?_
    refine xr_aload_n C dL_law_691 rfl ?_
    refine xr_callXH3i C (h_store l hlt G sb 4 sx hG hA La hI M hV (Mb 39) (fun r9 hr9 => hLM r9 hr9 39 (by decide)) hO v hvr) (vx_cwSW 3 C.1.2.2.2.2 gL_law_L_store rfl rfl rfl (by decide +kernel) ⟨Nat.le_of_ble_eq_true rfl, Nat.le_of_ble_eq_true rfl⟩) (Nat.le_of_ble_eq_true rfl) ⟨by dsimp only; omega, by dsimp only; omega⟩ dL_law_692 (fun _ _ h9 => h9.elim) (fun k9 M9 hp9 => ?_)
    obtain ⟨hk9, hO9, hF9⟩ := hp9
    rw [if_neg hv] at hk9 hO9
    subst hk9
    obtain ⟨g9, hg9, hv9⟩ := hO9
    have hD9 : mdI G M9 Mb 0 := (hD.frU (fun i9 hi9 h9 => hF9 (Mb i9) (fun h8 => absurd (hb _ _ hi9 (by decide) h8) h9) (fun r9 hr9 => hLM r9 hr9 i9 hi9)))
    refine xr_istore C dL_law_695 (by decide) rfl ?_
    refine xr_aload_n C dL_law_697 rfl ?_
    refine xr_aload_n C dL_law_698 rfl ?_
    refine xr_iload C dL_law_699 rfl ?_
    refine xr_iconst (n := 1) C dL_law_701 (by decide +kernel) ?_
    refine xr_iadd C dL_law_702 ?_
    refine xr_sldv C (hG.old C).1 (by omega) (by omega) (by omega) (by exact ev) dL_law_703 ?_
    refine xr_callV1i C (m_store l G hA Mb hb 0 M9 hD9 v hvr) (cwV 1 C.1.2.2.2.2 gL_law_X12_store rfl rfl rfl (by decide +kernel) ⟨Nat.le_of_ble_eq_true rfl, Nat.le_of_ble_eq_true rfl⟩) hD9.1 rfl (Nat.le_of_ble_eq_true rfl) ⟨by dsimp only; omega, by dsimp only; omega⟩ dL_law_704 (fun r8 M8 hp8 => ?_)
    obtain ⟨hr8, hQ8⟩ := hp8
    rw [if_neg hv] at hr8 hQ8
    obtain ⟨⟨vs8, hT8⟩, h39⟩ := hQ8
    refine xr_istore C dL_law_707 (by decide) rfl ?_
    refine xr_aload_n C dL_law_709 rfl ?_
    refine xr_callV0i C (m_thrown l G M8 (Mb 0) 1 vs8 hT8) (cwV 0 C.1.2.2.2.2 gL_law_X12_thrown rfl rfl rfl (by decide +kernel) ⟨Nat.le_of_ble_eq_true rfl, Nat.le_of_ble_eq_true rfl⟩) hT8 rfl (Nat.le_of_ble_eq_true rfl) ⟨by dsimp only; omega, by dsimp only; omega⟩ dL_law_710 (fun t8 M7 hp7 => ?_)
    obtain ⟨rfl, rfl⟩ := hp7
    refine xr_iload C dL_law_713 rfl ?_
    refine xr_icmp_eq C dL_law_715 rfl (by decide) (by decide) (fun _ => ?_) (fun hq => absurd hq (by omega))
    refine xr_iload C dL_law_720 rfl ?_
    refine xr_if_ne C dL_law_722 rfl (by decide) (fun _ => ?_) (fun hq => absurd hq (by decide))
    refine xr_goto C dL_law_737 rfl ?_
    refine mq_drop 5 ?_
    refine mq_drop 6 ?_
    exact kk _ _ _ (by omega) (by omega)
