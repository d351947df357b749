/-! ===== p48: the law: what the survey must say ===== -/
theorem lg_cmp_rf (x : Int64) : lg_cmp x x = zI 0 := by
  unfold lg_cmp
  rw [if_neg (by simp [gt_iff_lt, Int64.lt_iff_toInt_lt]), if_pos rfl]
  exact zI_0.symm
theorem spF_no {h : Nat → Bool} {d : Nat → List Nat} (h0 : (svS h d 16).1 < 0) : spF h d = -1 := by
  unfold spF
  rw [if_pos h0]
theorem spF_yes {h : Nat → Bool} {d : Nat → List Nat} {ld : Nat} (h0 : (svS h d 16).1 = (ld : Int)) : spF h d = max (-1) ((svS h d 16).2.1 - (mq_gd (d ld) 2 : Int)) := by
  unfold spF
  rw [if_neg (by omega), h0, Int.toNat_natCast]
set_option maxHeartbeats 4000000 in
set_option maxRecDepth 100000 in
theorem lg_cmps {p : Program} {e : Env} {s : State} {m : MethodId} {args : Array Value} {below : List Frame} {meth : Method} {c : Code} {Q : State → Prop} {z : Nat} (l : Launch) (G : mq_G) (b sn : Nat) (sx : Nat → Int32) (hG : qG G b sn sx) (hA : pA G) (hsn : sn < 1000) (La : Nat → Nat) (x ka ca : Nat) (hB : ldB La x ka ca) (tm stp : Int) (k : vtD) (h : Nat → Bool) (d : Nat → List Nat) (r : vtR) (dr : Int) (M : mq_M) (hD : ldA G M La x b ka ca [] k h d r dr) (met : Nat) (C : mq_C p m c cL_law 19 s args wsL_law RL G.1.1 (mq_tys G) z) (cells slots : Nat) (hc : cells ≤ 500000) (hs : slots ≤ 6000000) (kk : ∀ (M2 : mq_M), ldA G M2 La x b ka ca [] k h d r dr → mq_X p l e { frames := 12, cells := 600130, slots := 7301080, locals := 448 } s m args below meth c Q 19 G.1.1 z s.heap cells slots M2 496 [some (.ref b), some (.int (zI tm)), some (.ref x), some (.ref (La 0)), some (.int (zI stp)), none, none, some (.int (zI (svS h d 16).1)), none, none, some (.int (zI (met : Int))), some (.int (zI (spF h d))), none, none, none, none, none, none, none] []) : mq_X p l e { frames := 12, cells := 600130, slots := 7301080, locals := 448 } s m args below meth c Q 19 G.1.1 z s.heap cells slots M 424 [some (.ref b), some (.int (zI tm)), some (.ref x), some (.ref (La 0)), some (.int (zI stp)), some (.long (dgA k h d r)), none, some (.int (zI (svS h d 16).1)), some (.int (zI (svS h d 16).1)), some (.int (zI (svS h d 16).2.1)), some (.int (zI (met : Int))), none, none, none, none, none, none, none, none] [] := by
  have hrg := svS_rng h d 16 (by decide)
  obtain ⟨hr1, hr2, -, -⟩ := svS_rng h d 16 (by decide)
  refine xr_iload C dL_law_424 rfl ?_
  refine xr_iload C dL_law_426 rfl ?_
  refine xr_icmp_ne C dL_law_428 rfl (by omega) (by omega) (fun hq => absurd hq (by omega)) (fun _ => ?_)
  refine xr_iload C dL_law_431 rfl ?_
  refine xr_aload_n C dL_law_433 rfl ?_
  refine xr_callV0i C (c_present l G La hB.1 [] k h d r _ hD.V) (cwV 0 C.1.2.2.2.2 gL_law_X11_present rfl rfl rfl (by decide +kernel) ⟨Nat.le_of_ble_eq_true rfl, Nat.le_of_ble_eq_true rfl⟩) hD.V.1 rfl (Nat.le_of_ble_eq_true rfl) ⟨by dsimp only; omega, by dsimp only; omega⟩ dL_law_434 (fun r1 Mr1 hpr1 => ?_)
  obtain ⟨rfl, hVq2, hFq2⟩ := hpr1
  have hEq2 := hD.vault hB hVq2 hFq2
  refine xr_icmp_ne C dL_law_437 rfl (by omega) (by omega) (fun hq => absurd hq (by omega)) (fun _ => ?_)
  refine xr_aload_n C dL_law_440 rfl ?_
  refine xr_callV0l C (c_digest l G La hB.1 [] k h d r _ hEq2.V) (cwV 0 C.1.2.2.2.2 gL_law_X11_digest rfl rfl rfl (by decide +kernel) ⟨Nat.le_of_ble_eq_true rfl, Nat.le_of_ble_eq_true rfl⟩) hEq2.V.1 rfl (Nat.le_of_ble_eq_true rfl) ⟨by dsimp only; omega, by dsimp only; omega⟩ dL_law_441 (fun r3 Mr3 hpr3 => ?_)
  obtain ⟨rfl, hVq4, hFq4⟩ := hpr3
  have hEq4 := hEq2.vault hB hVq4 hFq4
  refine xr_lload C dL_law_444 rfl ?_
  refine xr_lcmp (w := 0) C dL_law_446 (lg_cmp_rf _) ?_
  refine xr_if_eq C dL_law_447 rfl (by omega) (fun _ => ?_) (fun hq => absurd hq (by omega))
  refine xr_aload_n C dL_law_452 rfl ?_
  refine xr_callV0i C (c_spare l G La hB.1 [] k h d r _ hEq4.V) (cwV 0 C.1.2.2.2.2 gL_law_X11_spare rfl rfl rfl (by decide +kernel) ⟨Nat.le_of_ble_eq_true rfl, Nat.le_of_ble_eq_true rfl⟩) hEq4.V.1 rfl (Nat.le_of_ble_eq_true rfl) ⟨by dsimp only; omega, by dsimp only; omega⟩ dL_law_453 (fun r5 Mr5 hpr5 => ?_)
  obtain ⟨rfl, hVq6, hFq6⟩ := hpr5
  have hEq6 := hEq4.vault hB hVq6 hFq6
  refine xr_istore C dL_law_456 (by decide) rfl ?_
  refine mq_drop 5 ?_
  refine mq_drop 8 ?_
  have hspr : -1 ≤ spF h d ∧ spF h d ≤ 16 := by
    unfold spF
    split
    · omega
    · have := hrg.2.1; omega
  refine xr_iload C dL_law_458 rfl ?_
  refine xr_iload C dL_law_460 rfl ?_
  refine xr_if_lt C dL_law_462 rfl (by omega) (fun hq7 => ?_) (fun hq7 => ?_)
  · have e9 := spF_no (h := h) (d := d) (by omega)
    refine xr_iconst (n := (-1)) C dL_law_477 (by decide +kernel) ?_
    refine xr_goto C dL_law_478 rfl ?_
    refine xr_icmp_eq C dL_law_491 rfl (by omega) (by omega) (fun _ => ?_) (fun hq => absurd hq (by omega))
    refine mq_drop 9 ?_
    exact kk _ hEq6
  · obtain ⟨ldn, hld⟩ := Int.eq_ofNat_of_zero_le (show 0 ≤ (svS h d 16).1 by omega)
    obtain ⟨hl16, hlw⟩ := svS_ld h d 16 ldn hld
    obtain ⟨hlh, hllen, hlr, -, -⟩ := vWhl_nums hlw
    have e9 := spF_yes hld
    have hst : (0 : Int) = 0 := rfl
    rw [hld]
    refine xr_iload C dL_law_465 rfl ?_
    refine xr_aload_n C dL_law_467 rfl ?_
    refine xr_iload C dL_law_468 rfl ?_
    refine xr_iconst (n := 2) C dL_law_470 (by decide +kernel) ?_
    refine xr_callV2i C (c_byteAt l G La hB.1 [] k h d r _ hEq6.V ldn hl16 hlh 2 (by omega)) (cwV 2 C.1.2.2.2.2 gL_law_X11_byteAt rfl rfl rfl (by decide +kernel) ⟨Nat.le_of_ble_eq_true rfl, Nat.le_of_ble_eq_true rfl⟩) hEq6.V.1 rfl (Nat.le_of_ble_eq_true rfl) ⟨by dsimp only; omega, by dsimp only; omega⟩ dL_law_471 (fun r8 Mr8 hpr8 => ?_)
    obtain ⟨rfl, rfl⟩ := hpr8
    rw [show mq_gd (d ldn) ((2 : Nat) : Int) = mq_gd (d ldn) 2 from rfl, ← hld]
    refine xr_icmp_ge C dL_law_474 rfl (by omega) (by omega) (fun hq9 => ?_) (fun hq9 => ?_)
    · rw [hld]
      refine xr_iload C dL_law_481 rfl ?_
      refine xr_aload_n C dL_law_483 rfl ?_
      refine xr_iload C dL_law_484 rfl ?_
      refine xr_iconst (n := 2) C dL_law_486 (by decide +kernel) ?_
      refine xr_callV2i C (c_byteAt l G La hB.1 [] k h d r _ hEq6.V ldn hl16 hlh 2 (by omega)) (cwV 2 C.1.2.2.2.2 gL_law_X11_byteAt rfl rfl rfl (by decide +kernel) ⟨Nat.le_of_ble_eq_true rfl, Nat.le_of_ble_eq_true rfl⟩) hEq6.V.1 rfl (Nat.le_of_ble_eq_true rfl) ⟨by dsimp only; omega, by dsimp only; omega⟩ dL_law_487 (fun r10 Mr10 hpr10 => ?_)
      obtain ⟨rfl, rfl⟩ := hpr10
      rw [show mq_gd (d ldn) ((2 : Nat) : Int) = mq_gd (d ldn) 2 from rfl, ← hld]
      refine xr_isub C dL_law_490 ?_
      refine xr_icmp_eq C dL_law_491 rfl (by omega) (by omega) (fun _ => ?_) (fun hq => absurd hq (by omega))
      refine mq_drop 9 ?_
      exact kk _ hEq6
    · refine xr_iconst (n := (-1)) C dL_law_477 (by decide +kernel) ?_
      refine xr_goto C dL_law_478 rfl ?_
      refine xr_icmp_eq C dL_law_491 rfl (by omega) (by omega) (fun _ => ?_) (fun hq => absurd hq (by omega))
      refine mq_drop 9 ?_
      exact kk _ hEq6
set_option maxHeartbeats 4000000 in
set_option maxRecDepth 100000 in
theorem lg_open {p : Program} {e : Env} {s : State} {m : MethodId} {args : Array Value} {below : List Frame} {meth : Method} {c : Code} {Q : State → Prop} {z : Nat} (l : Launch) (G : mq_G) (b sn : Nat) (sx : Nat → Int32) (hG : qG G b sn sx) (hA : pA G) (hsn : sn < 1000) (La : Nat → Nat) (x ka ca : Nat) (hB : ldB La x ka ca) (tm stp : Int) (k : vtD) (h : Nat → Bool) (d : Nat → List Nat) (r : vtR) (dr : Int) (M : mq_M) (hD : ldA G M La x b ka ca [] k h d r dr) (met : Nat) (C : mq_C p m c cL_law 19 s args wsL_law RL G.1.1 (mq_tys G) z) (cells slots : Nat) (hc : cells ≤ 500000) (hs : slots ≤ 6000000) (kn : ∀ (M2 : mq_M), ldA G M2 La x b ka ca [] k h d (false, r.2) dr → mq_X p l e { frames := 12, cells := 600130, slots := 7301080, locals := 448 } s m args below meth c Q 19 G.1.1 z s.heap cells slots M2 997 [some (.ref b), some (.int (zI tm)), some (.ref x), some (.ref (La 0)), some (.int (zI stp)), none, none, none, none, none, none, none, none, none, none, none, none, none, none] []) (kk : ∀ (M2 : mq_M) (ld dn pn : Nat) (S : List Nat) (fc : Nat → List Nat) (fk fp ft : Nat → Int) (fg : Nat → Bool), ((svS h d 16).1 = (ld : Int) ∧ ld < 16 ∧ mq_gd (d ld) 2 = dn ∧ mq_gd (d ld) 3 = pn ∧ S.length = mq_wd (d ld) 6 ∧ rdOK S fc fk fp ft fg) → ldA G M2 La x b ka ca [] k h d (true, (dn : Int), (pn : Int), rdIx S, rdN S, S, fc, fk, fp, ft, fg) dr → mq_X p l e { frames := 12, cells := 600130, slots := 7301080, locals := 448 } s m args below meth c Q 19 G.1.1 z s.heap cells slots M2 535 [some (.ref b), some (.int (zI tm)), some (.ref x), some (.ref (La 0)), some (.int (zI stp)), none, none, some (.int (zI (ld : Int))), none, none, some (.int (zI (met : Int))), none, some (.int (zI (msC (svS h d 16).2.2.2 dn : Int))), none, none, none, none, none, none] []) : mq_X p l e { frames := 12, cells := 600130, slots := 7301080, locals := 448 } s m args below meth c Q 19 G.1.1 z s.heap cells slots M 496 [some (.ref b), some (.int (zI tm)), some (.ref x), some (.ref (La 0)), some (.int (zI stp)), none, none, some (.int (zI (svS h d 16).1)), none, none, some (.int (zI (met : Int))), some (.int (zI (spF h d))), none, none, none, none, none, none, none] [] := by
  have hrg := svS_rng h d 16 (by decide)
  obtain ⟨hr1, hr2, -, -⟩ := svS_rng h d 16 (by decide)
  have hspr : -1 ≤ spF h d ∧ spF h d ≤ 16 := by
    unfold spF
    split
    · omega
    · have := hrg.2.1; omega
  refine xr_aload_n C dL_law_496 rfl ?_
  refine xr_callV0i C (c_open l G La hB.1 [] k h d r _ hD.V) (cwV 0 C.1.2.2.2.2 gL_law_X11_open rfl rfl rfl (by decide +kernel) ⟨Nat.le_of_ble_eq_true rfl, Nat.le_of_ble_eq_true rfl⟩) hD.V.1 rfl (Nat.le_of_ble_eq_true rfl) ⟨by dsimp only; omega, by dsimp only; omega⟩ dL_law_497 (fun r1 Mr1 hpr1 => ?_)
  obtain ⟨⟨hs9, rfl, hV9⟩ | ⟨ld, dn, pn, S9, fc, fk, fp, ft, fg, ⟨hld, hl16, hs9, hg2, hg3, rfl⟩, ⟨hlen, -, hok⟩, hV9⟩, hF9⟩ := hpr1
  · have hE9 := hD.vault hB hV9 hF9
    refine xr_istore C dL_law_500 (by decide) rfl ?_
    refine xr_iload C dL_law_502 rfl ?_
    refine xr_if_ge C dL_law_504 rfl (by omega) (fun hq => absurd hq (by omega)) (fun _ => ?_)
    refine xr_iconst (n := 1) C dL_law_507 (by decide +kernel) ?_
    refine xr_goto C dL_law_508 rfl ?_
    refine xr_iload C dL_law_512 rfl ?_
    refine xr_if_ge C dL_law_514 rfl (by omega) (fun hq => absurd hq (by omega)) (fun _ => ?_)
    refine xr_iconst (n := 1) C dL_law_517 (by decide +kernel) ?_
    refine xr_goto C dL_law_518 rfl ?_
    refine xr_icmp_eq C dL_law_522 rfl (by omega) (by omega) (fun _ => ?_) (fun hq => absurd hq (by omega))
    refine xr_iload C dL_law_527 rfl ?_
    refine xr_if_ge C dL_law_529 rfl (by omega) (fun hq => absurd hq (by omega)) (fun _ => ?_)
    refine xr_goto C dL_law_532 rfl ?_
    refine mq_drop 7 ?_
    refine mq_drop 10 ?_
    refine mq_drop 11 ?_
    refine mq_drop 12 ?_
    exact kn _ hE9
  · have hE9 := hD.vault hB hV9 hF9
    have hmc := msC_le (svS h d 16).2.2.2 dn
    obtain ⟨-, hlw⟩ := svS_ld h d 16 ld hld
    obtain ⟨-, -, hlr, -, -⟩ := vWhl_nums hlw
    refine xr_istore C dL_law_500 (by decide) rfl ?_
    refine xr_iload C dL_law_502 rfl ?_
    refine xr_if_ge C dL_law_504 rfl (by omega) (fun _ => ?_) (fun hq => absurd hq (by omega))
    refine xr_iconst (n := 0) C dL_law_511 (by decide +kernel) ?_
    refine xr_iload C dL_law_512 rfl ?_
    refine xr_if_ge C dL_law_514 rfl (by omega) (fun _ => ?_) (fun hq => absurd hq (by omega))
    refine xr_iconst (n := 0) C dL_law_521 (by decide +kernel) ?_
    refine xr_icmp_eq C dL_law_522 rfl (by omega) (by omega) (fun _ => ?_) (fun hq => absurd hq (by omega))
    refine xr_iload C dL_law_527 rfl ?_
    refine xr_if_ge C dL_law_529 rfl (by omega) (fun _ => ?_) (fun hq => absurd hq (by omega))
    refine mq_drop 11 ?_
    rw [hld]
    exact kk _ ld dn pn S9 fc fk fp ft fg ⟨hld, hl16, hg2, hg3, hlen, hok⟩ hE9
