/-! ===== p48: the law: what is worked out, what is found ===== -/
set_option maxHeartbeats 4000000 in
set_option maxRecDepth 100000 in
theorem lg_work {p : Program} {e : Env} {s : State} {m : MethodId} {args : Array Value} {below : List Frame} {meth : Method} {c : Code} {Q : State → Prop} {z : Nat} (l : Launch) (G : mq_G) (b sn : Nat) (sx : Nat → Int32) (hG : qG G b sn sx) (hA : pA G) (hsn : sn < 1000) (La : Nat → Nat) (x ka ca : Nat) (hB : ldB La x ka ca) (tm stp : Int) (k : vtD) (h : Nat → Bool) (d : Nat → List Nat) (dr : Int) (M : mq_M) (met ld : Nat) (dn pn : Nat) (S : List Nat) (fc : Nat → List Nat) (fk fp ft : Nat → Int) (fg : Nat → Bool) (hld : (svS h d 16).1 = (ld : Int)) (hl16 : ld < 16) (hg2 : mq_gd (d ld) 2 = dn) (hg3 : mq_gd (d ld) 3 = pn) (hlen : S.length = mq_wd (d ld) 6) (hm : lvM (svS h d 16).2.2.1 0 met) (hD : ldA G M La x b ka ca [] k h d (true, (dn : Int), (pn : Int), rdIx S, rdN S, S, fc, fk, fp, ft, fg) dr) (C : mq_C p m c cL_law 19 s args wsL_law RL G.1.1 (mq_tys G) z) (cells slots : Nat) (hc : cells ≤ 500000) (hs : slots ≤ 6000000) (kk : mq_X p l e { frames := 12, cells := 600130, slots := 7301080, locals := 448 } s m args below meth c Q 19 G.1.1 z s.heap cells slots M 625 [some (.ref b), some (.int (zI tm)), some (.ref x), some (.ref (La 0)), some (.int (zI stp)), none, none, none, none, none, none, none, none, some (.int (zI (dn : Int))), some (.int (zI (pn : Int))), none, none, none, none] []) : mq_X p l e { frames := 12, cells := 600130, slots := 7301080, locals := 448 } s m args below meth c Q 19 G.1.1 z s.heap cells slots M 535 [some (.ref b), some (.int (zI tm)), some (.ref x), some (.ref (La 0)), some (.int (zI stp)), none, none, some (.int (zI (ld : Int))), none, none, some (.int (zI (met : Int))), none, some (.int (zI (msC (svS h d 16).2.2.2 dn : Int))), none, none, none, none, none, none] [] := by
  have hS := svP_S h d 16
  obtain ⟨-, hlw⟩ := svS_ld h d 16 ld hld
  obtain ⟨hlh, hllen, hlr, -, -⟩ := vWhl_nums hlw
  have hm0 := hm.1
  have hmc := msC_le (svS h d 16).2.2.2 dn
  refine xr_aload_n C dL_law_535 rfl ?_
  refine xr_iload C dL_law_536 rfl ?_
  refine xr_iconst (n := 2) C dL_law_538 (by decide +kernel) ?_
  refine xr_callV2i C (c_byteAt l G La hB.1 [] k h d (true, (dn : Int), (pn : Int), rdIx S, rdN S, S, fc, fk, fp, ft, fg) _ hD.V ld hl16 hlh 2 (by omega)) (cwV 2 C.1.2.2.2.2 gL_law_X11_byteAt rfl rfl rfl (by decide +kernel) ⟨Nat.le_of_ble_eq_true rfl, Nat.le_of_ble_eq_true rfl⟩) hD.V.1 rfl (Nat.le_of_ble_eq_true rfl) ⟨by dsimp only; omega, by dsimp only; omega⟩ dL_law_539 (fun r1 Mr1 hpr1 => ?_)
  obtain ⟨rfl, rfl⟩ := hpr1
  rw [show mq_gd (d ld) ((2 : Nat) : Int) = dn from hg2]
  refine xr_istore C dL_law_542 (by decide) rfl ?_
  refine xr_aload_n C dL_law_544 rfl ?_
  refine xr_iload C dL_law_545 rfl ?_
  refine xr_iconst (n := 3) C dL_law_547 (by decide +kernel) ?_
  refine xr_callV2i C (c_byteAt l G La hB.1 [] k h d (true, (dn : Int), (pn : Int), rdIx S, rdN S, S, fc, fk, fp, ft, fg) _ hD.V ld hl16 hlh 3 (by omega)) (cwV 2 C.1.2.2.2.2 gL_law_X11_byteAt rfl rfl rfl (by decide +kernel) ⟨Nat.le_of_ble_eq_true rfl, Nat.le_of_ble_eq_true rfl⟩) hD.V.1 rfl (Nat.le_of_ble_eq_true rfl) ⟨by dsimp only; omega, by dsimp only; omega⟩ dL_law_548 (fun r2 Mr2 hpr2 => ?_)
  obtain ⟨rfl, rfl⟩ := hpr2
  rw [show mq_gd (d ld) ((3 : Nat) : Int) = pn from hg3]
  refine xr_istore C dL_law_551 (by decide) rfl ?_
  refine xr_iconst (n := 0) C dL_law_553 (by decide +kernel) ?_
  refine xr_istore C dL_law_554 (by decide) rfl ?_
  refine mq_loop (σ := Nat × Int) (fun y => y.1 ≤ dn ∧ y.2 + (msC (svS h d 16).2.2.2 y.1 : Int) = (msC (svS h d 16).2.2.2 dn : Int)) (fun y => dn - y.1) (fun y => M) (fun y => [some (.ref b), some (.int (zI tm)), some (.ref x), some (.ref (La 0)), some (.int (zI stp)), none, none, some (.int (zI (ld : Int))), none, none, some (.int (zI (met : Int))), none, some (.int (zI y.2)), some (.int (zI (dn : Int))), some (.int (zI (pn : Int))), some (.int (zI (y.1 : Int))), none, none, none]) (fun y => []) ?_ (0, (msC (svS h d 16).2.2.2 dn : Int)) ⟨Nat.zero_le _, by show (msC (svS h d 16).2.2.2 dn : Int) + ((0 : Nat) : Int) = _; omega⟩
  rintro ⟨t, wk⟩ ⟨ht, hwk⟩ ih
  dsimp only at ht hwk ih ⊢
  have hmt := msC_le (svS h d 16).2.2.2 t
  refine xr_iload C dL_law_556 rfl ?_
  refine xr_iload C dL_law_558 rfl ?_
  refine xr_icmp_ge C dL_law_560 rfl (by omega) (by omega) (fun hq3 => ?_) (fun hq3 => ?_)
  · obtain rfl : dn = t := by omega
    obtain rfl : wk = 0 := by omega
    refine xr_iload C dL_law_590 rfl ?_
    refine xr_if_ne C dL_law_592 rfl (by omega) (fun hq => absurd hq (by omega)) (fun _ => ?_)
    refine xr_aload_n C dL_law_595 rfl ?_
    refine xr_callV0i C (c_opened l G La hB.1 [] k h d (dn : Int) (pn : Int) (rdIx S) (rdN S) S fc fk fp ft fg _ hD.V) (cwV 0 C.1.2.2.2.2 gL_law_X11_opened rfl rfl rfl (by decide +kernel) ⟨Nat.le_of_ble_eq_true rfl, Nat.le_of_ble_eq_true rfl⟩) hD.V.1 rfl (Nat.le_of_ble_eq_true rfl) ⟨by dsimp only; omega, by dsimp only; omega⟩ dL_law_596 (fun r4 Mr4 hpr4 => ?_)
    obtain ⟨rfl, rfl⟩ := hpr4
    refine xr_aload_n C dL_law_599 rfl ?_
    refine xr_iload C dL_law_600 rfl ?_
    refine xr_bipush (n := 6) C dL_law_602 (by decide +kernel) ?_
    refine xr_callV2i C (c_byteAt l G La hB.1 [] k h d (true, (dn : Int), (pn : Int), rdIx S, rdN S, S, fc, fk, fp, ft, fg) _ hD.V ld hl16 hlh 6 (by omega)) (cwV 2 C.1.2.2.2.2 gL_law_X11_byteAt rfl rfl rfl (by decide +kernel) ⟨Nat.le_of_ble_eq_true rfl, Nat.le_of_ble_eq_true rfl⟩) hD.V.1 rfl (Nat.le_of_ble_eq_true rfl) ⟨by dsimp only; omega, by dsimp only; omega⟩ dL_law_604 (fun r5 Mr5 hpr5 => ?_)
    obtain ⟨rfl, rfl⟩ := hpr5
    have e6 : ((mq_gd (d ld) ((6 : Nat) : Int) : Nat) : Int) = (mq_gd (d ld) 6 : Int) := rfl
    have b6 := mq_gd_lt (hD.V.bt (i := ld) hl16).1 6
    have b7 := mq_gd_lt (hD.V.bt (i := ld) hl16).1 7
    rw [show mq_gd (d ld) ((6 : Nat) : Int) = mq_gd (d ld) 6 from rfl]
    refine xr_sipush (n := 256) C dL_law_607 (by decide +kernel) ?_
    refine xr_imul C dL_law_610 ?_
    refine xr_aload_n C dL_law_611 rfl ?_
    refine xr_iload C dL_law_612 rfl ?_
    refine xr_bipush (n := 7) C dL_law_614 (by decide +kernel) ?_
    refine xr_callV2i C (c_byteAt l G La hB.1 [] k h d (true, (dn : Int), (pn : Int), rdIx S, rdN S, S, fc, fk, fp, ft, fg) _ hD.V ld hl16 hlh 7 (by omega)) (cwV 2 C.1.2.2.2.2 gL_law_X11_byteAt rfl rfl rfl (by decide +kernel) ⟨Nat.le_of_ble_eq_true rfl, Nat.le_of_ble_eq_true rfl⟩) hD.V.1 rfl (Nat.le_of_ble_eq_true rfl) ⟨by dsimp only; omega, by dsimp only; omega⟩ dL_law_616 (fun r6 Mr6 hpr6 => ?_)
    obtain ⟨rfl, rfl⟩ := hpr6
    rw [show mq_gd (d ld) ((7 : Nat) : Int) = mq_gd (d ld) 7 from rfl]
    have hw6 : mq_wd (d ld) 6 = mq_gd (d ld) 6 * 256 + mq_gd (d ld) 7 := rfl
    have hst := hD.V.st.2
    refine xr_iadd C dL_law_619 ?_
    refine xr_icmp_eq C dL_law_620 rfl (by omega) (by omega) (fun _ => ?_) (fun hq => absurd hq (by omega))
    refine mq_drop 7 ?_
    refine mq_drop 10 ?_
    refine mq_drop 12 ?_
    refine mq_drop 15 ?_
    exact kk
  · have ht16 : t < 16 := by omega
    have hbit := lv_ho hS hm ht16
    have hdiv : met / 2 ^ t ≤ met := Nat.div_le_self _ _
    refine xr_iload C dL_law_563 rfl ?_
    refine xr_iload C dL_law_565 rfl ?_
    refine xr_iload C dL_law_567 rfl ?_
    refine xr_ishr (w := ((met / 2 ^ t : Nat) : Int)) C dL_law_569 (zI_shrN (by omega) (by omega)) ?_
    refine xr_iconst (n := 1) C dL_law_570 (by decide +kernel) ?_
    refine xr_iand (w := ((met / 2 ^ t % 2 : Nat) : Int)) C dL_law_571 (by exact zI_and1 (by omega)) ?_
    refine xr_iconst (n := 1) C dL_law_572 (by decide +kernel) ?_
    refine xr_icmp_ne C dL_law_573 rfl (by omega) (by omega) (fun hq7 => ?_) (fun hq7 => ?_)
    · have hms : msC (svS h d 16).2.2.2 (t + 1) = msC (svS h d 16).2.2.2 t + (if (svS h d 16).2.2.2 t < 0 then 1 else 0) := rfl
      rw [if_pos (by omega)] at hms
      refine xr_iconst (n := 1) C dL_law_580 (by decide +kernel) ?_
      refine xr_isub C dL_law_581 ?_
      refine xr_istore C dL_law_582 (by decide) rfl ?_
      refine xr_iinc C dL_law_584 rfl (by decide) rfl ?_
      refine xr_goto C dL_law_587 rfl ?_
      rw [show (t : Int) + 1 = ((t + 1 : Nat) : Int) by omega]
      exact ih (t + 1, wk - 1) ⟨by dsimp only; omega, by dsimp only; omega⟩ (by dsimp only; omega)
    · have hms : msC (svS h d 16).2.2.2 (t + 1) = msC (svS h d 16).2.2.2 t + (if (svS h d 16).2.2.2 t < 0 then 1 else 0) := rfl
      rw [if_neg (by omega)] at hms
      refine xr_iconst (n := 0) C dL_law_576 (by decide +kernel) ?_
      refine xr_goto C dL_law_577 rfl ?_
      refine xr_isub C dL_law_581 ?_
      refine xr_istore C dL_law_582 (by decide) rfl ?_
      refine xr_iinc C dL_law_584 rfl (by decide) rfl ?_
      refine xr_goto C dL_law_587 rfl ?_
      rw [show (t : Int) + 1 = ((t + 1 : Nat) : Int) by omega]
      exact ih (t + 1, wk - 0) ⟨by dsimp only; omega, by dsimp only; omega⟩ (by dsimp only; omega)
set_option maxHeartbeats 4000000 in
set_option maxRecDepth 100000 in
theorem lg_files {p : Program} {e : Env} {s : State} {m : MethodId} {args : Array Value} {below : List Frame} {meth : Method} {c : Code} {Q : State → Prop} {z : Nat} (l : Launch) (G : mq_G) (b sn : Nat) (sx : Nat → Int32) (hG : qG G b sn sx) (hA : pA G) (hsn : sn < 1000) (La : Nat → Nat) (x ka ca : Nat) (hB : ldB La x ka ca) (tm stp : Int) (k : vtD) (h : Nat → Bool) (d : Nat → List Nat) (dr : Int) (M : mq_M) (dn pn : Nat) (S : List Nat) (fc : Nat → List Nat) (fk fp ft : Nat → Int) (fg : Nat → Bool) (hok : rdOK S fc fk fp ft fg) (hD : ldA G M La x b ka ca [] k h d (true, (dn : Int), (pn : Int), rdIx S, rdN S, S, fc, fk, fp, ft, fg) dr) (C : mq_C p m c cL_law 19 s args wsL_law RL G.1.1 (mq_tys G) z) (cells slots : Nat) (hc : cells ≤ 500000) (hs : slots ≤ 6000000) (kk : ∀ (M2 : mq_M), ldA G M2 La x b ka ca [] k h d (true, (dn : Int), (pn : Int), rdIx S, rdN S, S, fc, fk, fp, ft, fg) dr → mq_X p l e { frames := 12, cells := 600130, slots := 7301080, locals := 448 } s m args below meth c Q 19 G.1.1 z s.heap (cells + 40) (slots + 9600) M2 812 [some (.ref b), some (.int (zI tm)), some (.ref x), some (.ref (La 0)), some (.int (zI stp)), none, none, none, none, none, none, none, none, some (.int (zI (dn : Int))), some (.int (zI (pn : Int))), some (.int (zI (lgC fg (rdN S) : Int))), none, none, none] []) : mq_X p l e { frames := 12, cells := 600130, slots := 7301080, locals := 448 } s m args below meth c Q 19 G.1.1 z s.heap cells slots M 625 [some (.ref b), some (.int (zI tm)), some (.ref x), some (.ref (La 0)), some (.int (zI stp)), none, none, none, none, none, none, none, none, some (.int (zI (dn : Int))), some (.int (zI (pn : Int))), none, none, none, none] [] := by
  have hn40 := rdN_le S
  refine xr_iconst (n := 0) C dL_law_625 (by decide +kernel) ?_
  refine xr_istore C dL_law_626 (by decide) rfl ?_
  refine xr_iconst (n := 0) C dL_law_628 (by decide +kernel) ?_
  refine xr_istore C dL_law_629 (by decide) rfl ?_
  refine mq_loopK (σ := Nat × mq_M) (fun y => y.1 ≤ rdN S ∧ ldA G y.2 La x b ka ca [] k h d (true, (dn : Int), (pn : Int), rdIx S, rdN S, S, fc, fk, fp, ft, fg) dr) (fun y => rdN S - y.1) (fun y => cells + y.1) (fun y => slots + 240 * y.1) (fun y => y.2) (fun y => [some (.ref b), some (.int (zI tm)), some (.ref x), some (.ref (La 0)), some (.int (zI stp)), none, none, none, none, none, none, none, none, some (.int (zI (dn : Int))), some (.int (zI (pn : Int))), some (.int (zI (lgC fg y.1 : Int))), some (.int (zI (y.1 : Int))), none, none]) (fun y => []) ?_ (0, M) ⟨Nat.zero_le _, hD⟩
  rintro ⟨f, M5⟩ ⟨hf, hE⟩ ih
  dsimp only at hf hE ih ⊢
  have hgl := lgC_le fg f
  have hst := hE.V.st
  refine xr_iload C dL_law_631 rfl ?_
  refine xr_aload_n C dL_law_633 rfl ?_
  refine xr_callV0i C (c_found l G La hB.1 [] k h d (dn : Int) (pn : Int) (rdIx S) (rdN S) S fc fk fp ft fg _ hE.V) (cwV 0 C.1.2.2.2.2 gL_law_X11_found rfl rfl rfl (by decide +kernel) ⟨Nat.le_of_ble_eq_true rfl, Nat.le_of_ble_eq_true rfl⟩) hE.V.1 rfl (Nat.le_of_ble_eq_true rfl) ⟨by dsimp only; omega, by dsimp only; omega⟩ dL_law_634 (fun r1 Mr1 hpr1 => ?_)
  obtain ⟨rfl, rfl⟩ := hpr1
  refine xr_icmp_ge C dL_law_637 rfl (by omega) (by omega) (fun hq2 => ?_) (fun hq2 => ?_)
  · obtain rfl : f = rdN S := by omega
    refine mq_drop 16 ?_
    refine mq_widen (k := cells + 40) (n := slots + 9600) (by omega) (by omega) ?_
    exact kk M5 hE
  · have hfn : f < rdN S := by omega
    have hfc := hE.V.fc (i := f) (by omega)
    obtain ⟨k1, k2, k3, k4, k5⟩ := hok f hfn
    have hgs : lgC fg (f + 1) = lgC fg f + (if fg f = true then 1 else 0) := rfl
    refine xr_aload_n C dL_law_640 rfl ?_
    refine xr_iload C dL_law_641 rfl ?_
    refine xr_callV1i C (c_isGood l G La hB.1 [] k h d (dn : Int) (pn : Int) (rdIx S) (rdN S) S fc fk fp ft fg _ hE.V f hfn) (cwV 1 C.1.2.2.2.2 gL_law_X11_isGood rfl rfl rfl (by decide +kernel) ⟨Nat.le_of_ble_eq_true rfl, Nat.le_of_ble_eq_true rfl⟩) hE.V.1 rfl (Nat.le_of_ble_eq_true rfl) ⟨by dsimp only; omega, by dsimp only; omega⟩ dL_law_643 (fun r3 Mr3 hpr3 => ?_)
    obtain ⟨rfl, rfl⟩ := hpr3
    refine xr_aload_n C dL_law_646 rfl ?_
    refine xr_iload C dL_law_647 rfl ?_
    refine xr_callV1i C (c_lengthFound l G La hB.1 [] k h d (dn : Int) (pn : Int) (rdIx S) (rdN S) S fc fk fp ft fg _ hE.V f hfn) (cwV 1 C.1.2.2.2.2 gL_law_X11_lengthFound rfl rfl rfl (by decide +kernel) ⟨Nat.le_of_ble_eq_true rfl, Nat.le_of_ble_eq_true rfl⟩) hE.V.1 rfl (Nat.le_of_ble_eq_true rfl) ⟨by dsimp only; omega, by dsimp only; omega⟩ dL_law_649 (fun r4 Mr4 hpr4 => ?_)
    obtain ⟨rfl, rfl⟩ := hpr4
    cases hgd : fg f with
    | false =>
      rw [show vsz false (fc f) = -1 from rfl, show mq_b false = 0 from rfl]
      refine xr_if_lt C dL_law_652 rfl (by omega) (fun _ => ?_) (fun hq => absurd hq (by omega))
      refine xr_iconst (n := 0) C dL_law_659 (by decide +kernel) ?_
      refine xr_icmp_eq C dL_law_660 rfl (by omega) (by omega) (fun _ => ?_) (fun hq => absurd hq (by omega))
      refine xr_aload_n C dL_law_665 rfl ?_
      refine xr_iload C dL_law_666 rfl ?_
      refine xr_callV1i C (c_isGood l G La hB.1 [] k h d (dn : Int) (pn : Int) (rdIx S) (rdN S) S fc fk fp ft fg _ hE.V f hfn) (cwV 1 C.1.2.2.2.2 gL_law_X11_isGood rfl rfl rfl (by decide +kernel) ⟨Nat.le_of_ble_eq_true rfl, Nat.le_of_ble_eq_true rfl⟩) hE.V.1 rfl (Nat.le_of_ble_eq_true rfl) ⟨by dsimp only; omega, by dsimp only; omega⟩ dL_law_668 (fun r5 Mr5 hpr5 => ?_)
      obtain ⟨rfl, rfl⟩ := hpr5
      rw [hgd, show mq_b false = 0 from rfl]
      refine xr_if_ne C dL_law_671 rfl (by omega) (fun hq => absurd hq (by omega)) (fun _ => ?_)
      refine xr_goto C dL_law_674 rfl ?_
      refine xr_iinc C dL_law_806 rfl (by decide) rfl ?_
      refine xr_goto C dL_law_809 rfl ?_
      have e9 : lgC fg f = lgC fg (f + 1) := by
        have h9 := hgs
        rw [hgd, if_neg (by decide)] at h9
        omega
      rw [e9]
      rw [show (f : Int) + 1 = ((f + 1 : Nat) : Int) by omega]
      refine mq_widen (k := cells + (f + 1)) (n := slots + 240 * (f + 1)) (by omega) (by omega) ?_
      exact ih (f + 1, M5) ⟨by dsimp only; omega, hE⟩ (by dsimp only; omega)
    | true =>
      have hgt : (rdG S f).isSome = true := by rw [← k4]; exact hgd
      obtain ⟨cs, hcs⟩ := Option.isSome_iff_exists.mp hgt
      have hcc := k5 cs hcs
      obtain ⟨g1, g2, g3, g4, g5⟩ := rdG_some hcs
      rw [← hcc] at g5
      obtain ⟨pl, hpl⟩ := Int.eq_ofNat_of_zero_le g1
      rw [hpl] at g2 g3 g4 g5 k2
      rw [show vsz true (fc f) = ((fc f).length : Int) from rfl, show mq_b true = 1 from rfl]
      refine xr_if_lt C dL_law_652 rfl (by omega) (fun hq => absurd hq (by omega)) (fun _ => ?_)
      refine xr_iconst (n := 1) C dL_law_655 (by decide +kernel) ?_
      refine xr_goto C dL_law_656 rfl ?_
      refine xr_icmp_eq C dL_law_660 rfl (by omega) (by omega) (fun _ => ?_) (fun hq => absurd hq (by omega))
      refine xr_aload_n C dL_law_665 rfl ?_
      refine xr_iload C dL_law_666 rfl ?_
      refine xr_callV1i C (c_isGood l G La hB.1 [] k h d (dn : Int) (pn : Int) (rdIx S) (rdN S) S fc fk fp ft fg _ hE.V f hfn) (cwV 1 C.1.2.2.2.2 gL_law_X11_isGood rfl rfl rfl (by decide +kernel) ⟨Nat.le_of_ble_eq_true rfl, Nat.le_of_ble_eq_true rfl⟩) hE.V.1 rfl (Nat.le_of_ble_eq_true rfl) ⟨by dsimp only; omega, by dsimp only; omega⟩ dL_law_668 (fun r6 Mr6 hpr6 => ?_)
      obtain ⟨rfl, rfl⟩ := hpr6
      rw [hgd, show mq_b true = 1 from rfl]
      refine xr_if_ne C dL_law_671 rfl (by omega) (fun _ => ?_) (fun hq => absurd hq (by omega))
      refine xr_iinc C dL_law_677 rfl (by decide) rfl ?_
      refine xr_aload_n C dL_law_680 rfl ?_
      refine xr_iload C dL_law_681 rfl ?_
      refine xr_callV1i C (c_lengthFound l G La hB.1 [] k h d (dn : Int) (pn : Int) (rdIx S) (rdN S) S fc fk fp ft fg _ hE.V f hfn) (cwV 1 C.1.2.2.2.2 gL_law_X11_lengthFound rfl rfl rfl (by decide +kernel) ⟨Nat.le_of_ble_eq_true rfl, Nat.le_of_ble_eq_true rfl⟩) hE.V.1 rfl (Nat.le_of_ble_eq_true rfl) ⟨by dsimp only; omega, by dsimp only; omega⟩ dL_law_683 (fun r7 Mr7 hpr7 => ?_)
      obtain ⟨rfl, rfl⟩ := hpr7
      rw [hgd, show vsz true (fc f) = ((fc f).length : Int) from rfl]
      refine xr_newI C (C.1.2.2.2.2 (.arrayClass .int) (by decide +kernel)) mq_tI (by omega) (by dsimp only; omega) (by dsimp only; omega) dL_law_686 (fun q8 hq8 => ?_)
      refine mq_ren (fun M9 hM9 => ?_)
      obtain ⟨hqx, hqk, hqc, hqL⟩ := hE.fresh hq8
      have hE1 := hE.new hq8 hM9
      refine xr_astore C dL_law_688 (by decide) rfl ?_
      refine xr_iconst (n := 0) C dL_law_690 (by decide +kernel) ?_
      refine xr_istore C dL_law_691 (by decide) rfl ?_
      refine mq_loop (σ := Nat × mq_M × (Nat → Int32)) (fun y => (y.1 ≤ (fc f).length ∧ ldA G y.2.1 La x b ka ca [] k h d (true, (dn : Int), (pn : Int), rdIx S, rdN S, S, fc, fk, fp, ft, fg) dr) ∧ y.2.1 q8 = some (.inl (G.2.1, (fc f).length, .inl y.2.2)) ∧ ∀ i, i < y.1 → y.2.2 i = zI ((fc f).getD i 0 : Int)) (fun y => (fc f).length - y.1) (fun y => y.2.1) (fun y => [some (.ref b), some (.int (zI tm)), some (.ref x), some (.ref (La 0)), some (.int (zI stp)), none, none, none, none, none, none, none, none, some (.int (zI (dn : Int))), some (.int (zI (pn : Int))), some (.int (zI ((lgC fg f : Int) + 1))), some (.int (zI (f : Int))), some (.ref q8), some (.int (zI (y.1 : Int)))]) (fun y => []) ?_ (0, M9, fun _ => 0) ⟨⟨Nat.zero_le _, hE1⟩, by rw [hM9]; exact mq_up_s, fun i hi => absurd hi (Nat.not_lt_zero _)⟩
      rintro ⟨t, M6, f6⟩ ⟨⟨ht, hE6⟩, hq6, hf6⟩ ih6
      dsimp only at ht hE6 hq6 hf6 ih6 ⊢
      refine xr_iload C dL_law_693 rfl ?_
      refine xr_aload C dL_law_695 rfl ?_
      refine xr_alen C hq6 mq_tI dL_law_697 ?_
      refine xr_icmp_ge C dL_law_698 rfl (by omega) (by omega) (fun hq10 => ?_) (fun hq10 => ?_)
      · obtain rfl : t = (fc f).length := by omega
        refine xr_aload_n C dL_law_720 rfl ?_
        refine xr_iload C dL_law_721 rfl ?_
        refine xr_callV1i C (c_placeFound l G La hB.1 [] k h d (dn : Int) (pn : Int) (rdIx S) (rdN S) S fc fk fp ft fg _ hE6.V f hfn) (cwV 1 C.1.2.2.2.2 gL_law_X11_placeFound rfl rfl rfl (by decide +kernel) ⟨Nat.le_of_ble_eq_true rfl, Nat.le_of_ble_eq_true rfl⟩) hE6.V.1 rfl (Nat.le_of_ble_eq_true rfl) ⟨by dsimp only; omega, by dsimp only; omega⟩ dL_law_723 (fun r13 Mr13 hpr13 => ?_)
        obtain ⟨rfl, rfl⟩ := hpr13
        rw [k2]
        refine xr_istore C dL_law_726 (by decide) rfl ?_
        refine xr_aload C dL_law_728 rfl ?_
        refine xr_iconst (n := 0) C dL_law_730 (by decide +kernel) ?_
        refine xr_aload C dL_law_731 rfl ?_
        refine xr_alen C hq6 mq_tI dL_law_733 ?_
        refine xr_callS3i C (l_check l G M6 q8 f6 (fc f) hq6 hf6 hfc.1 hfc.2) (cwS 3 C.1.2.2.2.2 gL_law_L_check rfl rfl rfl (by decide +kernel) ⟨Nat.le_of_ble_eq_true rfl, Nat.le_of_ble_eq_true rfl⟩) (Nat.le_of_ble_eq_true rfl) ⟨by dsimp only; omega, by dsimp only; omega⟩ dL_law_734 (fun rc Mc hpc => ?_)
        obtain ⟨rfl, rfl⟩ := hpc
        have hw2 : mq_wd S ((pl : Int) + 2) = mq_gd S ((pl + 2 : Nat) : Int) * 256 + mq_gd S ((pl + 3 : Nat) : Int) := by
          unfold mq_wd
          rw [show (pl : Int) + 2 + 1 = ((pl + 3 : Nat) : Int) by omega, show (pl : Int) + 2 = ((pl + 2 : Nat) : Int) by omega]
        have hw6 : mq_wd S ((pl : Int) + 6) = mq_gd S ((pl + 6 : Nat) : Int) * 256 + mq_gd S ((pl + 7 : Nat) : Int) := by
          unfold mq_wd
          rw [show (pl : Int) + 6 + 1 = ((pl + 7 : Nat) : Int) by omega, show (pl : Int) + 6 = ((pl + 6 : Nat) : Int) by omega]
        refine xr_aload_n C dL_law_737 rfl ?_
        refine xr_iload C dL_law_738 rfl ?_
        refine xr_bipush (n := 6) C dL_law_740 (by decide +kernel) ?_
        refine xr_iadd C dL_law_742 ?_
        rw [show (pl : Int) + 6 = ((pl + 6 : Nat) : Int) by omega]
        refine xr_callV1i C (c_streamAt l G La hB.1 [] k h d (dn : Int) (pn : Int) (rdIx S) (rdN S) S fc fk fp ft fg _ hE6.V (pl + 6) (by omega)) (cwV 1 C.1.2.2.2.2 gL_law_X11_streamAt rfl rfl rfl (by decide +kernel) ⟨Nat.le_of_ble_eq_true rfl, Nat.le_of_ble_eq_true rfl⟩) hE6.V.1 rfl (Nat.le_of_ble_eq_true rfl) ⟨by dsimp only; omega, by dsimp only; omega⟩ dL_law_743 (fun r14 Mr14 hpr14 => ?_)
        obtain ⟨rfl, rfl⟩ := hpr14
        have hb6_ := mq_gd_lt hst.1 ((pl + 6 : Nat) : Int)
        refine xr_sipush (n := 256) C dL_law_746 (by decide +kernel) ?_
        refine xr_imul C dL_law_749 ?_
        refine xr_aload_n C dL_law_750 rfl ?_
        refine xr_iload C dL_law_751 rfl ?_
        refine xr_bipush (n := 7) C dL_law_753 (by decide +kernel) ?_
        refine xr_iadd C dL_law_755 ?_
        rw [show (pl : Int) + 7 = ((pl + 7 : Nat) : Int) by omega]
        refine xr_callV1i C (c_streamAt l G La hB.1 [] k h d (dn : Int) (pn : Int) (rdIx S) (rdN S) S fc fk fp ft fg _ hE6.V (pl + 7) (by omega)) (cwV 1 C.1.2.2.2.2 gL_law_X11_streamAt rfl rfl rfl (by decide +kernel) ⟨Nat.le_of_ble_eq_true rfl, Nat.le_of_ble_eq_true rfl⟩) hE6.V.1 rfl (Nat.le_of_ble_eq_true rfl) ⟨by dsimp only; omega, by dsimp only; omega⟩ dL_law_756 (fun r15 Mr15 hpr15 => ?_)
        obtain ⟨rfl, rfl⟩ := hpr15
        have hb7_ := mq_gd_lt hst.1 ((pl + 7 : Nat) : Int)
        refine xr_iadd C dL_law_759 ?_
        refine xr_icmp_ne C dL_law_760 rfl (by omega) (by omega) (fun hq => absurd hq (by omega)) (fun _ => ?_)
        refine xr_aload_n C dL_law_763 rfl ?_
        refine xr_iload C dL_law_764 rfl ?_
        refine xr_callV1i C (c_streamAt l G La hB.1 [] k h d (dn : Int) (pn : Int) (rdIx S) (rdN S) S fc fk fp ft fg _ hE6.V pl (by omega)) (cwV 1 C.1.2.2.2.2 gL_law_X11_streamAt rfl rfl rfl (by decide +kernel) ⟨Nat.le_of_ble_eq_true rfl, Nat.le_of_ble_eq_true rfl⟩) hE6.V.1 rfl (Nat.le_of_ble_eq_true rfl) ⟨by dsimp only; omega, by dsimp only; omega⟩ dL_law_766 (fun r16 Mr16 hpr16 => ?_)
        obtain ⟨rfl, rfl⟩ := hpr16
        rw [g3]
        refine xr_bipush (n := 69) C dL_law_769 (by decide +kernel) ?_
        refine xr_icmp_ne C dL_law_771 rfl (by omega) (by omega) (fun hq => absurd hq (by omega)) (fun _ => ?_)
        refine xr_aload_n C dL_law_774 rfl ?_
        refine xr_iload C dL_law_775 rfl ?_
        refine xr_iconst (n := 2) C dL_law_777 (by decide +kernel) ?_
        refine xr_iadd C dL_law_778 ?_
        rw [show (pl : Int) + 2 = ((pl + 2 : Nat) : Int) by omega]
        refine xr_callV1i C (c_streamAt l G La hB.1 [] k h d (dn : Int) (pn : Int) (rdIx S) (rdN S) S fc fk fp ft fg _ hE6.V (pl + 2) (by omega)) (cwV 1 C.1.2.2.2.2 gL_law_X11_streamAt rfl rfl rfl (by decide +kernel) ⟨Nat.le_of_ble_eq_true rfl, Nat.le_of_ble_eq_true rfl⟩) hE6.V.1 rfl (Nat.le_of_ble_eq_true rfl) ⟨by dsimp only; omega, by dsimp only; omega⟩ dL_law_779 (fun r17 Mr17 hpr17 => ?_)
        obtain ⟨rfl, rfl⟩ := hpr17
        have hb2_ := mq_gd_lt hst.1 ((pl + 2 : Nat) : Int)
        refine xr_sipush (n := 256) C dL_law_782 (by decide +kernel) ?_
        refine xr_imul C dL_law_785 ?_
        refine xr_aload_n C dL_law_786 rfl ?_
        refine xr_iload C dL_law_787 rfl ?_
        refine xr_iconst (n := 3) C dL_law_789 (by decide +kernel) ?_
        refine xr_iadd C dL_law_790 ?_
        rw [show (pl : Int) + 3 = ((pl + 3 : Nat) : Int) by omega]
        refine xr_callV1i C (c_streamAt l G La hB.1 [] k h d (dn : Int) (pn : Int) (rdIx S) (rdN S) S fc fk fp ft fg _ hE6.V (pl + 3) (by omega)) (cwV 1 C.1.2.2.2.2 gL_law_X11_streamAt rfl rfl rfl (by decide +kernel) ⟨Nat.le_of_ble_eq_true rfl, Nat.le_of_ble_eq_true rfl⟩) hE6.V.1 rfl (Nat.le_of_ble_eq_true rfl) ⟨by dsimp only; omega, by dsimp only; omega⟩ dL_law_791 (fun r18 Mr18 hpr18 => ?_)
        obtain ⟨rfl, rfl⟩ := hpr18
        have hb3_ := mq_gd_lt hst.1 ((pl + 3 : Nat) : Int)
        refine xr_iadd C dL_law_794 ?_
        refine xr_aload_n C dL_law_795 rfl ?_
        refine xr_iload C dL_law_796 rfl ?_
        refine xr_callV1i C (c_keyFound l G La hB.1 [] k h d (dn : Int) (pn : Int) (rdIx S) (rdN S) S fc fk fp ft fg _ hE6.V f hfn) (cwV 1 C.1.2.2.2.2 gL_law_X11_keyFound rfl rfl rfl (by decide +kernel) ⟨Nat.le_of_ble_eq_true rfl, Nat.le_of_ble_eq_true rfl⟩) hE6.V.1 rfl (Nat.le_of_ble_eq_true rfl) ⟨by dsimp only; omega, by dsimp only; omega⟩ dL_law_798 (fun r19 Mr19 hpr19 => ?_)
        obtain ⟨rfl, rfl⟩ := hpr19
        rw [k1]
        refine xr_icmp_eq C dL_law_801 rfl (by omega) (by omega) (fun _ => ?_) (fun hq => absurd hq (by omega))
        refine xr_iinc C dL_law_806 rfl (by decide) rfl ?_
        refine xr_goto C dL_law_809 rfl ?_
        refine mq_drop 17 ?_
        refine mq_drop 18 ?_
        have e9 : (lgC fg f : Int) + 1 = ((lgC fg (f + 1) : Nat) : Int) := by
          have h9 := hgs
          rw [hgd, if_pos rfl] at h9
          omega
        rw [e9]
        rw [show (f : Int) + 1 = ((f + 1 : Nat) : Int) by omega]
        refine mq_widen (k := cells + (f + 1)) (n := slots + 240 * (f + 1)) (by omega) (by omega) ?_
        exact ih (f + 1, M6) ⟨by dsimp only; omega, hE6⟩ (by dsimp only; omega)
      · have hbt := mq_gd_lt hfc.1 (t : Int)
        refine xr_aload C dL_law_701 rfl ?_
        refine xr_iload C dL_law_703 rfl ?_
        refine xr_aload_n C dL_law_705 rfl ?_
        refine xr_iload C dL_law_706 rfl ?_
        refine xr_iload C dL_law_708 rfl ?_
        refine xr_callV2i C (c_byteFound l G La hB.1 [] k h d (dn : Int) (pn : Int) (rdIx S) (rdN S) S fc fk fp ft fg _ hE6.V f hfn hgd t (by omega)) (cwV 2 C.1.2.2.2.2 gL_law_X11_byteFound rfl rfl rfl (by decide +kernel) ⟨Nat.le_of_ble_eq_true rfl, Nat.le_of_ble_eq_true rfl⟩) hE6.V.1 rfl (Nat.le_of_ble_eq_true rfl) ⟨by dsimp only; omega, by dsimp only; omega⟩ dL_law_710 (fun r11 Mr11 hpr11 => ?_)
        obtain ⟨rfl, rfl⟩ := hpr11
        refine xr_iast C hq6 mq_tI (by omega) (by omega) (by omega) dL_law_713 ?_
        refine mq_ren (fun M12 hM12 => ?_)
        refine xr_iinc C dL_law_714 rfl (by decide) rfl ?_
        refine xr_goto C dL_law_717 rfl ?_
        rw [show (t : Int) + 1 = ((t + 1 : Nat) : Int) by omega]
        refine ih6 (t + 1, M12, upd f6 t (zI (mq_gd (fc f) (t : Int) : Int))) ⟨⟨by dsimp only; omega, hE6.row hqx hqk hqc hqL hM12⟩, by rw [hM12]; exact mq_up_s, fun i hi => ?_⟩ (by dsimp only; omega)
        dsimp only at hi ⊢
        unfold upd
        by_cases h9 : i = t
        · rw [if_pos h9, h9, mq_gd_nat]
        · rw [if_neg h9]; exact hf6 i (by omega)
