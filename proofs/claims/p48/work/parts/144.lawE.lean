/-! ===== p48: the law: the stream, repair, and again ===== -/
theorem fw_again {h : Nat → Bool} {d : Nat → List Nat} {S : List Nat} {dn pn : Nat} (hS : ∀ x ∈ S, x < 256) (hd : 1 ≤ dn ∧ dn ≤ 10) (hp : pn ≤ 6) (hA : ∀ i, i < 16 → h i = fwH dn pn i ∧ d i = fwD S dn pn i) {ld dn2 pn2 : Nat} {S2 : List Nat} (h1 : (svS h d 16).1 = (ld : Int)) (h2 : mq_gd (d ld) 2 = dn2) (h3 : mq_gd (d ld) 3 = pn2) (h4 : msC (svS h d 16).2.2.2 dn2 = 0 → S2 = (rcS d (svS h d 16).2.2.2 (mq_wd (d ld) 4) dn2).take (mq_wd (d ld) 6)) : dn2 = dn ∧ pn2 = pn ∧ msC (svS h d 16).2.2.2 dn2 = 0 ∧ S2 = S := by
  rw [svS_fw16 hd hp hA] at h1 h4 ⊢
  dsimp only at h1 h4 ⊢
  obtain rfl : ld = 0 := by omega
  have e0 : d 0 = vFm S 0 dn pn := by
    rw [(hA 0 (by decide)).2]
    unfold fwD
    rw [if_pos (by omega)]
  obtain ⟨-, -, n2, n3, n4, n6, -⟩ := vFm_nums S 0 dn pn
  rw [e0, n2] at h2
  rw [e0, n3] at h3
  subst h2
  subst h3
  have hm := msC_fw (dn + pn) dn (by omega)
  refine ⟨rfl, rfl, hm, ?_⟩
  rw [h4 hm, e0, n4, n6]
  exact rcS_fwS hS hd (fun i hi => (hA i (by omega)).2)
set_option maxHeartbeats 4000000 in
set_option maxRecDepth 100000 in
theorem lg_stream {p : Program} {e : Env} {s : State} {m : MethodId} {args : Array Value} {below : List Frame} {meth : Method} {c : Code} {Q : State → Prop} {z : Nat} (l : Launch) (G : mq_G) (b sn : Nat) (sx : Nat → Int32) (hG : qG G b sn sx) (hA : pA G) (hsn : sn < 1000) (La : Nat → Nat) (x ka ca : Nat) (hB : ldB La x ka ca) (tm stp : Int) (k : vtD) (h : Nat → Bool) (d : Nat → List Nat) (dr : Int) (M : mq_M) (dn pn : Nat) (S : List Nat) (fc : Nat → List Nat) (fk fp ft : Nat → Int) (fg : Nat → Bool) (hD : ldA G M La x b ka ca [] k h d (true, (dn : Int), (pn : Int), rdIx S, rdN S, S, fc, fk, fp, ft, fg) dr) (C : mq_C p m c cL_law 19 s args wsL_law RL G.1.1 (mq_tys G) z) (cells slots : Nat) (hc : cells ≤ 500000) (hs : slots ≤ 6000000) (kk : ∀ (M2 : mq_M) (q : Nat) (f : Nat → Int32), (q ≠ x ∧ q ≠ ka ∧ q ≠ ca ∧ ∀ i, i < 275 → La i ≠ q) → (M2 q = some (.inl (G.2.1, S.length, .inl f)) ∧ ∀ i, i < S.length → f i = zI (S.getD i 0 : Int)) → ldA G M2 La x b ka ca [] k h d (true, (dn : Int), (pn : Int), rdIx S, rdN S, S, fc, fk, fp, ft, fg) dr → mq_X p l e { frames := 12, cells := 600130, slots := 7301080, locals := 448 } s m args below meth c Q 19 G.1.1 z s.heap (cells + 1) (slots + 40700) M2 848 [some (.ref b), some (.int (zI tm)), some (.ref x), some (.ref (La 0)), some (.int (zI stp)), none, none, none, none, none, none, none, none, some (.int (zI (dn : Int))), some (.int (zI (pn : Int))), some (.int (zI (lgC fg (rdN S) : Int))), some (.ref q), none, none] []) : mq_X p l e { frames := 12, cells := 600130, slots := 7301080, locals := 448 } s m args below meth c Q 19 G.1.1 z s.heap cells slots M 812 [some (.ref b), some (.int (zI tm)), some (.ref x), some (.ref (La 0)), some (.int (zI stp)), none, none, none, none, none, none, none, none, some (.int (zI (dn : Int))), some (.int (zI (pn : Int))), some (.int (zI (lgC fg (rdN S) : Int))), none, none, none] [] := by
  have hst := hD.V.st
  refine xr_aload_n C dL_law_812 rfl ?_
  refine xr_callV0i C (c_opened l G La hB.1 [] k h d (dn : Int) (pn : Int) (rdIx S) (rdN S) S fc fk fp ft fg _ hD.V) (cwV 0 C.1.2.2.2.2 gL_law_X11_opened rfl rfl rfl (by decide +kernel) ⟨Nat.le_of_ble_eq_true rfl, Nat.le_of_ble_eq_true rfl⟩) hD.V.1 rfl (Nat.le_of_ble_eq_true rfl) ⟨by dsimp only; omega, by dsimp only; omega⟩ dL_law_813 (fun r1 Mr1 hpr1 => ?_)
  obtain ⟨rfl, rfl⟩ := hpr1
  refine xr_newI C (C.1.2.2.2.2 (.arrayClass .int) (by decide +kernel)) mq_tI (by omega) (by dsimp only; omega) (by dsimp only; omega) dL_law_816 (fun q2 hq2 => ?_)
  refine mq_ren (fun M3 hM3 => ?_)
  obtain ⟨hqx, hqk, hqc, hqL⟩ := hD.fresh hq2
  have hE1 := hD.new hq2 hM3
  refine xr_astore C dL_law_818 (by decide) rfl ?_
  refine xr_iconst (n := 0) C dL_law_820 (by decide +kernel) ?_
  refine xr_istore C dL_law_821 (by decide) rfl ?_
  refine mq_loop (σ := Nat × mq_M × (Nat → Int32)) (fun y => (y.1 ≤ S.length ∧ ldA G y.2.1 La x b ka ca [] k h d (true, (dn : Int), (pn : Int), rdIx S, rdN S, S, fc, fk, fp, ft, fg) dr) ∧ y.2.1 q2 = some (.inl (G.2.1, S.length, .inl y.2.2)) ∧ ∀ i, i < y.1 → y.2.2 i = zI (S.getD i 0 : Int)) (fun y => S.length - y.1) (fun y => y.2.1) (fun y => [some (.ref b), some (.int (zI tm)), some (.ref x), some (.ref (La 0)), some (.int (zI stp)), none, none, none, none, none, none, none, none, some (.int (zI (dn : Int))), some (.int (zI (pn : Int))), some (.int (zI (lgC fg (rdN S) : Int))), some (.ref q2), some (.int (zI (y.1 : Int))), none]) (fun y => []) ?_ (0, M3, fun _ => 0) ⟨⟨Nat.zero_le _, hE1⟩, by rw [hM3]; exact mq_up_s, fun i hi => absurd hi (Nat.not_lt_zero _)⟩
  rintro ⟨t, M6, f6⟩ ⟨⟨ht, hE6⟩, hq6, hf6⟩ ih6
  dsimp only at ht hE6 hq6 hf6 ih6 ⊢
  refine xr_iload C dL_law_823 rfl ?_
  refine xr_aload C dL_law_825 rfl ?_
  refine xr_alen C hq6 mq_tI dL_law_827 ?_
  refine xr_icmp_ge C dL_law_828 rfl (by omega) (by omega) (fun hq4 => ?_) (fun hq4 => ?_)
  · obtain rfl : t = S.length := by omega
    refine mq_drop 17 ?_
    refine mq_widen (k := cells + 1) (n := slots + 40700) (by omega) (by omega) ?_
    exact kk M6 q2 f6 ⟨hqx, hqk, hqc, hqL⟩ ⟨hq6, hf6⟩ hE6
  · have hbt := mq_gd_lt hst.1 (t : Int)
    refine xr_aload C dL_law_831 rfl ?_
    refine xr_iload C dL_law_833 rfl ?_
    refine xr_aload_n C dL_law_835 rfl ?_
    refine xr_iload C dL_law_836 rfl ?_
    refine xr_callV1i C (c_streamAt l G La hB.1 [] k h d (dn : Int) (pn : Int) (rdIx S) (rdN S) S fc fk fp ft fg _ hE6.V t (by omega)) (cwV 1 C.1.2.2.2.2 gL_law_X11_streamAt rfl rfl rfl (by decide +kernel) ⟨Nat.le_of_ble_eq_true rfl, Nat.le_of_ble_eq_true rfl⟩) hE6.V.1 rfl (Nat.le_of_ble_eq_true rfl) ⟨by dsimp only; omega, by dsimp only; omega⟩ dL_law_838 (fun r5 Mr5 hpr5 => ?_)
    obtain ⟨rfl, rfl⟩ := hpr5
    refine xr_iast C hq6 mq_tI (by omega) (by omega) (by omega) dL_law_841 ?_
    refine mq_ren (fun M6 hM6 => ?_)
    refine xr_iinc C dL_law_842 rfl (by decide) rfl ?_
    refine xr_goto C dL_law_845 rfl ?_
    rw [show (t : Int) + 1 = ((t + 1 : Nat) : Int) by omega]
    refine ih6 (t + 1, M6, upd f6 t (zI (mq_gd S (t : Int) : Int))) ⟨⟨by dsimp only; omega, hE6.row hqx hqk hqc hqL hM6⟩, by rw [hM6]; exact mq_up_s, fun i hi => ?_⟩ (by dsimp only; omega)
    dsimp only at hi ⊢
    unfold upd
    by_cases h9 : i = t
    · rw [if_pos h9, h9, mq_gd_nat]
    · rw [if_neg h9]; exact hf6 i (by omega)
set_option maxHeartbeats 4000000 in
set_option maxRecDepth 100000 in
theorem lg_repair {p : Program} {e : Env} {s : State} {m : MethodId} {args : Array Value} {below : List Frame} {meth : Method} {c : Code} {Q : State → Prop} {z : Nat} (l : Launch) (G : mq_G) (b sn : Nat) (sx : Nat → Int32) (hG : qG G b sn sx) (hA : pA G) (hsn : sn < 1000) (La : Nat → Nat) (x ka ca : Nat) (hB : ldB La x ka ca) (tm stp : Int) (k : vtD) (h : Nat → Bool) (d : Nat → List Nat) (dr : Int) (M : mq_M) (dn pn : Nat) (S : List Nat) (fc : Nat → List Nat) (fk fp ft : Nat → Int) (fg : Nat → Bool) (hdn : 1 ≤ dn ∧ dn ≤ 10) (hpn : pn ≤ 6) (hbd : bdS S.length dn ≤ 4070) (q : Nat) (f : Nat → Int32) (hq : (q ≠ x ∧ q ≠ ka ∧ q ≠ ca ∧ ∀ i, i < 275 → La i ≠ q)) (hQ : M q = some (.inl (G.2.1, S.length, .inl f)) ∧ ∀ i, i < S.length → f i = zI (S.getD i 0 : Int)) (hD : ldA G M La x b ka ca [] k h d (true, (dn : Int), (pn : Int), rdIx S, rdN S, S, fc, fk, fp, ft, fg) dr) (C : mq_C p m c cL_law 19 s args wsL_law RL G.1.1 (mq_tys G) z) (cells slots : Nat) (hc : cells ≤ 500000) (hs : slots ≤ 6000000) (kk : ∀ (M2 : mq_M) (h2 : Nat → Bool) (d2 : Nat → List Nat) (fc2 : Nat → List Nat) (fk2 fp2 ft2 : Nat → Int) (fg2 : Nat → Bool), (∀ i, i < 16 → h2 i = fwH dn pn i ∧ d2 i = fwD S dn pn i) → rdOK S fc2 fk2 fp2 ft2 fg2 → M2 q = some (.inl (G.2.1, S.length, .inl f)) → ldA G M2 La x b ka ca [] k h2 d2 (true, (dn : Int), (pn : Int), rdIx S, rdN S, S, fc2, fk2, fp2, ft2, fg2) dr → mq_X p l e { frames := 12, cells := 600130, slots := 7301080, locals := 448 } s m args below meth c Q 19 G.1.1 z s.heap cells slots M2 915 [some (.ref b), some (.int (zI tm)), some (.ref x), some (.ref (La 0)), some (.int (zI stp)), none, none, none, none, none, none, none, none, some (.int (zI (dn : Int))), some (.int (zI (pn : Int))), some (.int (zI (lgC fg (rdN S) : Int))), some (.ref q), some (.int (zI (rdN S : Int))), none] []) : mq_X p l e { frames := 12, cells := 600130, slots := 7301080, locals := 448 } s m args below meth c Q 19 G.1.1 z s.heap cells slots M 848 [some (.ref b), some (.int (zI tm)), some (.ref x), some (.ref (La 0)), some (.int (zI stp)), none, none, none, none, none, none, none, none, some (.int (zI (dn : Int))), some (.int (zI (pn : Int))), some (.int (zI (lgC fg (rdN S) : Int))), some (.ref q), none, none] [] := by
  have hst := hD.V.st
  have hn40 := rdN_le S
  have hqf : ∀ {M1 M2 : mq_M}, mq_FR La vtA M1 M2 → M2 q = M1 q := fun hF => hF q (fun hm => by
    obtain ⟨i, hi, e⟩ := List.mem_map.mp hm
    exact hq.2.2.2 i (List.mem_range.mp hi) e)
  refine xr_aload_n C dL_law_848 rfl ?_
  refine xr_callV0i C (c_found l G La hB.1 [] k h d (dn : Int) (pn : Int) (rdIx S) (rdN S) S fc fk fp ft fg _ hD.V) (cwV 0 C.1.2.2.2.2 gL_law_X11_found rfl rfl rfl (by decide +kernel) ⟨Nat.le_of_ble_eq_true rfl, Nat.le_of_ble_eq_true rfl⟩) hD.V.1 rfl (Nat.le_of_ble_eq_true rfl) ⟨by dsimp only; omega, by dsimp only; omega⟩ dL_law_849 (fun r1 Mr1 hpr1 => ?_)
  obtain ⟨rfl, rfl⟩ := hpr1
  refine xr_istore C dL_law_852 (by decide) rfl ?_
  refine xr_aload_n C dL_law_854 rfl ?_
  refine xr_callV0i C (c_repair l G La hB.1 [] k h d dn pn (rdIx S) (rdN S) S fc fk fp ft fg _ hD.V hdn hpn hbd) (cwV 0 C.1.2.2.2.2 gL_law_X11_repair rfl rfl rfl (by decide +kernel) ⟨Nat.le_of_ble_eq_true rfl, Nat.le_of_ble_eq_true rfl⟩) hD.V.1 rfl (Nat.le_of_ble_eq_true rfl) ⟨by dsimp only; omega, by dsimp only; omega⟩ dL_law_855 (fun rp Mrp hprp => ?_)
  obtain ⟨rfl, ⟨h2, d2, hA2, hV2⟩, hF2⟩ := hprp
  have hE2 := hD.vault hB hV2 hF2
  have q2 := (hqf hF2).trans hQ.1
  have hsv := svS_fw16 hdn hpn hA2
  have hsp := spF_fw hdn hpn hA2
  refine xr_pop C dL_law_858 rfl ?_
  refine xr_aload_n C dL_law_859 rfl ?_
  refine xr_callV0i C (c_present l G La hB.1 [] k h2 d2 (true, (dn : Int), (pn : Int), rdIx S, rdN S, S, fc, fk, fp, ft, fg) _ hE2.V) (cwV 0 C.1.2.2.2.2 gL_law_X11_present rfl rfl rfl (by decide +kernel) ⟨Nat.le_of_ble_eq_true rfl, Nat.le_of_ble_eq_true rfl⟩) hE2.V.1 rfl (Nat.le_of_ble_eq_true rfl) ⟨by dsimp only; omega, by dsimp only; omega⟩ dL_law_860 (fun r2 Mr2 hpr2 => ?_)
  obtain ⟨rfl, hVz3, hFz3⟩ := hpr2
  have hEz3 := hE2.vault hB hVz3 hFz3
  have qz3 := (hqf hFz3).trans q2
  rw [show (svS h2 d2 16).2.1 = ((dn + pn : Nat) : Int) by rw [hsv]]
  refine xr_iload C dL_law_863 rfl ?_
  refine xr_iload C dL_law_865 rfl ?_
  refine xr_iadd C dL_law_867 ?_
  refine xr_icmp_ne C dL_law_868 rfl (by omega) (by omega) (fun hq => absurd hq (by omega)) (fun _ => ?_)
  refine xr_aload_n C dL_law_871 rfl ?_
  refine xr_callV0i C (c_spare l G La hB.1 [] k h2 d2 (true, (dn : Int), (pn : Int), rdIx S, rdN S, S, fc, fk, fp, ft, fg) _ hEz3.V) (cwV 0 C.1.2.2.2.2 gL_law_X11_spare rfl rfl rfl (by decide +kernel) ⟨Nat.le_of_ble_eq_true rfl, Nat.le_of_ble_eq_true rfl⟩) hEz3.V.1 rfl (Nat.le_of_ble_eq_true rfl) ⟨by dsimp only; omega, by dsimp only; omega⟩ dL_law_872 (fun r4 Mr4 hpr4 => ?_)
  obtain ⟨rfl, hVz5, hFz5⟩ := hpr4
  have hEz5 := hEz3.vault hB hVz5 hFz5
  have qz5 := (hqf hFz5).trans qz3
  rw [hsp]
  refine xr_iload C dL_law_875 rfl ?_
  refine xr_icmp_ne C dL_law_877 rfl (by omega) (by omega) (fun hq => absurd hq (by omega)) (fun _ => ?_)
  refine xr_aload_n C dL_law_880 rfl ?_
  refine xr_callV0i C (c_leader l G La hB.1 [] k h2 d2 (true, (dn : Int), (pn : Int), rdIx S, rdN S, S, fc, fk, fp, ft, fg) _ hEz5.V) (cwV 0 C.1.2.2.2.2 gL_law_X11_leader rfl rfl rfl (by decide +kernel) ⟨Nat.le_of_ble_eq_true rfl, Nat.le_of_ble_eq_true rfl⟩) hEz5.V.1 rfl (Nat.le_of_ble_eq_true rfl) ⟨by dsimp only; omega, by dsimp only; omega⟩ dL_law_881 (fun r6 Mr6 hpr6 => ?_)
  obtain ⟨rfl, hVz7, hFz7⟩ := hpr6
  have hEz7 := hEz5.vault hB hVz7 hFz7
  have qz7 := (hqf hFz7).trans qz5
  rw [show (svS h2 d2 16).1 = (0 : Int) by rw [hsv]]
  refine xr_if_ne C dL_law_884 rfl (by omega) (fun hq => absurd hq (by omega)) (fun _ => ?_)
  refine xr_aload_n C dL_law_887 rfl ?_
  refine xr_callV0i C (c_open l G La hB.1 [] k h2 d2 (true, (dn : Int), (pn : Int), rdIx S, rdN S, S, fc, fk, fp, ft, fg) _ hEz7.V) (cwV 0 C.1.2.2.2.2 gL_law_X11_open rfl rfl rfl (by decide +kernel) ⟨Nat.le_of_ble_eq_true rfl, Nat.le_of_ble_eq_true rfl⟩) hEz7.V.1 rfl (Nat.le_of_ble_eq_true rfl) ⟨by dsimp only; omega, by dsimp only; omega⟩ dL_law_888 (fun r8 Mr8 hpr8 => ?_)
  obtain ⟨⟨hs9, -, -⟩ | ⟨ld3, dn3, pn3, S3, fc3, fk3, fp3, ft3, fg3, ⟨hld3, -, -, hg2, hg3, rfl⟩, ⟨-, htk, hok3⟩, hV3⟩, hF3⟩ := hpr8
  · exfalso
    omega
  obtain ⟨rfl, rfl, hms, rfl⟩ := fw_again hst.1 hdn hpn hA2 hld3 hg2 hg3 htk
  have hE3 := hEz7.vault hB hV3 hF3
  have q3 := (hqf hF3).trans qz7
  rw [hms]
  refine xr_if_ne C dL_law_891 rfl (by omega) (fun hq => absurd hq (by omega)) (fun _ => ?_)
  refine xr_aload_n C dL_law_894 rfl ?_
  refine xr_callV0i C (c_opened l G La hB.1 [] k h2 d2 (dn3 : Int) (pn3 : Int) (rdIx S3) (rdN S3) S3 fc3 fk3 fp3 ft3 fg3 _ hE3.V) (cwV 0 C.1.2.2.2.2 gL_law_X11_opened rfl rfl rfl (by decide +kernel) ⟨Nat.le_of_ble_eq_true rfl, Nat.le_of_ble_eq_true rfl⟩) hE3.V.1 rfl (Nat.le_of_ble_eq_true rfl) ⟨by dsimp only; omega, by dsimp only; omega⟩ dL_law_895 (fun r9 Mr9 hpr9 => ?_)
  obtain ⟨rfl, rfl⟩ := hpr9
  refine xr_aload C dL_law_898 rfl ?_
  refine xr_alen C q3 mq_tI dL_law_900 ?_
  refine xr_icmp_ne C dL_law_901 rfl (by omega) (by omega) (fun hq => absurd hq (by omega)) (fun _ => ?_)
  refine xr_aload_n C dL_law_904 rfl ?_
  refine xr_callV0i C (c_found l G La hB.1 [] k h2 d2 (dn3 : Int) (pn3 : Int) (rdIx S3) (rdN S3) S3 fc3 fk3 fp3 ft3 fg3 _ hE3.V) (cwV 0 C.1.2.2.2.2 gL_law_X11_found rfl rfl rfl (by decide +kernel) ⟨Nat.le_of_ble_eq_true rfl, Nat.le_of_ble_eq_true rfl⟩) hE3.V.1 rfl (Nat.le_of_ble_eq_true rfl) ⟨by dsimp only; omega, by dsimp only; omega⟩ dL_law_905 (fun r10 Mr10 hpr10 => ?_)
  obtain ⟨rfl, rfl⟩ := hpr10
  refine xr_iload C dL_law_908 rfl ?_
  refine xr_icmp_eq C dL_law_910 rfl (by omega) (by omega) (fun _ => ?_) (fun hq => absurd hq (by omega))
  exact kk _ h2 d2 fc3 fk3 fp3 ft3 fg3 hA2 hok3 q3 hE3
set_option maxHeartbeats 4000000 in
set_option maxRecDepth 100000 in
theorem lg_same {p : Program} {e : Env} {s : State} {m : MethodId} {args : Array Value} {below : List Frame} {meth : Method} {c : Code} {Q : State → Prop} {z : Nat} (l : Launch) (G : mq_G) (b sn : Nat) (sx : Nat → Int32) (hG : qG G b sn sx) (hA : pA G) (hsn : sn < 1000) (La : Nat → Nat) (x ka ca : Nat) (hB : ldB La x ka ca) (tm stp : Int) (k : vtD) (h2 : Nat → Bool) (d2 : Nat → List Nat) (dr : Int) (M : mq_M) (dn pn : Nat) (S : List Nat) (fc : Nat → List Nat) (fk fp ft : Nat → Int) (fg : Nat → Bool) (fc2 : Nat → List Nat) (fk2 fp2 ft2 : Nat → Int) (fg2 : Nat → Bool) (hdn : 1 ≤ dn ∧ dn ≤ 10) (hpn : pn ≤ 6) (hbd : bdS S.length dn ≤ 4070) (hok : rdOK S fc fk fp ft fg) (hok2 : rdOK S fc2 fk2 fp2 ft2 fg2) (hA2 : ∀ i, i < 16 → h2 i = fwH dn pn i ∧ d2 i = fwD S dn pn i) (q : Nat) (f : Nat → Int32) (hQ : M q = some (.inl (G.2.1, S.length, .inl f)) ∧ ∀ i, i < S.length → f i = zI (S.getD i 0 : Int)) (hD : ldA G M La x b ka ca [] k h2 d2 (true, (dn : Int), (pn : Int), rdIx S, rdN S, S, fc2, fk2, fp2, ft2, fg2) dr) (C : mq_C p m c cL_law 19 s args wsL_law RL G.1.1 (mq_tys G) z) (cells slots : Nat) (hc : cells ≤ 500000) (hs : slots ≤ 6000000) (kk : ∀ (M2 : mq_M) (h3 : Nat → Bool) (d3 : Nat → List Nat), ldA G M2 La x b ka ca [] k h3 d3 (true, (dn : Int), (pn : Int), rdIx S, rdN S, S, fc2, fk2, fp2, ft2, fg2) dr → mq_X p l e { frames := 12, cells := 600130, slots := 7301080, locals := 448 } s m args below meth c Q 19 G.1.1 z s.heap cells slots M2 997 [some (.ref b), some (.int (zI tm)), some (.ref x), some (.ref (La 0)), some (.int (zI stp)), none, none, none, none, none, none, none, none, none, none, none, none, none, none] []) : mq_X p l e { frames := 12, cells := 600130, slots := 7301080, locals := 448 } s m args below meth c Q 19 G.1.1 z s.heap cells slots M 915 [some (.ref b), some (.int (zI tm)), some (.ref x), some (.ref (La 0)), some (.int (zI stp)), none, none, none, none, none, none, none, none, some (.int (zI (dn : Int))), some (.int (zI (pn : Int))), some (.int (zI (lgC fg (rdN S) : Int))), some (.ref q), some (.int (zI (rdN S : Int))), none] [] := by
  have hst := hD.V.st
  have hn40 := rdN_le S
  have hgq : ∀ j, j < rdN S → fg j = fg2 j := fun j hj => by rw [(hok j hj).2.2.2.1, (hok2 j hj).2.2.2.1]
  have hgc := lgC_eq (rdN S) hgq
  have hgl := lgC_le fg (rdN S)
  refine xr_iconst (n := 0) C dL_law_915 (by decide +kernel) ?_
  refine xr_istore C dL_law_916 (by decide) rfl ?_
  refine mq_loop (σ := Nat) (fun y => y ≤ S.length) (fun y => S.length - y) (fun y => M) (fun y => [some (.ref b), some (.int (zI tm)), some (.ref x), some (.ref (La 0)), some (.int (zI stp)), none, none, none, none, none, none, none, none, some (.int (zI (dn : Int))), some (.int (zI (pn : Int))), some (.int (zI (lgC fg (rdN S) : Int))), some (.ref q), some (.int (zI (rdN S : Int))), some (.int (zI (y : Int)))]) (fun y => []) ?_ 0 (Nat.zero_le _)
  rintro t ht ih6
  try dsimp only at ht ih6 ⊢
  refine xr_iload C dL_law_918 rfl ?_
  refine xr_aload C dL_law_920 rfl ?_
  refine xr_alen C hQ.1 mq_tI dL_law_922 ?_
  refine xr_icmp_ge C dL_law_923 rfl (by omega) (by omega) (fun hq1 => ?_) (fun hq1 => ?_)
  · clear ih6
    refine xr_iconst (n := 0) C dL_law_948 (by decide +kernel) ?_
    refine xr_istore C dL_law_949 (by decide) rfl ?_
    refine mq_loop (σ := Nat × Int) (fun y => y.1 ≤ rdN S ∧ y.2 + (lgC fg2 y.1 : Int) = (lgC fg (rdN S) : Int)) (fun y => rdN S - y.1) (fun y => M) (fun y => [some (.ref b), some (.int (zI tm)), some (.ref x), some (.ref (La 0)), some (.int (zI stp)), none, none, none, none, none, none, none, none, some (.int (zI (dn : Int))), some (.int (zI (pn : Int))), some (.int (zI y.2)), some (.ref q), some (.int (zI (rdN S : Int))), some (.int (zI (y.1 : Int)))]) (fun y => []) ?_ (0, (lgC fg (rdN S) : Int)) ⟨Nat.zero_le _, by show (lgC fg (rdN S) : Int) + ((0 : Nat) : Int) = _; omega⟩
    rintro ⟨j, gd⟩ ⟨hj, hgd⟩ ih7
    dsimp only at hj hgd ih7 ⊢
    have hgl2 := lgC_le fg2 j
    have hgs : lgC fg2 (j + 1) = lgC fg2 j + (if fg2 j = true then 1 else 0) := rfl
    refine xr_iload C dL_law_951 rfl ?_
    refine xr_iload C dL_law_953 rfl ?_
    refine xr_icmp_ge C dL_law_955 rfl (by omega) (by omega) (fun hq3 => ?_) (fun hq3 => ?_)
    · obtain rfl : j = rdN S := by omega
      obtain rfl : gd = 0 := by omega
      refine xr_iload C dL_law_983 rfl ?_
      refine xr_if_ne C dL_law_985 rfl (by omega) (fun hq => absurd hq (by omega)) (fun _ => ?_)
      refine xr_aload_n C dL_law_988 rfl ?_
      refine xr_callV0i C (c_repair l G La hB.1 [] k h2 d2 dn pn (rdIx S) (rdN S) S fc2 fk2 fp2 ft2 fg2 _ hD.V hdn hpn hbd) (cwV 0 C.1.2.2.2.2 gL_law_X11_repair rfl rfl rfl (by decide +kernel) ⟨Nat.le_of_ble_eq_true rfl, Nat.le_of_ble_eq_true rfl⟩) hD.V.1 rfl (Nat.le_of_ble_eq_true rfl) ⟨by dsimp only; omega, by dsimp only; omega⟩ dL_law_989 (fun rp Mrp hprp => ?_)
      obtain ⟨rfl, ⟨h3, d3, hA3, hV3⟩, hF3⟩ := hprp
      have hE3 := hD.vault hB hV3 hF3
      rw [fwC_fw hA2 16 (Nat.le_refl _)]
      refine xr_if_eq C dL_law_992 rfl (by omega) (fun _ => ?_) (fun hq => absurd hq (by omega))
      refine mq_drop 13 ?_
      refine mq_drop 14 ?_
      refine mq_drop 15 ?_
      refine mq_drop 16 ?_
      refine mq_drop 17 ?_
      refine mq_drop 18 ?_
      exact kk _ h3 d3 hE3
    · refine xr_iload C dL_law_958 rfl ?_
      refine xr_aload_n C dL_law_960 rfl ?_
      refine xr_iload C dL_law_961 rfl ?_
      refine xr_callV1i C (c_isGood l G La hB.1 [] k h2 d2 (dn : Int) (pn : Int) (rdIx S) (rdN S) S fc2 fk2 fp2 ft2 fg2 _ hD.V j (by omega)) (cwV 1 C.1.2.2.2.2 gL_law_X11_isGood rfl rfl rfl (by decide +kernel) ⟨Nat.le_of_ble_eq_true rfl, Nat.le_of_ble_eq_true rfl⟩) hD.V.1 rfl (Nat.le_of_ble_eq_true rfl) ⟨by dsimp only; omega, by dsimp only; omega⟩ dL_law_963 (fun r4 Mr4 hpr4 => ?_)
      obtain ⟨rfl, rfl⟩ := hpr4
      cases hg9 : fg2 j with
      | false =>
        rw [show mq_b false = 0 from rfl]
        have h9 := hgs
        rw [hg9, if_neg (by decide)] at h9
        refine xr_if_eq C dL_law_966 rfl (by omega) (fun _ => ?_) (fun hq => absurd hq (by omega))
        refine xr_iconst (n := 0) C dL_law_973 (by decide +kernel) ?_
        refine xr_isub C dL_law_974 ?_
        refine xr_istore C dL_law_975 (by decide) rfl ?_
        refine xr_iinc C dL_law_977 rfl (by decide) rfl ?_
        refine xr_goto C dL_law_980 rfl ?_
        rw [show (j : Int) + 1 = ((j + 1 : Nat) : Int) by omega]
        exact ih7 (j + 1, gd - 0) ⟨by dsimp only; omega, by dsimp only; omega⟩ (by dsimp only; omega)
      | true =>
        rw [show mq_b true = 1 from rfl]
        have h9 := hgs
        rw [hg9, if_pos rfl] at h9
        refine xr_if_eq C dL_law_966 rfl (by omega) (fun hq => absurd hq (by omega)) (fun _ => ?_)
        refine xr_iconst (n := 1) C dL_law_969 (by decide +kernel) ?_
        refine xr_goto C dL_law_970 rfl ?_
        refine xr_isub C dL_law_974 ?_
        refine xr_istore C dL_law_975 (by decide) rfl ?_
        refine xr_iinc C dL_law_977 rfl (by decide) rfl ?_
        refine xr_goto C dL_law_980 rfl ?_
        rw [show (j : Int) + 1 = ((j + 1 : Nat) : Int) by omega]
        exact ih7 (j + 1, gd - 1) ⟨by dsimp only; omega, by dsimp only; omega⟩ (by dsimp only; omega)
  · have hbt := mq_gd_lt hst.1 (t : Int)
    refine xr_aload_n C dL_law_926 rfl ?_
    refine xr_iload C dL_law_927 rfl ?_
    refine xr_callV1i C (c_streamAt l G La hB.1 [] k h2 d2 (dn : Int) (pn : Int) (rdIx S) (rdN S) S fc2 fk2 fp2 ft2 fg2 _ hD.V t (by omega)) (cwV 1 C.1.2.2.2.2 gL_law_X11_streamAt rfl rfl rfl (by decide +kernel) ⟨Nat.le_of_ble_eq_true rfl, Nat.le_of_ble_eq_true rfl⟩) hD.V.1 rfl (Nat.le_of_ble_eq_true rfl) ⟨by dsimp only; omega, by dsimp only; omega⟩ dL_law_929 (fun r2 Mr2 hpr2 => ?_)
    obtain ⟨rfl, rfl⟩ := hpr2
    refine xr_aload C dL_law_932 rfl ?_
    refine xr_iload C dL_law_934 rfl ?_
    refine xr_iald C hQ.1 mq_tI (by omega) (by omega) (by omega) dL_law_936 ?_
    rw [show f ((t : Int)).toNat = zI (mq_gd S (t : Int) : Int) by rw [mq_gd_nat]; exact hQ.2 t (by omega)]
    refine xr_icmp_eq C dL_law_937 rfl (by omega) (by omega) (fun _ => ?_) (fun hq => absurd hq (by omega))
    refine xr_iinc C dL_law_942 rfl (by decide) rfl ?_
    refine xr_goto C dL_law_945 rfl ?_
    rw [show (t : Int) + 1 = ((t + 1 : Nat) : Int) by omega]
    exact ih6 (t + 1) (by omega) (by omega)
