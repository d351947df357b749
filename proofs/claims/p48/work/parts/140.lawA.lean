/-! ===== p48: the law: what is done to volumes ===== -/
theorem vsz_pos {h : Bool} {d : List Nat} (hq : 0 < vsz h d) : h = true ∧ 0 < d.length ∧ vsz h d = (d.length : Int) := by
  cases h with
  | false => exact absurd hq (show ¬ 0 < vsz false d by show ¬ (0 : Int) < -1; decide)
  | true =>
    have e : vsz true d = (d.length : Int) := rfl
    rw [e] at hq
    exact ⟨rfl, by omega, e⟩
theorem vsz_rng {h : Bool} {d : List Nat} (hl : d.length ≤ 4080) : -1 ≤ vsz h d ∧ vsz h d ≤ 4080 := by
  cases h with
  | false => exact ⟨Int.le_refl _, by show (-1 : Int) ≤ 4080; decide⟩
  | true =>
    have e : vsz true d = (d.length : Int) := rfl
    rw [e]
    omega
set_option maxHeartbeats 4000000 in
set_option maxRecDepth 100000 in
theorem lg_ops {p : Program} {e : Env} {s : State} {m : MethodId} {args : Array Value} {below : List Frame} {meth : Method} {c : Code} {Q : State → Prop} {z : Nat} (l : Launch) (G : mq_G) (b sn : Nat) (sx : Nat → Int32) (hG : qG G b sn sx) (hA : pA G) (hsn : sn < 1000) (La : Nat → Nat) (x ka ca : Nat) (hB : ldB La x ka ca) (tm stp : Int) (k : vtD) (h : Nat → Bool) (d : Nat → List Nat) (r : vtR) (dr : Int) (hdr : 0 ≤ dr ∧ dr < 700000) (M : mq_M) (hD : ldA G M La x b ka ca [] k h d r dr) (C : mq_C p m c cL_law 19 s args wsL_law RL G.1.1 (mq_tys G) z) (cells slots : Nat) (hc : cells ≤ 500000) (hs : slots ≤ 6000000) (kk : ∀ (M2 : mq_M) (h2 : Nat → Bool) (d2 : Nat → List Nat) (dr2 : Int), (dr ≤ dr2 ∧ dr2 ≤ dr + 30) → ldA G M2 La x b ka ca [] k h2 d2 r dr2 → mq_X p l e { frames := 12, cells := 600130, slots := 7301080, locals := 448 } s m args below meth c Q 19 G.1.1 z s.heap cells slots M2 276 [some (.ref b), some (.int (zI tm)), some (.ref x), some (.ref (La 0)), some (.int (zI stp)), none, none, none, none, none, none, none, none, none, none, none, none, none, none] []) : mq_X p l e { frames := 12, cells := 600130, slots := 7301080, locals := 448 } s m args below meth c Q 19 G.1.1 z s.heap cells slots M 89 [some (.ref b), some (.int (zI tm)), some (.ref x), some (.ref (La 0)), some (.int (zI stp)), none, none, none, none, none, none, none, none, none, none, none, none, none, none] [] := by
  refine xr_aload_n C dL_law_89 rfl ?_
  refine xr_iconst (n := 4) C dL_law_90 (by decide +kernel) ?_
  refine xr_callV1i C (l_draw l G sn sx x (La 0) b (dr) (k.1 : Int) ka ca _ hD.D hG hsn (by omega) 4 (by decide)) (cwV 1 C.1.2.2.2.2 gL_law_X12_draw rfl rfl rfl (by decide +kernel) ⟨Nat.le_of_ble_eq_true rfl, Nat.le_of_ble_eq_true rfl⟩) hD.D rfl (Nat.le_of_ble_eq_true rfl) ⟨by dsimp only; omega, by dsimp only; omega⟩ dL_law_91 (fun v1 Mdv1 hpv1 => ?_)
  obtain ⟨hv1, hMv1⟩ := hpv1
  have hEv1 := hD.draw hB hMv1
  obtain ⟨n0, rfl⟩ := Int.eq_ofNat_of_zero_le hv1.1
  refine xr_istore C dL_law_94 (by decide) rfl ?_
  refine mq_loop (σ := Nat × mq_M × (Nat → Bool) × (Nat → List Nat) × Int) (fun y => (y.1 ≤ 3 ∧ dr ≤ y.2.2.2.2 ∧ y.2.2.2.2 + 5 * (y.1 : Int) ≤ dr + 16) ∧ ldA G y.2.1 La x b ka ca [] k y.2.2.1 y.2.2.2.1 r y.2.2.2.2) (fun y => y.1) (fun y => y.2.1) (fun y => [some (.ref b), some (.int (zI tm)), some (.ref x), some (.ref (La 0)), some (.int (zI stp)), some (.int (zI (y.1 : Int))), none, none, none, none, none, none, none, none, none, none, none, none, none]) (fun y => []) ?_ (n0, Mdv1, h, d, dr + 1) ⟨⟨by dsimp only; omega, by dsimp only; omega, by dsimp only; omega⟩, hEv1⟩
  rintro ⟨n, M5, h5, d5, dq⟩ ⟨⟨a1, a2, a3⟩, hE⟩ ih
  dsimp only at a1 a2 a3 hE ih ⊢
  refine xr_iload C dL_law_96 rfl ?_
  refine xr_if_le C dL_law_98 rfl (by omega) (fun hq2 => ?_) (fun hq2 => ?_)
  · refine mq_drop 5 ?_
    exact kk _ h5 d5 dq ⟨a2, by omega⟩ hE
  · refine xr_aload_n C dL_law_101 rfl ?_
    refine xr_bipush (n := 9) C dL_law_102 (by decide +kernel) ?_
    refine xr_callV1i C (l_draw l G sn sx x (La 0) b (dq) (k.1 : Int) ka ca _ hE.D hG hsn (by omega) 9 (by decide)) (cwV 1 C.1.2.2.2.2 gL_law_X12_draw rfl rfl rfl (by decide +kernel) ⟨Nat.le_of_ble_eq_true rfl, Nat.le_of_ble_eq_true rfl⟩) hE.D rfl (Nat.le_of_ble_eq_true rfl) ⟨by dsimp only; omega, by dsimp only; omega⟩ dL_law_104 (fun v3 Mdv3 hpv3 => ?_)
    obtain ⟨hv3, hMv3⟩ := hpv3
    have hEv3 := hE.draw hB hMv3
    obtain ⟨u, rfl⟩ := Int.eq_ofNat_of_zero_le hv3.1
    refine xr_istore C dL_law_107 (by decide) rfl ?_
    refine xr_aload_n C dL_law_109 rfl ?_
    refine xr_bipush (n := 8) C dL_law_110 (by decide +kernel) ?_
    refine xr_callV1i C (l_draw l G sn sx x (La 0) b (dq + 1) (k.1 : Int) ka ca _ hEv3.D hG hsn (by omega) 8 (by decide)) (cwV 1 C.1.2.2.2.2 gL_law_X12_draw rfl rfl rfl (by decide +kernel) ⟨Nat.le_of_ble_eq_true rfl, Nat.le_of_ble_eq_true rfl⟩) hEv3.D rfl (Nat.le_of_ble_eq_true rfl) ⟨by dsimp only; omega, by dsimp only; omega⟩ dL_law_112 (fun v4 Mdv4 hpv4 => ?_)
    obtain ⟨hv4, hMv4⟩ := hpv4
    have hEv4 := hEv3.draw hB hMv4
    have hby := hE.V.bt (i := u) (by omega)
    have hzr := vsz_rng (h := h5 u) hby.2
    rcases (show v4 = 0 ∨ v4 = 1 ∨ v4 = 2 ∨ v4 = 3 ∨ v4 = 4 ∨ v4 = 5 ∨ v4 = 6 ∨ v4 = 7 by omega) with rfl | rfl | rfl | rfl | rfl | rfl | rfl | rfl
    · refine xr_istore C dL_law_115 (by decide) rfl ?_
      refine xr_iload C dL_law_117 rfl ?_
      refine xr_if_ne C dL_law_119 rfl (by omega) (fun hq => absurd hq (by omega)) (fun _ => ?_)
      refine xr_aload_n C dL_law_122 rfl ?_
      refine xr_iload C dL_law_123 rfl ?_
      refine xr_callV1i C (c_lose l G La hB.1 [] k h5 d5 r _ hEv4.V u (by omega)) (cwV 1 C.1.2.2.2.2 gL_law_X11_lose rfl rfl rfl (by decide +kernel) ⟨Nat.le_of_ble_eq_true rfl, Nat.le_of_ble_eq_true rfl⟩) hEv4.V.1 rfl (Nat.le_of_ble_eq_true rfl) ⟨by dsimp only; omega, by dsimp only; omega⟩ dL_law_125 (fun r5 Mr5 hpr5 => ?_)
      obtain ⟨rfl, hVq6, hFq6⟩ := hpr5
      have hEq6 := hEv4.vault hB hVq6 hFq6
      refine xr_pop C dL_law_128 rfl ?_
      refine xr_iload C dL_law_129 rfl ?_
      refine xr_iconst (n := 1) C dL_law_131 (by decide +kernel) ?_
      refine xr_icmp_ne C dL_law_132 rfl (by omega) (by omega) (fun _ => ?_) (fun hq => absurd hq (by omega))
      refine xr_iload C dL_law_148 rfl ?_
      refine xr_iconst (n := 1) C dL_law_150 (by decide +kernel) ?_
      refine xr_icmp_le C dL_law_151 rfl (by omega) (by omega) (fun _ => ?_) (fun hq => absurd hq (by omega))
      refine xr_iinc C dL_law_270 rfl (by decide) rfl ?_
      refine xr_goto C dL_law_273 rfl ?_
      refine mq_drop 6 ?_
      refine mq_drop 7 ?_
      rw [show (n : Int) + -1 = ((n - 1 : Nat) : Int) by omega]
      exact ih (n - 1, Mr5, (fnU h5 u false), (fnU d5 u []), dq + 1 + 1) ⟨⟨by dsimp only; omega, by dsimp only; omega, by dsimp only; omega⟩, hEq6⟩ (by dsimp only; omega)
    · refine xr_istore C dL_law_115 (by decide) rfl ?_
      refine xr_iload C dL_law_117 rfl ?_
      refine xr_if_ne C dL_law_119 rfl (by omega) (fun _ => ?_) (fun hq => absurd hq (by omega))
      refine xr_iload C dL_law_129 rfl ?_
      refine xr_iconst (n := 1) C dL_law_131 (by decide +kernel) ?_
      refine xr_icmp_ne C dL_law_132 rfl (by omega) (by omega) (fun hq => absurd hq (by omega)) (fun _ => ?_)
      refine xr_aload_n C dL_law_135 rfl ?_
      refine xr_iload C dL_law_136 rfl ?_
      refine xr_aload_n C dL_law_138 rfl ?_
      refine xr_bipush (n := 16) C dL_law_139 (by decide +kernel) ?_
      refine xr_callV1i C (l_draw l G sn sx x (La 0) b (dq + 1 + 1) (k.1 : Int) ka ca _ hEv4.D hG hsn (by omega) 16 (by decide)) (cwV 1 C.1.2.2.2.2 gL_law_X12_draw rfl rfl rfl (by decide +kernel) ⟨Nat.le_of_ble_eq_true rfl, Nat.le_of_ble_eq_true rfl⟩) hEv4.D rfl (Nat.le_of_ble_eq_true rfl) ⟨by dsimp only; omega, by dsimp only; omega⟩ dL_law_141 (fun v7 Mdv7 hpv7 => ?_)
      obtain ⟨hv7, hMv7⟩ := hpv7
      have hEv7 := hEv4.draw hB hMv7
      obtain ⟨j, rfl⟩ := Int.eq_ofNat_of_zero_le hv7.1
      refine xr_callV2i C (c_exchange l G La hB.1 [] k h5 d5 r _ hEv7.V u j (by omega) (by omega)) (cwV 2 C.1.2.2.2.2 gL_law_X11_exchange rfl rfl rfl (by decide +kernel) ⟨Nat.le_of_ble_eq_true rfl, Nat.le_of_ble_eq_true rfl⟩) hEv7.V.1 rfl (Nat.le_of_ble_eq_true rfl) ⟨by dsimp only; omega, by dsimp only; omega⟩ dL_law_144 (fun r8 Mr8 hpr8 => ?_)
      obtain ⟨rfl, hVq9, hFq9⟩ := hpr8
      have hEq9 := hEv7.vault hB hVq9 hFq9
      refine xr_pop C dL_law_147 rfl ?_
      refine xr_iload C dL_law_148 rfl ?_
      refine xr_iconst (n := 1) C dL_law_150 (by decide +kernel) ?_
      refine xr_icmp_le C dL_law_151 rfl (by omega) (by omega) (fun _ => ?_) (fun hq => absurd hq (by omega))
      refine xr_iinc C dL_law_270 rfl (by decide) rfl ?_
      refine xr_goto C dL_law_273 rfl ?_
      refine mq_drop 6 ?_
      refine mq_drop 7 ?_
      rw [show (n : Int) + -1 = ((n - 1 : Nat) : Int) by omega]
      exact ih (n - 1, Mr8, (swF h5 u j), (swF d5 u j), dq + 1 + 1 + 1) ⟨⟨by dsimp only; omega, by dsimp only; omega, by dsimp only; omega⟩, hEq9⟩ (by dsimp only; omega)
    · refine xr_istore C dL_law_115 (by decide) rfl ?_
      refine xr_iload C dL_law_117 rfl ?_
      refine xr_if_ne C dL_law_119 rfl (by omega) (fun _ => ?_) (fun hq => absurd hq (by omega))
      refine xr_iload C dL_law_129 rfl ?_
      refine xr_iconst (n := 1) C dL_law_131 (by decide +kernel) ?_
      refine xr_icmp_ne C dL_law_132 rfl (by omega) (by omega) (fun _ => ?_) (fun hq => absurd hq (by omega))
      refine xr_iload C dL_law_148 rfl ?_
      refine xr_iconst (n := 1) C dL_law_150 (by decide +kernel) ?_
      refine xr_icmp_le C dL_law_151 rfl (by omega) (by omega) (fun hq => absurd hq (by omega)) (fun _ => ?_)
      refine xr_aload_n C dL_law_154 rfl ?_
      refine xr_iload C dL_law_155 rfl ?_
      refine xr_callV1i C (c_sizeOf l G La hB.1 [] k h5 d5 r _ hEv4.V u (by omega)) (cwV 1 C.1.2.2.2.2 gL_law_X11_sizeOf rfl rfl rfl (by decide +kernel) ⟨Nat.le_of_ble_eq_true rfl, Nat.le_of_ble_eq_true rfl⟩) hEv4.V.1 rfl (Nat.le_of_ble_eq_true rfl) ⟨by dsimp only; omega, by dsimp only; omega⟩ dL_law_157 (fun r10 Mr10 hpr10 => ?_)
      obtain ⟨rfl, rfl⟩ := hpr10
      refine xr_if_le C dL_law_160 rfl (by omega) (fun hq11 => ?_) (fun hq11 => ?_)
      · refine xr_iinc C dL_law_270 rfl (by decide) rfl ?_
        refine xr_goto C dL_law_273 rfl ?_
        refine mq_drop 6 ?_
        refine mq_drop 7 ?_
        rw [show (n : Int) + -1 = ((n - 1 : Nat) : Int) by omega]
        exact ih (n - 1, Mdv4, h5, d5, dq + 1 + 1) ⟨⟨by dsimp only; omega, by dsimp only; omega, by dsimp only; omega⟩, hEv4⟩ (by dsimp only; omega)
      · obtain ⟨hh, hl, hvz⟩ := vsz_pos hq11
        refine xr_iload C dL_law_163 rfl ?_
        refine xr_iconst (n := 2) C dL_law_165 (by decide +kernel) ?_
        refine xr_icmp_ne C dL_law_166 rfl (by omega) (by omega) (fun hq => absurd hq (by omega)) (fun _ => ?_)
        refine xr_aload_n C dL_law_169 rfl ?_
        refine xr_iload C dL_law_170 rfl ?_
        refine xr_aload_n C dL_law_172 rfl ?_
        refine xr_bipush (n := 16) C dL_law_173 (by decide +kernel) ?_
        refine xr_callV1i C (l_draw l G sn sx x (La 0) b (dq + 1 + 1) (k.1 : Int) ka ca _ hEv4.D hG hsn (by omega) 16 (by decide)) (cwV 1 C.1.2.2.2.2 gL_law_X12_draw rfl rfl rfl (by decide +kernel) ⟨Nat.le_of_ble_eq_true rfl, Nat.le_of_ble_eq_true rfl⟩) hEv4.D rfl (Nat.le_of_ble_eq_true rfl) ⟨by dsimp only; omega, by dsimp only; omega⟩ dL_law_175 (fun v12 Mdv12 hpv12 => ?_)
        obtain ⟨hv12, hMv12⟩ := hpv12
        have hEv12 := hEv4.draw hB hMv12
        obtain ⟨j, rfl⟩ := Int.eq_ofNat_of_zero_le hv12.1
        refine xr_callV2i C (c_copy l G La hB.1 [] k h5 d5 r _ hEv12.V u j (by omega) (by omega) hh) (cwV 2 C.1.2.2.2.2 gL_law_X11_copy rfl rfl rfl (by decide +kernel) ⟨Nat.le_of_ble_eq_true rfl, Nat.le_of_ble_eq_true rfl⟩) hEv12.V.1 rfl (Nat.le_of_ble_eq_true rfl) ⟨by dsimp only; omega, by dsimp only; omega⟩ dL_law_178 (fun r13 Mr13 hpr13 => ?_)
        obtain ⟨hVq14, hFq14⟩ := hpr13
        have hEq14 := hEv12.vault hB hVq14 hFq14
        refine xr_pop C dL_law_181 rfl ?_
        refine xr_iload C dL_law_182 rfl ?_
        refine xr_iconst (n := 3) C dL_law_184 (by decide +kernel) ?_
        refine xr_icmp_ne C dL_law_185 rfl (by omega) (by omega) (fun _ => ?_) (fun hq => absurd hq (by omega))
        refine xr_iload C dL_law_207 rfl ?_
        refine xr_iconst (n := 3) C dL_law_209 (by decide +kernel) ?_
        refine xr_icmp_le C dL_law_210 rfl (by omega) (by omega) (fun _ => ?_) (fun hq => absurd hq (by omega))
        refine xr_iload C dL_law_246 rfl ?_
        refine xr_iconst (n := 5) C dL_law_248 (by decide +kernel) ?_
        refine xr_icmp_le C dL_law_249 rfl (by omega) (by omega) (fun _ => ?_) (fun hq => absurd hq (by omega))
        refine xr_iinc C dL_law_270 rfl (by decide) rfl ?_
        refine xr_goto C dL_law_273 rfl ?_
        refine mq_drop 6 ?_
        refine mq_drop 7 ?_
        rw [show (n : Int) + -1 = ((n - 1 : Nat) : Int) by omega]
        exact ih (n - 1, Mr13, (fnU h5 j (h5 u)), (fnU d5 j (d5 u)), dq + 1 + 1 + 1) ⟨⟨by dsimp only; omega, by dsimp only; omega, by dsimp only; omega⟩, hEq14⟩ (by dsimp only; omega)
    · refine xr_istore C dL_law_115 (by decide) rfl ?_
      refine xr_iload C dL_law_117 rfl ?_
      refine xr_if_ne C dL_law_119 rfl (by omega) (fun _ => ?_) (fun hq => absurd hq (by omega))
      refine xr_iload C dL_law_129 rfl ?_
      refine xr_iconst (n := 1) C dL_law_131 (by decide +kernel) ?_
      refine xr_icmp_ne C dL_law_132 rfl (by omega) (by omega) (fun _ => ?_) (fun hq => absurd hq (by omega))
      refine xr_iload C dL_law_148 rfl ?_
      refine xr_iconst (n := 1) C dL_law_150 (by decide +kernel) ?_
      refine xr_icmp_le C dL_law_151 rfl (by omega) (by omega) (fun hq => absurd hq (by omega)) (fun _ => ?_)
      refine xr_aload_n C dL_law_154 rfl ?_
      refine xr_iload C dL_law_155 rfl ?_
      refine xr_callV1i C (c_sizeOf l G La hB.1 [] k h5 d5 r _ hEv4.V u (by omega)) (cwV 1 C.1.2.2.2.2 gL_law_X11_sizeOf rfl rfl rfl (by decide +kernel) ⟨Nat.le_of_ble_eq_true rfl, Nat.le_of_ble_eq_true rfl⟩) hEv4.V.1 rfl (Nat.le_of_ble_eq_true rfl) ⟨by dsimp only; omega, by dsimp only; omega⟩ dL_law_157 (fun r15 Mr15 hpr15 => ?_)
      obtain ⟨rfl, rfl⟩ := hpr15
      refine xr_if_le C dL_law_160 rfl (by omega) (fun hq16 => ?_) (fun hq16 => ?_)
      · refine xr_iinc C dL_law_270 rfl (by decide) rfl ?_
        refine xr_goto C dL_law_273 rfl ?_
        refine mq_drop 6 ?_
        refine mq_drop 7 ?_
        rw [show (n : Int) + -1 = ((n - 1 : Nat) : Int) by omega]
        exact ih (n - 1, Mdv4, h5, d5, dq + 1 + 1) ⟨⟨by dsimp only; omega, by dsimp only; omega, by dsimp only; omega⟩, hEv4⟩ (by dsimp only; omega)
      · obtain ⟨hh, hl, hvz⟩ := vsz_pos hq16
        refine xr_iload C dL_law_163 rfl ?_
        refine xr_iconst (n := 2) C dL_law_165 (by decide +kernel) ?_
        refine xr_icmp_ne C dL_law_166 rfl (by omega) (by omega) (fun _ => ?_) (fun hq => absurd hq (by omega))
        refine xr_iload C dL_law_182 rfl ?_
        refine xr_iconst (n := 3) C dL_law_184 (by decide +kernel) ?_
        refine xr_icmp_ne C dL_law_185 rfl (by omega) (by omega) (fun hq => absurd hq (by omega)) (fun _ => ?_)
        refine xr_aload_n C dL_law_188 rfl ?_
        refine xr_iload C dL_law_189 rfl ?_
        refine xr_aload_n C dL_law_191 rfl ?_
        refine xr_aload_n C dL_law_192 rfl ?_
        refine xr_iload C dL_law_193 rfl ?_
        refine xr_callV1i C (c_sizeOf l G La hB.1 [] k h5 d5 r _ hEv4.V u (by omega)) (cwV 1 C.1.2.2.2.2 gL_law_X11_sizeOf rfl rfl rfl (by decide +kernel) ⟨Nat.le_of_ble_eq_true rfl, Nat.le_of_ble_eq_true rfl⟩) hEv4.V.1 rfl (Nat.le_of_ble_eq_true rfl) ⟨by dsimp only; omega, by dsimp only; omega⟩ dL_law_195 (fun r17 Mr17 hpr17 => ?_)
        obtain ⟨rfl, rfl⟩ := hpr17
        rw [hvz]
        refine xr_iconst (n := 1) C dL_law_198 (by decide +kernel) ?_
        refine xr_iadd C dL_law_199 ?_
        refine xr_callV1i C (l_draw l G sn sx x (La 0) b (dq + 1 + 1) (k.1 : Int) ka ca _ hEv4.D hG hsn (by omega) ((d5 u).length + 1 : Int) (by omega)) (cwV 1 C.1.2.2.2.2 gL_law_X12_draw rfl rfl rfl (by decide +kernel) ⟨Nat.le_of_ble_eq_true rfl, Nat.le_of_ble_eq_true rfl⟩) hEv4.D rfl (Nat.le_of_ble_eq_true rfl) ⟨by dsimp only; omega, by dsimp only; omega⟩ dL_law_200 (fun v18 Mdv18 hpv18 => ?_)
        obtain ⟨hv18, hMv18⟩ := hpv18
        have hEv18 := hEv4.draw hB hMv18
        obtain ⟨j, rfl⟩ := Int.eq_ofNat_of_zero_le hv18.1
        refine xr_callV2i C (c_cut l G La hB.1 [] k h5 d5 r _ hEv18.V u (by omega) hh j (by omega)) (cwV 2 C.1.2.2.2.2 gL_law_X11_cut rfl rfl rfl (by decide +kernel) ⟨Nat.le_of_ble_eq_true rfl, Nat.le_of_ble_eq_true rfl⟩) hEv18.V.1 rfl (Nat.le_of_ble_eq_true rfl) ⟨by dsimp only; omega, by dsimp only; omega⟩ dL_law_203 (fun r19 Mr19 hpr19 => ?_)
        obtain ⟨hVq20, hFq20⟩ := hpr19
        have hEq20 := hEv18.vault hB hVq20 hFq20
        refine xr_pop C dL_law_206 rfl ?_
        refine xr_iload C dL_law_207 rfl ?_
        refine xr_iconst (n := 3) C dL_law_209 (by decide +kernel) ?_
        refine xr_icmp_le C dL_law_210 rfl (by omega) (by omega) (fun _ => ?_) (fun hq => absurd hq (by omega))
        refine xr_iload C dL_law_246 rfl ?_
        refine xr_iconst (n := 5) C dL_law_248 (by decide +kernel) ?_
        refine xr_icmp_le C dL_law_249 rfl (by omega) (by omega) (fun _ => ?_) (fun hq => absurd hq (by omega))
        refine xr_iinc C dL_law_270 rfl (by decide) rfl ?_
        refine xr_goto C dL_law_273 rfl ?_
        refine mq_drop 6 ?_
        refine mq_drop 7 ?_
        rw [show (n : Int) + -1 = ((n - 1 : Nat) : Int) by omega]
        exact ih (n - 1, Mr19, h5, (fnU d5 u ((d5 u).take j)), dq + 1 + 1 + 1) ⟨⟨by dsimp only; omega, by dsimp only; omega, by dsimp only; omega⟩, hEq20⟩ (by dsimp only; omega)
    · refine xr_istore C dL_law_115 (by decide) rfl ?_
      refine xr_iload C dL_law_117 rfl ?_
      refine xr_if_ne C dL_law_119 rfl (by omega) (fun _ => ?_) (fun hq => absurd hq (by omega))
      refine xr_iload C dL_law_129 rfl ?_
      refine xr_iconst (n := 1) C dL_law_131 (by decide +kernel) ?_
      refine xr_icmp_ne C dL_law_132 rfl (by omega) (by omega) (fun _ => ?_) (fun hq => absurd hq (by omega))
      refine xr_iload C dL_law_148 rfl ?_
      refine xr_iconst (n := 1) C dL_law_150 (by decide +kernel) ?_
      refine xr_icmp_le C dL_law_151 rfl (by omega) (by omega) (fun hq => absurd hq (by omega)) (fun _ => ?_)
      refine xr_aload_n C dL_law_154 rfl ?_
      refine xr_iload C dL_law_155 rfl ?_
      refine xr_callV1i C (c_sizeOf l G La hB.1 [] k h5 d5 r _ hEv4.V u (by omega)) (cwV 1 C.1.2.2.2.2 gL_law_X11_sizeOf rfl rfl rfl (by decide +kernel) ⟨Nat.le_of_ble_eq_true rfl, Nat.le_of_ble_eq_true rfl⟩) hEv4.V.1 rfl (Nat.le_of_ble_eq_true rfl) ⟨by dsimp only; omega, by dsimp only; omega⟩ dL_law_157 (fun r21 Mr21 hpr21 => ?_)
      obtain ⟨rfl, rfl⟩ := hpr21
      refine xr_if_le C dL_law_160 rfl (by omega) (fun hq22 => ?_) (fun hq22 => ?_)
      · refine xr_iinc C dL_law_270 rfl (by decide) rfl ?_
        refine xr_goto C dL_law_273 rfl ?_
        refine mq_drop 6 ?_
        refine mq_drop 7 ?_
        rw [show (n : Int) + -1 = ((n - 1 : Nat) : Int) by omega]
        exact ih (n - 1, Mdv4, h5, d5, dq + 1 + 1) ⟨⟨by dsimp only; omega, by dsimp only; omega, by dsimp only; omega⟩, hEv4⟩ (by dsimp only; omega)
      · obtain ⟨hh, hl, hvz⟩ := vsz_pos hq22
        refine xr_iload C dL_law_163 rfl ?_
        refine xr_iconst (n := 2) C dL_law_165 (by decide +kernel) ?_
        refine xr_icmp_ne C dL_law_166 rfl (by omega) (by omega) (fun _ => ?_) (fun hq => absurd hq (by omega))
        refine xr_iload C dL_law_182 rfl ?_
        refine xr_iconst (n := 3) C dL_law_184 (by decide +kernel) ?_
        refine xr_icmp_ne C dL_law_185 rfl (by omega) (by omega) (fun _ => ?_) (fun hq => absurd hq (by omega))
        refine xr_iload C dL_law_207 rfl ?_
        refine xr_iconst (n := 3) C dL_law_209 (by decide +kernel) ?_
        refine xr_icmp_le C dL_law_210 rfl (by omega) (by omega) (fun hq => absurd hq (by omega)) (fun _ => ?_)
        refine xr_iload C dL_law_213 rfl ?_
        refine xr_bipush (n := 7) C dL_law_215 (by decide +kernel) ?_
        refine xr_icmp_ge C dL_law_217 rfl (by omega) (by omega) (fun hq => absurd hq (by omega)) (fun _ => ?_)
        refine xr_aload_n C dL_law_220 rfl ?_
        refine xr_iload C dL_law_221 rfl ?_
        refine xr_aload_n C dL_law_223 rfl ?_
        refine xr_aload_n C dL_law_224 rfl ?_
        refine xr_iload C dL_law_225 rfl ?_
        refine xr_callV1i C (c_sizeOf l G La hB.1 [] k h5 d5 r _ hEv4.V u (by omega)) (cwV 1 C.1.2.2.2.2 gL_law_X11_sizeOf rfl rfl rfl (by decide +kernel) ⟨Nat.le_of_ble_eq_true rfl, Nat.le_of_ble_eq_true rfl⟩) hEv4.V.1 rfl (Nat.le_of_ble_eq_true rfl) ⟨by dsimp only; omega, by dsimp only; omega⟩ dL_law_227 (fun r23 Mr23 hpr23 => ?_)
        obtain ⟨rfl, rfl⟩ := hpr23
        rw [hvz]
        refine xr_callV1i C (l_draw l G sn sx x (La 0) b (dq + 1 + 1) (k.1 : Int) ka ca _ hEv4.D hG hsn (by omega) ((d5 u).length : Int) (by omega)) (cwV 1 C.1.2.2.2.2 gL_law_X12_draw rfl rfl rfl (by decide +kernel) ⟨Nat.le_of_ble_eq_true rfl, Nat.le_of_ble_eq_true rfl⟩) hEv4.D rfl (Nat.le_of_ble_eq_true rfl) ⟨by dsimp only; omega, by dsimp only; omega⟩ dL_law_230 (fun v24 Mdv24 hpv24 => ?_)
        obtain ⟨hv24, hMv24⟩ := hpv24
        have hEv24 := hEv4.draw hB hMv24
        obtain ⟨j, rfl⟩ := Int.eq_ofNat_of_zero_le hv24.1
        refine xr_iconst (n := 1) C dL_law_233 (by decide +kernel) ?_
        refine xr_aload_n C dL_law_234 rfl ?_
        refine xr_sipush (n := 255) C dL_law_235 (by decide +kernel) ?_
        refine xr_callV1i C (l_draw l G sn sx x (La 0) b (dq + 1 + 1 + 1) (k.1 : Int) ka ca _ hEv24.D hG hsn (by omega) 255 (by decide)) (cwV 1 C.1.2.2.2.2 gL_law_X12_draw rfl rfl rfl (by decide +kernel) ⟨Nat.le_of_ble_eq_true rfl, Nat.le_of_ble_eq_true rfl⟩) hEv24.D rfl (Nat.le_of_ble_eq_true rfl) ⟨by dsimp only; omega, by dsimp only; omega⟩ dL_law_238 (fun v25 Mdv25 hpv25 => ?_)
        obtain ⟨hv25, hMv25⟩ := hpv25
        have hEv25 := hEv24.draw hB hMv25
        obtain ⟨w, rfl⟩ := Int.eq_ofNat_of_zero_le hv25.1
        refine xr_iadd C dL_law_241 ?_
        rw [show 1 + (w : Int) = ((1 + w : Nat) : Int) by omega]
        refine xr_callV3i C (c_spoil l G La hB.1 [] k h5 d5 r _ hEv25.V u (by omega) hh j (by omega) (1 + w) (by omega)) (cwV 3 C.1.2.2.2.2 gL_law_X11_spoil rfl rfl rfl (by decide +kernel) ⟨Nat.le_of_ble_eq_true rfl, Nat.le_of_ble_eq_true rfl⟩) hEv25.V.1 rfl (Nat.le_of_ble_eq_true rfl) ⟨by dsimp only; omega, by dsimp only; omega⟩ dL_law_242 (fun r26 Mr26 hpr26 => ?_)
        obtain ⟨hVq27, hFq27⟩ := hpr26
        have hEq27 := hEv25.vault hB hVq27 hFq27
        refine xr_pop C dL_law_245 rfl ?_
        refine xr_iload C dL_law_246 rfl ?_
        refine xr_iconst (n := 5) C dL_law_248 (by decide +kernel) ?_
        refine xr_icmp_le C dL_law_249 rfl (by omega) (by omega) (fun _ => ?_) (fun hq => absurd hq (by omega))
        refine xr_iinc C dL_law_270 rfl (by decide) rfl ?_
        refine xr_goto C dL_law_273 rfl ?_
        refine mq_drop 6 ?_
        refine mq_drop 7 ?_
        rw [show (n : Int) + -1 = ((n - 1 : Nat) : Int) by omega]
        exact ih (n - 1, Mr26, h5, (fnU d5 u ((d5 u).set j (mq_gd (d5 u) (j : Int) ^^^ (1 + w)))), dq + 1 + 1 + 1 + 1) ⟨⟨by dsimp only; omega, by dsimp only; omega, by dsimp only; omega⟩, hEq27⟩ (by dsimp only; omega)
    · refine xr_istore C dL_law_115 (by decide) rfl ?_
      refine xr_iload C dL_law_117 rfl ?_
      refine xr_if_ne C dL_law_119 rfl (by omega) (fun _ => ?_) (fun hq => absurd hq (by omega))
      refine xr_iload C dL_law_129 rfl ?_
      refine xr_iconst (n := 1) C dL_law_131 (by decide +kernel) ?_
      refine xr_icmp_ne C dL_law_132 rfl (by omega) (by omega) (fun _ => ?_) (fun hq => absurd hq (by omega))
      refine xr_iload C dL_law_148 rfl ?_
      refine xr_iconst (n := 1) C dL_law_150 (by decide +kernel) ?_
      refine xr_icmp_le C dL_law_151 rfl (by omega) (by omega) (fun hq => absurd hq (by omega)) (fun _ => ?_)
      refine xr_aload_n C dL_law_154 rfl ?_
      refine xr_iload C dL_law_155 rfl ?_
      refine xr_callV1i C (c_sizeOf l G La hB.1 [] k h5 d5 r _ hEv4.V u (by omega)) (cwV 1 C.1.2.2.2.2 gL_law_X11_sizeOf rfl rfl rfl (by decide +kernel) ⟨Nat.le_of_ble_eq_true rfl, Nat.le_of_ble_eq_true rfl⟩) hEv4.V.1 rfl (Nat.le_of_ble_eq_true rfl) ⟨by dsimp only; omega, by dsimp only; omega⟩ dL_law_157 (fun r28 Mr28 hpr28 => ?_)
      obtain ⟨rfl, rfl⟩ := hpr28
      refine xr_if_le C dL_law_160 rfl (by omega) (fun hq29 => ?_) (fun hq29 => ?_)
      · refine xr_iinc C dL_law_270 rfl (by decide) rfl ?_
        refine xr_goto C dL_law_273 rfl ?_
        refine mq_drop 6 ?_
        refine mq_drop 7 ?_
        rw [show (n : Int) + -1 = ((n - 1 : Nat) : Int) by omega]
        exact ih (n - 1, Mdv4, h5, d5, dq + 1 + 1) ⟨⟨by dsimp only; omega, by dsimp only; omega, by dsimp only; omega⟩, hEv4⟩ (by dsimp only; omega)
      · obtain ⟨hh, hl, hvz⟩ := vsz_pos hq29
        refine xr_iload C dL_law_163 rfl ?_
        refine xr_iconst (n := 2) C dL_law_165 (by decide +kernel) ?_
        refine xr_icmp_ne C dL_law_166 rfl (by omega) (by omega) (fun _ => ?_) (fun hq => absurd hq (by omega))
        refine xr_iload C dL_law_182 rfl ?_
        refine xr_iconst (n := 3) C dL_law_184 (by decide +kernel) ?_
        refine xr_icmp_ne C dL_law_185 rfl (by omega) (by omega) (fun _ => ?_) (fun hq => absurd hq (by omega))
        refine xr_iload C dL_law_207 rfl ?_
        refine xr_iconst (n := 3) C dL_law_209 (by decide +kernel) ?_
        refine xr_icmp_le C dL_law_210 rfl (by omega) (by omega) (fun hq => absurd hq (by omega)) (fun _ => ?_)
        refine xr_iload C dL_law_213 rfl ?_
        refine xr_bipush (n := 7) C dL_law_215 (by decide +kernel) ?_
        refine xr_icmp_ge C dL_law_217 rfl (by omega) (by omega) (fun hq => absurd hq (by omega)) (fun _ => ?_)
        refine xr_aload_n C dL_law_220 rfl ?_
        refine xr_iload C dL_law_221 rfl ?_
        refine xr_aload_n C dL_law_223 rfl ?_
        refine xr_aload_n C dL_law_224 rfl ?_
        refine xr_iload C dL_law_225 rfl ?_
        refine xr_callV1i C (c_sizeOf l G La hB.1 [] k h5 d5 r _ hEv4.V u (by omega)) (cwV 1 C.1.2.2.2.2 gL_law_X11_sizeOf rfl rfl rfl (by decide +kernel) ⟨Nat.le_of_ble_eq_true rfl, Nat.le_of_ble_eq_true rfl⟩) hEv4.V.1 rfl (Nat.le_of_ble_eq_true rfl) ⟨by dsimp only; omega, by dsimp only; omega⟩ dL_law_227 (fun r30 Mr30 hpr30 => ?_)
        obtain ⟨rfl, rfl⟩ := hpr30
        rw [hvz]
        refine xr_callV1i C (l_draw l G sn sx x (La 0) b (dq + 1 + 1) (k.1 : Int) ka ca _ hEv4.D hG hsn (by omega) ((d5 u).length : Int) (by omega)) (cwV 1 C.1.2.2.2.2 gL_law_X12_draw rfl rfl rfl (by decide +kernel) ⟨Nat.le_of_ble_eq_true rfl, Nat.le_of_ble_eq_true rfl⟩) hEv4.D rfl (Nat.le_of_ble_eq_true rfl) ⟨by dsimp only; omega, by dsimp only; omega⟩ dL_law_230 (fun v31 Mdv31 hpv31 => ?_)
        obtain ⟨hv31, hMv31⟩ := hpv31
        have hEv31 := hEv4.draw hB hMv31
        obtain ⟨j, rfl⟩ := Int.eq_ofNat_of_zero_le hv31.1
        refine xr_iconst (n := 1) C dL_law_233 (by decide +kernel) ?_
        refine xr_aload_n C dL_law_234 rfl ?_
        refine xr_sipush (n := 255) C dL_law_235 (by decide +kernel) ?_
        refine xr_callV1i C (l_draw l G sn sx x (La 0) b (dq + 1 + 1 + 1) (k.1 : Int) ka ca _ hEv31.D hG hsn (by omega) 255 (by decide)) (cwV 1 C.1.2.2.2.2 gL_law_X12_draw rfl rfl rfl (by decide +kernel) ⟨Nat.le_of_ble_eq_true rfl, Nat.le_of_ble_eq_true rfl⟩) hEv31.D rfl (Nat.le_of_ble_eq_true rfl) ⟨by dsimp only; omega, by dsimp only; omega⟩ dL_law_238 (fun v32 Mdv32 hpv32 => ?_)
        obtain ⟨hv32, hMv32⟩ := hpv32
        have hEv32 := hEv31.draw hB hMv32
        obtain ⟨w, rfl⟩ := Int.eq_ofNat_of_zero_le hv32.1
        refine xr_iadd C dL_law_241 ?_
        rw [show 1 + (w : Int) = ((1 + w : Nat) : Int) by omega]
        refine xr_callV3i C (c_spoil l G La hB.1 [] k h5 d5 r _ hEv32.V u (by omega) hh j (by omega) (1 + w) (by omega)) (cwV 3 C.1.2.2.2.2 gL_law_X11_spoil rfl rfl rfl (by decide +kernel) ⟨Nat.le_of_ble_eq_true rfl, Nat.le_of_ble_eq_true rfl⟩) hEv32.V.1 rfl (Nat.le_of_ble_eq_true rfl) ⟨by dsimp only; omega, by dsimp only; omega⟩ dL_law_242 (fun r33 Mr33 hpr33 => ?_)
        obtain ⟨hVq34, hFq34⟩ := hpr33
        have hEq34 := hEv32.vault hB hVq34 hFq34
        refine xr_pop C dL_law_245 rfl ?_
        refine xr_iload C dL_law_246 rfl ?_
        refine xr_iconst (n := 5) C dL_law_248 (by decide +kernel) ?_
        refine xr_icmp_le C dL_law_249 rfl (by omega) (by omega) (fun _ => ?_) (fun hq => absurd hq (by omega))
        refine xr_iinc C dL_law_270 rfl (by decide) rfl ?_
        refine xr_goto C dL_law_273 rfl ?_
        refine mq_drop 6 ?_
        refine mq_drop 7 ?_
        rw [show (n : Int) + -1 = ((n - 1 : Nat) : Int) by omega]
        exact ih (n - 1, Mr33, h5, (fnU d5 u ((d5 u).set j (mq_gd (d5 u) (j : Int) ^^^ (1 + w)))), dq + 1 + 1 + 1 + 1) ⟨⟨by dsimp only; omega, by dsimp only; omega, by dsimp only; omega⟩, hEq34⟩ (by dsimp only; omega)
    · refine xr_istore C dL_law_115 (by decide) rfl ?_
      refine xr_iload C dL_law_117 rfl ?_
      refine xr_if_ne C dL_law_119 rfl (by omega) (fun _ => ?_) (fun hq => absurd hq (by omega))
      refine xr_iload C dL_law_129 rfl ?_
      refine xr_iconst (n := 1) C dL_law_131 (by decide +kernel) ?_
      refine xr_icmp_ne C dL_law_132 rfl (by omega) (by omega) (fun _ => ?_) (fun hq => absurd hq (by omega))
      refine xr_iload C dL_law_148 rfl ?_
      refine xr_iconst (n := 1) C dL_law_150 (by decide +kernel) ?_
      refine xr_icmp_le C dL_law_151 rfl (by omega) (by omega) (fun hq => absurd hq (by omega)) (fun _ => ?_)
      refine xr_aload_n C dL_law_154 rfl ?_
      refine xr_iload C dL_law_155 rfl ?_
      refine xr_callV1i C (c_sizeOf l G La hB.1 [] k h5 d5 r _ hEv4.V u (by omega)) (cwV 1 C.1.2.2.2.2 gL_law_X11_sizeOf rfl rfl rfl (by decide +kernel) ⟨Nat.le_of_ble_eq_true rfl, Nat.le_of_ble_eq_true rfl⟩) hEv4.V.1 rfl (Nat.le_of_ble_eq_true rfl) ⟨by dsimp only; omega, by dsimp only; omega⟩ dL_law_157 (fun r35 Mr35 hpr35 => ?_)
      obtain ⟨rfl, rfl⟩ := hpr35
      refine xr_if_le C dL_law_160 rfl (by omega) (fun hq36 => ?_) (fun hq36 => ?_)
      · refine xr_iinc C dL_law_270 rfl (by decide) rfl ?_
        refine xr_goto C dL_law_273 rfl ?_
        refine mq_drop 6 ?_
        refine mq_drop 7 ?_
        rw [show (n : Int) + -1 = ((n - 1 : Nat) : Int) by omega]
        exact ih (n - 1, Mdv4, h5, d5, dq + 1 + 1) ⟨⟨by dsimp only; omega, by dsimp only; omega, by dsimp only; omega⟩, hEv4⟩ (by dsimp only; omega)
      · obtain ⟨hh, hl, hvz⟩ := vsz_pos hq36
        refine xr_iload C dL_law_163 rfl ?_
        refine xr_iconst (n := 2) C dL_law_165 (by decide +kernel) ?_
        refine xr_icmp_ne C dL_law_166 rfl (by omega) (by omega) (fun _ => ?_) (fun hq => absurd hq (by omega))
        refine xr_iload C dL_law_182 rfl ?_
        refine xr_iconst (n := 3) C dL_law_184 (by decide +kernel) ?_
        refine xr_icmp_ne C dL_law_185 rfl (by omega) (by omega) (fun _ => ?_) (fun hq => absurd hq (by omega))
        refine xr_iload C dL_law_207 rfl ?_
        refine xr_iconst (n := 3) C dL_law_209 (by decide +kernel) ?_
        refine xr_icmp_le C dL_law_210 rfl (by omega) (by omega) (fun hq => absurd hq (by omega)) (fun _ => ?_)
        refine xr_iload C dL_law_213 rfl ?_
        refine xr_bipush (n := 7) C dL_law_215 (by decide +kernel) ?_
        refine xr_icmp_ge C dL_law_217 rfl (by omega) (by omega) (fun hq => absurd hq (by omega)) (fun _ => ?_)
        refine xr_aload_n C dL_law_220 rfl ?_
        refine xr_iload C dL_law_221 rfl ?_
        refine xr_aload_n C dL_law_223 rfl ?_
        refine xr_aload_n C dL_law_224 rfl ?_
        refine xr_iload C dL_law_225 rfl ?_
        refine xr_callV1i C (c_sizeOf l G La hB.1 [] k h5 d5 r _ hEv4.V u (by omega)) (cwV 1 C.1.2.2.2.2 gL_law_X11_sizeOf rfl rfl rfl (by decide +kernel) ⟨Nat.le_of_ble_eq_true rfl, Nat.le_of_ble_eq_true rfl⟩) hEv4.V.1 rfl (Nat.le_of_ble_eq_true rfl) ⟨by dsimp only; omega, by dsimp only; omega⟩ dL_law_227 (fun r37 Mr37 hpr37 => ?_)
        obtain ⟨rfl, rfl⟩ := hpr37
        rw [hvz]
        refine xr_callV1i C (l_draw l G sn sx x (La 0) b (dq + 1 + 1) (k.1 : Int) ka ca _ hEv4.D hG hsn (by omega) ((d5 u).length : Int) (by omega)) (cwV 1 C.1.2.2.2.2 gL_law_X12_draw rfl rfl rfl (by decide +kernel) ⟨Nat.le_of_ble_eq_true rfl, Nat.le_of_ble_eq_true rfl⟩) hEv4.D rfl (Nat.le_of_ble_eq_true rfl) ⟨by dsimp only; omega, by dsimp only; omega⟩ dL_law_230 (fun v38 Mdv38 hpv38 => ?_)
        obtain ⟨hv38, hMv38⟩ := hpv38
        have hEv38 := hEv4.draw hB hMv38
        obtain ⟨j, rfl⟩ := Int.eq_ofNat_of_zero_le hv38.1
        refine xr_iconst (n := 1) C dL_law_233 (by decide +kernel) ?_
        refine xr_aload_n C dL_law_234 rfl ?_
        refine xr_sipush (n := 255) C dL_law_235 (by decide +kernel) ?_
        refine xr_callV1i C (l_draw l G sn sx x (La 0) b (dq + 1 + 1 + 1) (k.1 : Int) ka ca _ hEv38.D hG hsn (by omega) 255 (by decide)) (cwV 1 C.1.2.2.2.2 gL_law_X12_draw rfl rfl rfl (by decide +kernel) ⟨Nat.le_of_ble_eq_true rfl, Nat.le_of_ble_eq_true rfl⟩) hEv38.D rfl (Nat.le_of_ble_eq_true rfl) ⟨by dsimp only; omega, by dsimp only; omega⟩ dL_law_238 (fun v39 Mdv39 hpv39 => ?_)
        obtain ⟨hv39, hMv39⟩ := hpv39
        have hEv39 := hEv38.draw hB hMv39
        obtain ⟨w, rfl⟩ := Int.eq_ofNat_of_zero_le hv39.1
        refine xr_iadd C dL_law_241 ?_
        rw [show 1 + (w : Int) = ((1 + w : Nat) : Int) by omega]
        refine xr_callV3i C (c_spoil l G La hB.1 [] k h5 d5 r _ hEv39.V u (by omega) hh j (by omega) (1 + w) (by omega)) (cwV 3 C.1.2.2.2.2 gL_law_X11_spoil rfl rfl rfl (by decide +kernel) ⟨Nat.le_of_ble_eq_true rfl, Nat.le_of_ble_eq_true rfl⟩) hEv39.V.1 rfl (Nat.le_of_ble_eq_true rfl) ⟨by dsimp only; omega, by dsimp only; omega⟩ dL_law_242 (fun r40 Mr40 hpr40 => ?_)
        obtain ⟨hVq41, hFq41⟩ := hpr40
        have hEq41 := hEv39.vault hB hVq41 hFq41
        refine xr_pop C dL_law_245 rfl ?_
        refine xr_iload C dL_law_246 rfl ?_
        refine xr_iconst (n := 5) C dL_law_248 (by decide +kernel) ?_
        refine xr_icmp_le C dL_law_249 rfl (by omega) (by omega) (fun hq => absurd hq (by omega)) (fun _ => ?_)
        refine xr_aload_n C dL_law_252 rfl ?_
        refine xr_iload C dL_law_253 rfl ?_
        have hby6 := hEq41.V.bt (i := u) (by omega)
        have hzr6 := vsz_rng (h := h5 u) hby6.2
        refine xr_callV1i C (c_sizeOf l G La hB.1 [] k h5 (fnU d5 u ((d5 u).set j (mq_gd (d5 u) (j : Int) ^^^ (1 + w)))) r _ hEq41.V u (by omega)) (cwV 1 C.1.2.2.2.2 gL_law_X11_sizeOf rfl rfl rfl (by decide +kernel) ⟨Nat.le_of_ble_eq_true rfl, Nat.le_of_ble_eq_true rfl⟩) hEq41.V.1 rfl (Nat.le_of_ble_eq_true rfl) ⟨by dsimp only; omega, by dsimp only; omega⟩ dL_law_255 (fun r42 Mr42 hpr42 => ?_)
        obtain ⟨rfl, rfl⟩ := hpr42
        refine xr_bipush (n := 9) C dL_law_258 (by decide +kernel) ?_
        refine xr_icmp_le C dL_law_260 rfl (by omega) (by omega) (fun hq43 => ?_) (fun hq43 => ?_)
        · refine xr_iinc C dL_law_270 rfl (by decide) rfl ?_
          refine xr_goto C dL_law_273 rfl ?_
          refine mq_drop 6 ?_
          refine mq_drop 7 ?_
          rw [show (n : Int) + -1 = ((n - 1 : Nat) : Int) by omega]
          exact ih (n - 1, Mr40, h5, (fnU d5 u ((d5 u).set j (mq_gd (d5 u) (j : Int) ^^^ (1 + w)))), dq + 1 + 1 + 1 + 1) ⟨⟨by dsimp only; omega, by dsimp only; omega, by dsimp only; omega⟩, hEq41⟩ (by dsimp only; omega)
        · obtain ⟨hh6, hl6, hvz6⟩ := vsz_pos (h := h5 u) (d := (fnU d5 u ((d5 u).set j (mq_gd (d5 u) (j : Int) ^^^ (1 + w)))) u) (by omega)
          refine xr_aload_n C dL_law_263 rfl ?_
          refine xr_iload C dL_law_264 rfl ?_
          refine xr_callV1i C (c_sign l G La hB.1 [] k h5 (fnU d5 u ((d5 u).set j (mq_gd (d5 u) (j : Int) ^^^ (1 + w)))) r _ hEq41.V u (by omega) hh (by omega)) (cwV 1 C.1.2.2.2.2 gL_law_X11_sign rfl rfl rfl (by decide +kernel) ⟨Nat.le_of_ble_eq_true rfl, Nat.le_of_ble_eq_true rfl⟩) hEq41.V.1 rfl (Nat.le_of_ble_eq_true rfl) ⟨by dsimp only; omega, by dsimp only; omega⟩ dL_law_266 (fun r44 Mr44 hpr44 => ?_)
          obtain ⟨hVq45, hFq45⟩ := hpr44
          have hEq45 := hEq41.vault hB hVq45 hFq45
          refine xr_pop C dL_law_269 rfl ?_
          refine xr_iinc C dL_law_270 rfl (by decide) rfl ?_
          refine xr_goto C dL_law_273 rfl ?_
          refine mq_drop 6 ?_
          refine mq_drop 7 ?_
          rw [show (n : Int) + -1 = ((n - 1 : Nat) : Int) by omega]
          exact ih (n - 1, Mr44, h5, (fnU (fnU d5 u ((d5 u).set j (mq_gd (d5 u) (j : Int) ^^^ (1 + w)))) u ((((fnU d5 u ((d5 u).set j (mq_gd (d5 u) (j : Int) ^^^ (1 + w)))) u).set 8 (vChk ((fnU d5 u ((d5 u).set j (mq_gd (d5 u) (j : Int) ^^^ (1 + w)))) u) / 256)).set 9 (vChk ((fnU d5 u ((d5 u).set j (mq_gd (d5 u) (j : Int) ^^^ (1 + w)))) u) % 256))), dq + 1 + 1 + 1 + 1) ⟨⟨by dsimp only; omega, by dsimp only; omega, by dsimp only; omega⟩, hEq45⟩ (by dsimp only; omega)
    · refine xr_istore C dL_law_115 (by decide) rfl ?_
      refine xr_iload C dL_law_117 rfl ?_
      refine xr_if_ne C dL_law_119 rfl (by omega) (fun _ => ?_) (fun hq => absurd hq (by omega))
      refine xr_iload C dL_law_129 rfl ?_
      refine xr_iconst (n := 1) C dL_law_131 (by decide +kernel) ?_
      refine xr_icmp_ne C dL_law_132 rfl (by omega) (by omega) (fun _ => ?_) (fun hq => absurd hq (by omega))
      refine xr_iload C dL_law_148 rfl ?_
      refine xr_iconst (n := 1) C dL_law_150 (by decide +kernel) ?_
      refine xr_icmp_le C dL_law_151 rfl (by omega) (by omega) (fun hq => absurd hq (by omega)) (fun _ => ?_)
      refine xr_aload_n C dL_law_154 rfl ?_
      refine xr_iload C dL_law_155 rfl ?_
      refine xr_callV1i C (c_sizeOf l G La hB.1 [] k h5 d5 r _ hEv4.V u (by omega)) (cwV 1 C.1.2.2.2.2 gL_law_X11_sizeOf rfl rfl rfl (by decide +kernel) ⟨Nat.le_of_ble_eq_true rfl, Nat.le_of_ble_eq_true rfl⟩) hEv4.V.1 rfl (Nat.le_of_ble_eq_true rfl) ⟨by dsimp only; omega, by dsimp only; omega⟩ dL_law_157 (fun r46 Mr46 hpr46 => ?_)
      obtain ⟨rfl, rfl⟩ := hpr46
      refine xr_if_le C dL_law_160 rfl (by omega) (fun hq47 => ?_) (fun hq47 => ?_)
      · refine xr_iinc C dL_law_270 rfl (by decide) rfl ?_
        refine xr_goto C dL_law_273 rfl ?_
        refine mq_drop 6 ?_
        refine mq_drop 7 ?_
        rw [show (n : Int) + -1 = ((n - 1 : Nat) : Int) by omega]
        exact ih (n - 1, Mdv4, h5, d5, dq + 1 + 1) ⟨⟨by dsimp only; omega, by dsimp only; omega, by dsimp only; omega⟩, hEv4⟩ (by dsimp only; omega)
      · obtain ⟨hh, hl, hvz⟩ := vsz_pos hq47
        refine xr_iload C dL_law_163 rfl ?_
        refine xr_iconst (n := 2) C dL_law_165 (by decide +kernel) ?_
        refine xr_icmp_ne C dL_law_166 rfl (by omega) (by omega) (fun _ => ?_) (fun hq => absurd hq (by omega))
        refine xr_iload C dL_law_182 rfl ?_
        refine xr_iconst (n := 3) C dL_law_184 (by decide +kernel) ?_
        refine xr_icmp_ne C dL_law_185 rfl (by omega) (by omega) (fun _ => ?_) (fun hq => absurd hq (by omega))
        refine xr_iload C dL_law_207 rfl ?_
        refine xr_iconst (n := 3) C dL_law_209 (by decide +kernel) ?_
        refine xr_icmp_le C dL_law_210 rfl (by omega) (by omega) (fun hq => absurd hq (by omega)) (fun _ => ?_)
        refine xr_iload C dL_law_213 rfl ?_
        refine xr_bipush (n := 7) C dL_law_215 (by decide +kernel) ?_
        refine xr_icmp_ge C dL_law_217 rfl (by omega) (by omega) (fun _ => ?_) (fun hq => absurd hq (by omega))
        refine xr_iload C dL_law_246 rfl ?_
        refine xr_iconst (n := 5) C dL_law_248 (by decide +kernel) ?_
        refine xr_icmp_le C dL_law_249 rfl (by omega) (by omega) (fun hq => absurd hq (by omega)) (fun _ => ?_)
        refine xr_aload_n C dL_law_252 rfl ?_
        refine xr_iload C dL_law_253 rfl ?_
        have hby6 := hEv4.V.bt (i := u) (by omega)
        have hzr6 := vsz_rng (h := h5 u) hby6.2
        refine xr_callV1i C (c_sizeOf l G La hB.1 [] k h5 d5 r _ hEv4.V u (by omega)) (cwV 1 C.1.2.2.2.2 gL_law_X11_sizeOf rfl rfl rfl (by decide +kernel) ⟨Nat.le_of_ble_eq_true rfl, Nat.le_of_ble_eq_true rfl⟩) hEv4.V.1 rfl (Nat.le_of_ble_eq_true rfl) ⟨by dsimp only; omega, by dsimp only; omega⟩ dL_law_255 (fun r48 Mr48 hpr48 => ?_)
        obtain ⟨rfl, rfl⟩ := hpr48
        refine xr_bipush (n := 9) C dL_law_258 (by decide +kernel) ?_
        refine xr_icmp_le C dL_law_260 rfl (by omega) (by omega) (fun hq49 => ?_) (fun hq49 => ?_)
        · refine xr_iinc C dL_law_270 rfl (by decide) rfl ?_
          refine xr_goto C dL_law_273 rfl ?_
          refine mq_drop 6 ?_
          refine mq_drop 7 ?_
          rw [show (n : Int) + -1 = ((n - 1 : Nat) : Int) by omega]
          exact ih (n - 1, Mdv4, h5, d5, dq + 1 + 1) ⟨⟨by dsimp only; omega, by dsimp only; omega, by dsimp only; omega⟩, hEv4⟩ (by dsimp only; omega)
        · obtain ⟨hh6, hl6, hvz6⟩ := vsz_pos (h := h5 u) (d := d5 u) (by omega)
          refine xr_aload_n C dL_law_263 rfl ?_
          refine xr_iload C dL_law_264 rfl ?_
          refine xr_callV1i C (c_sign l G La hB.1 [] k h5 d5 r _ hEv4.V u (by omega) hh (by omega)) (cwV 1 C.1.2.2.2.2 gL_law_X11_sign rfl rfl rfl (by decide +kernel) ⟨Nat.le_of_ble_eq_true rfl, Nat.le_of_ble_eq_true rfl⟩) hEv4.V.1 rfl (Nat.le_of_ble_eq_true rfl) ⟨by dsimp only; omega, by dsimp only; omega⟩ dL_law_266 (fun r50 Mr50 hpr50 => ?_)
          obtain ⟨hVq51, hFq51⟩ := hpr50
          have hEq51 := hEv4.vault hB hVq51 hFq51
          refine xr_pop C dL_law_269 rfl ?_
          refine xr_iinc C dL_law_270 rfl (by decide) rfl ?_
          refine xr_goto C dL_law_273 rfl ?_
          refine mq_drop 6 ?_
          refine mq_drop 7 ?_
          rw [show (n : Int) + -1 = ((n - 1 : Nat) : Int) by omega]
          exact ih (n - 1, Mr50, h5, (fnU d5 u (((d5 u).set 8 (vChk (d5 u) / 256)).set 9 (vChk (d5 u) % 256))), dq + 1 + 1) ⟨⟨by dsimp only; omega, by dsimp only; omega, by dsimp only; omega⟩, hEq51⟩ (by dsimp only; omega)
