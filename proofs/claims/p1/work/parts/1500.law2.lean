/-! ===== p1: the law's cases ===== -/
theorem mdI.frU {G : mq_G} {M M' : mq_M} {Mb : Nat → Nat} {t : Int} (h : mdI G M Mb t) (hF : ∀ i, mbU i = true → i ≠ 39 → M' (Mb i) = M (Mb i)) : mdI G M' Mb t := by
  unfold mdI
  rw [hF 0 (by decide) (by decide), hF 1 (by decide) (by decide), hF 2 (by decide) (by decide), hF 3 (by decide) (by decide), hF 4 (by decide) (by decide), hF 5 (by decide) (by decide), hF 6 (by decide) (by decide), hF 14 (by decide) (by decide), hF 15 (by decide) (by decide), hF 20 (by decide) (by decide)]
  exact h
theorem lg_cmp_rf (x : Int64) : lg_cmp x x = zI 0 := by
  unfold lg_cmp
  rw [if_neg (by simp [gt_iff_lt, Int64.lt_iff_toInt_lt]), if_pos rfl]
  exact zI_0.symm
section LBR
variable {p : Program} {l : Launch} {e : Env} {R : Room} {s : State} {m : MethodId} {args : Array Value} {below : List Frame} {meth : Method} {c : Code} {Q : State → Prop}
variable {cc : ByteArray} {nL : Nat} {Ts : List Cond} {own : String} {D : va_G} {tys : mq_Y} {z : Nat} {H0 : Heap} {cells slots : Nat} {M : mq_M} {pc : Nat} {L : List (Option Value)} {st : List Value}
theorem xr_sldv (C : mq_C p m c cc nL s args Ts own D tys z) {b n : Nat} {xs : Nat → Int32} {i v : Int} (hX : mq_sc b n xs z s s.heap) (hi0 : 0 ≤ i) (hi1 : i < n) (hn : n < 2147483648) (hv : xs i.toNat = zI v) (d : decode cc pc = .ok (.iaload, 1))
    (k : mq_X p l e R s m args below meth c Q nL D z H0 cells slots M (pc + 1) L (.int (zI v) :: st)) : mq_X p l e R s m args below meth c Q nL D z H0 cells slots M pc L (.int (zI i) :: .ref b :: st) :=
  xr_sld C hX hi0 hi1 hn d (by rw [hv]; exact k)
end LBR
set_option maxHeartbeats 4000000 in
set_option maxRecDepth 100000 in
theorem lb_0 {p : Program} {e : Env} {s : State} {m : MethodId} {args : Array Value} {below : List Frame} {meth : Method} {c : Code} {Q : State → Prop} {z : Nat} (l : Launch) (hlt : l.stackTraces = false) (G : mq_G) (sb sn : Nat) (sx : Nat → Int32) (hG : pG G sb sn sx) (hA : pA G) (hn : sn = 4) (La : Nat → Nat) (hI : mq_inj La) (Mb : Nat → Nat) (hb : mb_inj Mb) (hLM : ∀ r, r < 275 → ∀ i, mbU i = true → Mb i ≠ La r) (M : mq_M) (hV : vF G M La) (hD : mdI G M Mb 0) (hO : lwO G M (Mb 39) none)
    (C : mq_C p m c cL_law 9 s args wsL_law RL G.1.1 (mq_tys G) z) (cells slots : Nat) (hc : cells ≤ 1000) (hs : slots ≤ 1000000)
    (kk : ∀ (M2 : mq_M) (cells2 slots2 : Nat), cells2 ≤ 2000 → slots2 ≤ 2000000 → mq_X p l e { frames := 12, cells := 600002, slots := 7302232, locals := 436 } s m args below meth c Q 9 G.1.1 z s.heap cells2 slots2 M2 2554 [some (.ref sb), some (.ref (La 0)), some (.ref (Mb 0)), some (.ref (Mb 39)), some (.int (zI 0)), none, none, none, none] []) : mq_X p l e { frames := 12, cells := 600002, slots := 7302232, locals := 436 } s m args below meth c Q 9 G.1.1 z s.heap cells slots M 232 [some (.ref sb), some (.ref (La 0)), some (.ref (Mb 0)), some (.ref (Mb 39)), some (.int (zI 0)), none, none, none, none] [] := by
  subst hn
  obtain ⟨a, ea, har⟩ := zI_of (sx 1)
  obtain ⟨b, eb, hbr⟩ := zI_of (sx 2)
  by_cases hv : (0 ≤ a ∧ a ≤ 255) ∧ (0 ≤ b ∧ b ≤ 255)
  · refine xr_aload_n C dL_law_232 rfl ?_
    refine xr_aload_n C dL_law_233 rfl ?_
    refine xr_iload C dL_law_234 rfl ?_
    refine xr_iconst (n := 1) C dL_law_236 (by decide +kernel) ?_
    refine xr_iadd C dL_law_237 ?_
    refine xr_sldv C (hG.old C).1 (by omega) (by omega) (by omega) (by exact ea) dL_law_238 ?_
    refine xr_aload_n C dL_law_239 rfl ?_
    refine xr_iload C dL_law_240 rfl ?_
    refine xr_iconst (n := 2) C dL_law_242 (by decide +kernel) ?_
    refine xr_iadd C dL_law_243 ?_
    refine xr_sldv C (hG.old C).1 (by omega) (by omega) (by omega) (by exact eb) dL_law_244 ?_
    refine xr_aload_n C dL_law_245 rfl ?_
    refine xr_callXH4i C (h_product l hlt G sb 4 sx hG hA La hI M hV (Mb 39) (fun r9 hr9 => hLM r9 hr9 39 (by decide)) hO a har b hbr) (vx_cwSW 4 C.1.2.2.2.2 gL_law_L_product rfl rfl rfl (by decide +kernel) ⟨Nat.le_of_ble_eq_true rfl, Nat.le_of_ble_eq_true rfl⟩) (Nat.le_of_ble_eq_true rfl) ⟨by dsimp only; omega, by dsimp only; omega⟩ dL_law_246 (fun _ _ h9 => h9.elim) (fun k9 M9 hp9 => ?_)
    obtain ⟨hk9, hO9, hF9⟩ := hp9
    rw [if_pos hv] at hk9 hO9
    subst hk9
    obtain ⟨g9, hg9, hv9⟩ := hO9
    have hD9 : mdI G M9 Mb 0 := (hD.frU (fun i9 hi9 h9 => hF9 (Mb i9) (fun h8 => absurd (hb _ _ hi9 (by decide) h8) h9) (fun r9 hr9 => hLM r9 hr9 i9 hi9)))
    refine xr_istore C dL_law_249 (by decide) rfl ?_
    refine xr_aload_n C dL_law_251 rfl ?_
    refine xr_aload_n C dL_law_252 rfl ?_
    refine xr_iload C dL_law_253 rfl ?_
    refine xr_iconst (n := 1) C dL_law_255 (by decide +kernel) ?_
    refine xr_iadd C dL_law_256 ?_
    refine xr_sldv C (hG.old C).1 (by omega) (by omega) (by omega) (by exact ea) dL_law_257 ?_
    refine xr_aload_n C dL_law_258 rfl ?_
    refine xr_iload C dL_law_259 rfl ?_
    refine xr_iconst (n := 2) C dL_law_261 (by decide +kernel) ?_
    refine xr_iadd C dL_law_262 ?_
    refine xr_sldv C (hG.old C).1 (by omega) (by omega) (by omega) (by exact eb) dL_law_263 ?_
    refine xr_callV2i C (m_product l G Mb hb 0 M9 hD9 a har b hbr) (cwV 2 C.1.2.2.2.2 gL_law_X12_product rfl rfl rfl (by decide +kernel) ⟨Nat.le_of_ble_eq_true rfl, Nat.le_of_ble_eq_true rfl⟩) hD9.1 rfl (Nat.le_of_ble_eq_true rfl) ⟨by dsimp only; omega, by dsimp only; omega⟩ dL_law_264 (fun r8 M8 hp8 => ?_)
    obtain ⟨hr8, hQ8⟩ := hp8
    rw [if_pos hv] at hr8 hQ8
    obtain ⟨⟨vs8, hT8⟩, h39⟩ := hQ8
    have e8 := hr8 rfl
    subst e8
    refine xr_istore C dL_law_267 (by decide) rfl ?_
    refine xr_aload_n C dL_law_269 rfl ?_
    refine xr_callV0i C (m_thrown l G M8 (Mb 0) 0 vs8 hT8) (cwV 0 C.1.2.2.2.2 gL_law_X12_thrown rfl rfl rfl (by decide +kernel) ⟨Nat.le_of_ble_eq_true rfl, Nat.le_of_ble_eq_true rfl⟩) hT8 rfl (Nat.le_of_ble_eq_true rfl) ⟨by dsimp only; omega, by dsimp only; omega⟩ dL_law_270 (fun t8 M7 hp7 => ?_)
    obtain ⟨rfl, rfl⟩ := hp7
    refine xr_iload C dL_law_273 rfl ?_
    refine xr_icmp_eq C dL_law_275 rfl (by decide) (by decide) (fun _ => ?_) (fun hq => absurd hq (by omega))
    refine xr_iload C dL_law_280 rfl ?_
    refine xr_if_ne C dL_law_282 rfl (by decide) (fun hq => absurd hq (by decide)) (fun _ => ?_)
    refine xr_aload_n C dL_law_285 rfl ?_
    refine xr_iconst (n := 0) C dL_law_286 (by decide +kernel) ?_
    have hg8 : M8 (Mb 39) = some (.inl (gJ G, 1, .inr (.inl g9))) := h39.trans hg9
    refine xr_lald C hg8 hA.J (by decide) (by decide) (by decide) dL_law_287 ?_
    refine xr_iload C dL_law_288 rfl ?_
    refine xr_i2l C dL_law_290 ?_
    refine xr_lcmp (w := 0) C dL_law_291 (by rw [show g9 (0 : Int).toNat = _ from hv9 _ rfl]; exact lg_cmp_rf _) ?_
    refine xr_if_eq C dL_law_292 rfl (by decide) (fun _ => ?_) (fun hq => absurd hq (by decide))
    refine xr_goto C dL_law_297 rfl ?_
    refine mq_drop 5 ?_
    refine mq_drop 6 ?_
    exact kk _ _ _ (by omega) (by omega)
  · refine xr_aload_n C dL_law_232 rfl ?_
    refine xr_aload_n C dL_law_233 rfl ?_
    refine xr_iload C dL_law_234 rfl ?_
    refine xr_iconst (n := 1) C dL_law_236 (by decide +kernel) ?_
    refine xr_iadd C dL_law_237 ?_
    refine xr_sldv C (hG.old C).1 (by omega) (by omega) (by omega) (by exact ea) dL_law_238 ?_
    refine xr_aload_n C dL_law_239 rfl ?_
    refine xr_iload C dL_law_240 rfl ?_
    refine xr_iconst (n := 2) C dL_law_242 (by decide +kernel) ?_
    refine xr_iadd C dL_law_243 ?_
    refine xr_sldv C (hG.old C).1 (by omega) (by omega) (by omega) (by exact eb) dL_law_244 ?_
    refine xr_aload_n C dL_law_245 rfl ?_
    refine xr_callXH4i C (h_product l hlt G sb 4 sx hG hA La hI M hV (Mb 39) (fun r9 hr9 => hLM r9 hr9 39 (by decide)) hO a har b hbr) (vx_cwSW 4 C.1.2.2.2.2 gL_law_L_product rfl rfl rfl (by decide +kernel) ⟨Nat.le_of_ble_eq_true rfl, Nat.le_of_ble_eq_true rfl⟩) (Nat.le_of_ble_eq_true rfl) ⟨by dsimp only; omega, by dsimp only; omega⟩ dL_law_246 (fun _ _ h9 => h9.elim) (fun k9 M9 hp9 => ?_)
    obtain ⟨hk9, hO9, hF9⟩ := hp9
    rw [if_neg hv] at hk9 hO9
    subst hk9
    obtain ⟨g9, hg9, hv9⟩ := hO9
    have hD9 : mdI G M9 Mb 0 := (hD.frU (fun i9 hi9 h9 => hF9 (Mb i9) (fun h8 => absurd (hb _ _ hi9 (by decide) h8) h9) (fun r9 hr9 => hLM r9 hr9 i9 hi9)))
    refine xr_istore C dL_law_249 (by decide) rfl ?_
    refine xr_aload_n C dL_law_251 rfl ?_
    refine xr_aload_n C dL_law_252 rfl ?_
    refine xr_iload C dL_law_253 rfl ?_
    refine xr_iconst (n := 1) C dL_law_255 (by decide +kernel) ?_
    refine xr_iadd C dL_law_256 ?_
    refine xr_sldv C (hG.old C).1 (by omega) (by omega) (by omega) (by exact ea) dL_law_257 ?_
    refine xr_aload_n C dL_law_258 rfl ?_
    refine xr_iload C dL_law_259 rfl ?_
    refine xr_iconst (n := 2) C dL_law_261 (by decide +kernel) ?_
    refine xr_iadd C dL_law_262 ?_
    refine xr_sldv C (hG.old C).1 (by omega) (by omega) (by omega) (by exact eb) dL_law_263 ?_
    refine xr_callV2i C (m_product l G Mb hb 0 M9 hD9 a har b hbr) (cwV 2 C.1.2.2.2.2 gL_law_X12_product rfl rfl rfl (by decide +kernel) ⟨Nat.le_of_ble_eq_true rfl, Nat.le_of_ble_eq_true rfl⟩) hD9.1 rfl (Nat.le_of_ble_eq_true rfl) ⟨by dsimp only; omega, by dsimp only; omega⟩ dL_law_264 (fun r8 M8 hp8 => ?_)
    obtain ⟨hr8, hQ8⟩ := hp8
    rw [if_neg hv] at hr8 hQ8
    obtain ⟨⟨vs8, hT8⟩, h39⟩ := hQ8
    refine xr_istore C dL_law_267 (by decide) rfl ?_
    refine xr_aload_n C dL_law_269 rfl ?_
    refine xr_callV0i C (m_thrown l G M8 (Mb 0) 1 vs8 hT8) (cwV 0 C.1.2.2.2.2 gL_law_X12_thrown rfl rfl rfl (by decide +kernel) ⟨Nat.le_of_ble_eq_true rfl, Nat.le_of_ble_eq_true rfl⟩) hT8 rfl (Nat.le_of_ble_eq_true rfl) ⟨by dsimp only; omega, by dsimp only; omega⟩ dL_law_270 (fun t8 M7 hp7 => ?_)
    obtain ⟨rfl, rfl⟩ := hp7
    refine xr_iload C dL_law_273 rfl ?_
    refine xr_icmp_eq C dL_law_275 rfl (by decide) (by decide) (fun _ => ?_) (fun hq => absurd hq (by omega))
    refine xr_iload C dL_law_280 rfl ?_
    refine xr_if_ne C dL_law_282 rfl (by decide) (fun _ => ?_) (fun hq => absurd hq (by decide))
    refine xr_goto C dL_law_297 rfl ?_
    refine mq_drop 5 ?_
    refine mq_drop 6 ?_
    exact kk _ _ _ (by omega) (by omega)
set_option maxHeartbeats 4000000 in
set_option maxRecDepth 100000 in
theorem lb_8 {p : Program} {e : Env} {s : State} {m : MethodId} {args : Array Value} {below : List Frame} {meth : Method} {c : Code} {Q : State → Prop} {z : Nat} (l : Launch) (hlt : l.stackTraces = false) (G : mq_G) (sb sn : Nat) (sx : Nat → Int32) (hG : pG G sb sn sx) (hA : pA G) (hn : sn = 4) (La : Nat → Nat) (hI : mq_inj La) (Mb : Nat → Nat) (hb : mb_inj Mb) (hLM : ∀ r, r < 275 → ∀ i, mbU i = true → Mb i ≠ La r) (M : mq_M) (hV : vF G M La) (hD : mdI G M Mb 0) (hO : lwO G M (Mb 39) none)
    (C : mq_C p m c cL_law 9 s args wsL_law RL G.1.1 (mq_tys G) z) (cells slots : Nat) (hc : cells ≤ 1000) (hs : slots ≤ 1000000)
    (kk : ∀ (M2 : mq_M) (cells2 slots2 : Nat), cells2 ≤ 2000 → slots2 ≤ 2000000 → mq_X p l e { frames := 12, cells := 600002, slots := 7302232, locals := 436 } s m args below meth c Q 9 G.1.1 z s.heap cells2 slots2 M2 2554 [some (.ref sb), some (.ref (La 0)), some (.ref (Mb 0)), some (.ref (Mb 39)), some (.int (zI 0)), none, none, none, none] []) : mq_X p l e { frames := 12, cells := 600002, slots := 7302232, locals := 436 } s m args below meth c Q 9 G.1.1 z s.heap cells slots M 740 [some (.ref sb), some (.ref (La 0)), some (.ref (Mb 0)), some (.ref (Mb 39)), some (.int (zI 0)), none, none, none, none] [] := by
  subst hn
  obtain ⟨i, ei, hir⟩ := zI_of (sx 1)
  refine xr_aload_n C dL_law_740 rfl ?_
  refine xr_aload_n C dL_law_741 rfl ?_
  refine xr_iload C dL_law_742 rfl ?_
  refine xr_iconst (n := 1) C dL_law_744 (by decide +kernel) ?_
  refine xr_iadd C dL_law_745 ?_
  refine xr_sldv C (hG.old C).1 (by omega) (by omega) (by omega) (by exact ei) dL_law_746 ?_
  refine xr_callV1i C (c_remove l G La hI M hV i) (cwV 1 C.1.2.2.2.2 gL_law_X11_remove rfl rfl rfl (by decide +kernel) ⟨Nat.le_of_ble_eq_true rfl, Nat.le_of_ble_eq_true rfl⟩) hV.1 rfl (Nat.le_of_ble_eq_true rfl) ⟨by dsimp only; omega, by dsimp only; omega⟩ dL_law_747 (fun r9 M9 hp9 => ?_)
  obtain ⟨rfl, rfl⟩ := hp9
  refine xr_aload_n C dL_law_750 rfl ?_
  refine xr_aload_n C dL_law_751 rfl ?_
  refine xr_iload C dL_law_752 rfl ?_
  refine xr_iconst (n := 1) C dL_law_754 (by decide +kernel) ?_
  refine xr_iadd C dL_law_755 ?_
  refine xr_sldv C (hG.old C).1 (by omega) (by omega) (by omega) (by exact ei) dL_law_756 ?_
  refine xr_callV1i C (m_remove l G Mb hb 0 M hD i hir) (cwV 1 C.1.2.2.2.2 gL_law_X12_remove rfl rfl rfl (by decide +kernel) ⟨Nat.le_of_ble_eq_true rfl, Nat.le_of_ble_eq_true rfl⟩) hD.1 rfl (Nat.le_of_ble_eq_true rfl) ⟨by dsimp only; omega, by dsimp only; omega⟩ dL_law_757 (fun r8 M8 hp8 => ?_)
  obtain ⟨hr8, -⟩ := hp8
  have e8 := hr8 rfl
  subst e8
  refine xr_icmp_eq C dL_law_760 rfl (by decide) (by decide) (fun _ => ?_) (fun hq => absurd hq (by omega))
  exact kk _ _ _ (by omega) (by omega)
set_option maxHeartbeats 4000000 in
set_option maxRecDepth 100000 in
theorem lb_43 {p : Program} {e : Env} {s : State} {m : MethodId} {args : Array Value} {below : List Frame} {meth : Method} {c : Code} {Q : State → Prop} {z : Nat} (l : Launch) (hlt : l.stackTraces = false) (G : mq_G) (sb sn : Nat) (sx : Nat → Int32) (hG : pG G sb sn sx) (hA : pA G) (hn : sn = 4) (La : Nat → Nat) (hI : mq_inj La) (Mb : Nat → Nat) (hb : mb_inj Mb) (hLM : ∀ r, r < 275 → ∀ i, mbU i = true → Mb i ≠ La r) (M : mq_M) (hV : vF G M La) (hD : mdI G M Mb 0) (hO : lwO G M (Mb 39) none)
    (C : mq_C p m c cL_law 9 s args wsL_law RL G.1.1 (mq_tys G) z) (cells slots : Nat) (hc : cells ≤ 1000) (hs : slots ≤ 1000000)
    (kk : ∀ (M2 : mq_M) (cells2 slots2 : Nat), cells2 ≤ 2000 → slots2 ≤ 2000000 → mq_X p l e { frames := 12, cells := 600002, slots := 7302232, locals := 436 } s m args below meth c Q 9 G.1.1 z s.heap cells2 slots2 M2 2554 [some (.ref sb), some (.ref (La 0)), some (.ref (Mb 0)), some (.ref (Mb 39)), some (.int (zI 0)), none, none, none, none] []) : mq_X p l e { frames := 12, cells := 600002, slots := 7302232, locals := 436 } s m args below meth c Q 9 G.1.1 z s.heap cells slots M 2499 [some (.ref sb), some (.ref (La 0)), some (.ref (Mb 0)), some (.ref (Mb 39)), some (.int (zI 0)), none, none, none, none] [] := by
  subst hn
  refine xr_aload_n C dL_law_2499 rfl ?_
  refine xr_callV0d C (c_cost l G La hI M hV) (cwV 0 C.1.2.2.2.2 gL_law_X11_cost rfl rfl rfl (by decide +kernel) ⟨Nat.le_of_ble_eq_true rfl, Nat.le_of_ble_eq_true rfl⟩) hV.1 rfl (Nat.le_of_ble_eq_true rfl) ⟨by dsimp only; omega, by dsimp only; omega⟩ dL_law_2500 (fun r9 M9 hp9 => ?_)
  obtain ⟨rfl, rfl⟩ := hp9
  refine xr_dstore C dL_law_2503 (by decide) rfl ?_
  refine xr_aload_n C dL_law_2505 rfl ?_
  refine xr_callV0d C (m_cost l G hA Mb hb 0 M hD) (cwV 0 C.1.2.2.2.2 gL_law_X12_cost rfl rfl rfl (by decide +kernel) ⟨Nat.le_of_ble_eq_true rfl, Nat.le_of_ble_eq_true rfl⟩) hD.1 rfl (Nat.le_of_ble_eq_true rfl) ⟨by dsimp only; omega, by dsimp only; omega⟩ dL_law_2506 (fun r8 M8 hp8 => ?_)
  obtain ⟨rfl, -⟩ := hp8
  refine xr_dstore C dL_law_2509 (by decide) rfl ?_
  refine xr_dload C dL_law_2511 rfl ?_
  refine xr_dload C dL_law_2513 rfl ?_
  refine xr_dcmp (w := 0) C dL_law_2515 (by decide +kernel) ?_
  refine xr_if_eq C dL_law_2516 rfl (by decide) (fun _ => ?_) (fun hq => absurd hq (by decide))
  refine xr_goto C dL_law_2537 rfl ?_
  refine mq_drop 5 ?_
  refine mq_drop 7 ?_
  exact kk _ _ _ (by omega) (by omega)
set_option maxHeartbeats 4000000 in
set_option maxRecDepth 100000 in
theorem lb_44 {p : Program} {e : Env} {s : State} {m : MethodId} {args : Array Value} {below : List Frame} {meth : Method} {c : Code} {Q : State → Prop} {z : Nat} (l : Launch) (hlt : l.stackTraces = false) (G : mq_G) (sb sn : Nat) (sx : Nat → Int32) (hG : pG G sb sn sx) (hA : pA G) (hn : sn = 4) (La : Nat → Nat) (hI : mq_inj La) (Mb : Nat → Nat) (hb : mb_inj Mb) (hLM : ∀ r, r < 275 → ∀ i, mbU i = true → Mb i ≠ La r) (M : mq_M) (hV : vF G M La) (hD : mdI G M Mb 0) (hO : lwO G M (Mb 39) none)
    (C : mq_C p m c cL_law 9 s args wsL_law RL G.1.1 (mq_tys G) z) (cells slots : Nat) (hc : cells ≤ 1000) (hs : slots ≤ 1000000)
    (kk : ∀ (M2 : mq_M) (cells2 slots2 : Nat), cells2 ≤ 2000 → slots2 ≤ 2000000 → mq_X p l e { frames := 12, cells := 600002, slots := 7302232, locals := 436 } s m args below meth c Q 9 G.1.1 z s.heap cells2 slots2 M2 2554 [some (.ref sb), some (.ref (La 0)), some (.ref (Mb 0)), some (.ref (Mb 39)), some (.int (zI 0)), none, none, none, none] []) : mq_X p l e { frames := 12, cells := 600002, slots := 7302232, locals := 436 } s m args below meth c Q 9 G.1.1 z s.heap cells slots M 2540 [some (.ref sb), some (.ref (La 0)), some (.ref (Mb 0)), some (.ref (Mb 39)), some (.int (zI 0)), none, none, none, none] [] := by
  subst hn
  refine xr_aload_n C dL_law_2540 rfl ?_
  refine xr_callV0l C (c_digest l G La hI [] vk0 (fun _ => false) (fun _ => []) vr0 M hV) (cwV 0 C.1.2.2.2.2 gL_law_X11_digest rfl rfl rfl (by decide +kernel) ⟨Nat.le_of_ble_eq_true rfl, Nat.le_of_ble_eq_true rfl⟩) hV.1 rfl (Nat.le_of_ble_eq_true rfl) ⟨by dsimp only; omega, by dsimp only; omega⟩ dL_law_2541 (fun r9 M9 hp9 => ?_)
  obtain ⟨rfl, -, hF9⟩ := hp9
  have hD9 : mdI G M9 Mb 0 := (hD.frU (fun i9 hi9 h9 => hF9 (Mb i9) (fun hm => by obtain ⟨r, hr, e⟩ := List.mem_map.mp hm; exact hLM r (vtA_l r hr) i9 hi9 e.symm)))
  refine xr_aload_n C dL_law_2544 rfl ?_
  refine xr_callV0l C (m_digest l G hA Mb hb 0 M9 hD9) (cwV 0 C.1.2.2.2.2 gL_law_X12_digest rfl rfl rfl (by decide +kernel) ⟨Nat.le_of_ble_eq_true rfl, Nat.le_of_ble_eq_true rfl⟩) hD9.1 rfl (Nat.le_of_ble_eq_true rfl) ⟨by dsimp only; omega, by dsimp only; omega⟩ dL_law_2545 (fun r8 M8 hp8 => ?_)
  obtain ⟨rfl, -⟩ := hp8
  refine xr_lcmp (w := 0) C dL_law_2548 (by rw [mdg_class]; exact lg_cmp_rf _) ?_
  refine xr_if_eq C dL_law_2549 rfl (by decide) (fun _ => ?_) (fun hq => absurd hq (by decide))
  exact kk _ _ _ (by omega) (by omega)
set_option maxHeartbeats 4000000 in
set_option maxRecDepth 100000 in
theorem lb_23 {p : Program} {e : Env} {s : State} {m : MethodId} {args : Array Value} {below : List Frame} {meth : Method} {c : Code} {Q : State → Prop} {z : Nat} (l : Launch) (hlt : l.stackTraces = false) (G : mq_G) (sb sn : Nat) (sx : Nat → Int32) (hG : pG G sb sn sx) (hA : pA G) (hn : sn = 4) (La : Nat → Nat) (hI : mq_inj La) (Mb : Nat → Nat) (hb : mb_inj Mb) (hLM : ∀ r, r < 275 → ∀ i, mbU i = true → Mb i ≠ La r) (M : mq_M) (hV : vF G M La) (hD : mdI G M Mb 0) (hO : lwO G M (Mb 39) none)
    (C : mq_C p m c cL_law 9 s args wsL_law RL G.1.1 (mq_tys G) z) (cells slots : Nat) (hc : cells ≤ 1000) (hs : slots ≤ 1000000)
    (kk : ∀ (M2 : mq_M) (cells2 slots2 : Nat), cells2 ≤ 2000 → slots2 ≤ 2000000 → mq_X p l e { frames := 12, cells := 600002, slots := 7302232, locals := 436 } s m args below meth c Q 9 G.1.1 z s.heap cells2 slots2 M2 2554 [some (.ref sb), some (.ref (La 0)), some (.ref (Mb 0)), some (.ref (Mb 39)), some (.int (zI 0)), none, none, none, none] []) : mq_X p l e { frames := 12, cells := 600002, slots := 7302232, locals := 436 } s m args below meth c Q 9 G.1.1 z s.heap cells slots M 1547 [some (.ref sb), some (.ref (La 0)), some (.ref (Mb 0)), some (.ref (Mb 39)), some (.int (zI 0)), none, none, none, none] [] := by
  subst hn
  obtain ⟨i, ei, hir⟩ := zI_of (sx 1)
  by_cases hv : 0 ≤ i ∧ i ≤ 15
  · refine xr_aload_n C dL_law_1547 rfl ?_
    refine xr_aload_n C dL_law_1548 rfl ?_
    refine xr_iload C dL_law_1549 rfl ?_
    refine xr_iconst (n := 1) C dL_law_1551 (by decide +kernel) ?_
    refine xr_iadd C dL_law_1552 ?_
    refine xr_sldv C (hG.old C).1 (by omega) (by omega) (by omega) (by exact ei) dL_law_1553 ?_
    refine xr_aload_n C dL_law_1554 rfl ?_
    refine xr_callXH3i C (h_lose l hlt G sb 4 sx hG hA La hI M hV (Mb 39) (fun r9 hr9 => hLM r9 hr9 39 (by decide)) hO i hir) (vx_cwSW 3 C.1.2.2.2.2 gL_law_L_lose rfl rfl rfl (by decide +kernel) ⟨Nat.le_of_ble_eq_true rfl, Nat.le_of_ble_eq_true rfl⟩) (Nat.le_of_ble_eq_true rfl) ⟨by dsimp only; omega, by dsimp only; omega⟩ dL_law_1555 (fun _ _ h9 => h9.elim) (fun k9 M9 hp9 => ?_)
    obtain ⟨hk9, hO9, hF9⟩ := hp9
    rw [if_pos hv] at hk9 hO9
    subst hk9
    obtain ⟨g9, hg9, hv9⟩ := hO9
    have hD9 : mdI G M9 Mb 0 := (hD.frU (fun i9 hi9 h9 => hF9 (Mb i9) (fun h8 => absurd (hb _ _ hi9 (by decide) h8) h9) (fun r9 hr9 => hLM r9 hr9 i9 hi9)))
    refine xr_istore C dL_law_1558 (by decide) rfl ?_
    refine xr_aload_n C dL_law_1560 rfl ?_
    refine xr_aload_n C dL_law_1561 rfl ?_
    refine xr_iload C dL_law_1562 rfl ?_
    refine xr_iconst (n := 1) C dL_law_1564 (by decide +kernel) ?_
    refine xr_iadd C dL_law_1565 ?_
    refine xr_sldv C (hG.old C).1 (by omega) (by omega) (by omega) (by exact ei) dL_law_1566 ?_
    refine xr_callV1i C (m_lose l G Mb hb 0 M9 hD9 i hir) (cwV 1 C.1.2.2.2.2 gL_law_X12_lose rfl rfl rfl (by decide +kernel) ⟨Nat.le_of_ble_eq_true rfl, Nat.le_of_ble_eq_true rfl⟩) hD9.1 rfl (Nat.le_of_ble_eq_true rfl) ⟨by dsimp only; omega, by dsimp only; omega⟩ dL_law_1567 (fun r8 M8 hp8 => ?_)
    obtain ⟨hr8, hQ8⟩ := hp8
    rw [if_pos hv] at hr8 hQ8
    obtain ⟨⟨vs8, hT8⟩, h39⟩ := hQ8
    have e8 := hr8 rfl
    subst e8
    refine xr_istore C dL_law_1570 (by decide) rfl ?_
    refine xr_aload_n C dL_law_1572 rfl ?_
    refine xr_callV0i C (m_thrown l G M8 (Mb 0) 0 vs8 hT8) (cwV 0 C.1.2.2.2.2 gL_law_X12_thrown rfl rfl rfl (by decide +kernel) ⟨Nat.le_of_ble_eq_true rfl, Nat.le_of_ble_eq_true rfl⟩) hT8 rfl (Nat.le_of_ble_eq_true rfl) ⟨by dsimp only; omega, by dsimp only; omega⟩ dL_law_1573 (fun t8 M7 hp7 => ?_)
    obtain ⟨rfl, rfl⟩ := hp7
    refine xr_iload C dL_law_1576 rfl ?_
    refine xr_icmp_eq C dL_law_1578 rfl (by decide) (by decide) (fun _ => ?_) (fun hq => absurd hq (by omega))
    refine xr_iload C dL_law_1583 rfl ?_
    refine xr_if_ne C dL_law_1585 rfl (by decide) (fun hq => absurd hq (by decide)) (fun _ => ?_)
    refine xr_aload_n C dL_law_1588 rfl ?_
    refine xr_iconst (n := 0) C dL_law_1589 (by decide +kernel) ?_
    have hg8 : M8 (Mb 39) = some (.inl (gJ G, 1, .inr (.inl g9))) := h39.trans hg9
    refine xr_lald C hg8 hA.J (by decide) (by decide) (by decide) dL_law_1590 ?_
    refine xr_iload C dL_law_1591 rfl ?_
    refine xr_if_eq C dL_law_1593 rfl (by decide) (fun _ => ?_) (fun hq => absurd hq (by decide))
    refine xr_lconst C dL_law_1600 rfl ?_
    refine xr_lcmp (w := 0) C dL_law_1601 (by rw [show g9 (0 : Int).toNat = _ from hv9 _ rfl]; exact lg_cmp_rf _) ?_
    refine xr_if_eq C dL_law_1602 rfl (by decide) (fun _ => ?_) (fun hq => absurd hq (by decide))
    refine xr_goto C dL_law_1607 rfl ?_
    refine mq_drop 5 ?_
    refine mq_drop 6 ?_
    exact kk _ _ _ (by omega) (by omega)
  · refine xr_aload_n C dL_law_1547 rfl ?_
    refine xr_aload_n C dL_law_1548 rfl ?_
    refine xr_iload C dL_law_1549 rfl ?_
    refine xr_iconst (n := 1) C dL_law_1551 (by decide +kernel) ?_
    refine xr_iadd C dL_law_1552 ?_
    refine xr_sldv C (hG.old C).1 (by omega) (by omega) (by omega) (by exact ei) dL_law_1553 ?_
    refine xr_aload_n C dL_law_1554 rfl ?_
    refine xr_callXH3i C (h_lose l hlt G sb 4 sx hG hA La hI M hV (Mb 39) (fun r9 hr9 => hLM r9 hr9 39 (by decide)) hO i hir) (vx_cwSW 3 C.1.2.2.2.2 gL_law_L_lose rfl rfl rfl (by decide +kernel) ⟨Nat.le_of_ble_eq_true rfl, Nat.le_of_ble_eq_true rfl⟩) (Nat.le_of_ble_eq_true rfl) ⟨by dsimp only; omega, by dsimp only; omega⟩ dL_law_1555 (fun _ _ h9 => h9.elim) (fun k9 M9 hp9 => ?_)
    obtain ⟨hk9, hO9, hF9⟩ := hp9
    rw [if_neg hv] at hk9 hO9
    subst hk9
    obtain ⟨g9, hg9, hv9⟩ := hO9
    have hD9 : mdI G M9 Mb 0 := (hD.frU (fun i9 hi9 h9 => hF9 (Mb i9) (fun h8 => absurd (hb _ _ hi9 (by decide) h8) h9) (fun r9 hr9 => hLM r9 hr9 i9 hi9)))
    refine xr_istore C dL_law_1558 (by decide) rfl ?_
    refine xr_aload_n C dL_law_1560 rfl ?_
    refine xr_aload_n C dL_law_1561 rfl ?_
    refine xr_iload C dL_law_1562 rfl ?_
    refine xr_iconst (n := 1) C dL_law_1564 (by decide +kernel) ?_
    refine xr_iadd C dL_law_1565 ?_
    refine xr_sldv C (hG.old C).1 (by omega) (by omega) (by omega) (by exact ei) dL_law_1566 ?_
    refine xr_callV1i C (m_lose l G Mb hb 0 M9 hD9 i hir) (cwV 1 C.1.2.2.2.2 gL_law_X12_lose rfl rfl rfl (by decide +kernel) ⟨Nat.le_of_ble_eq_true rfl, Nat.le_of_ble_eq_true rfl⟩) hD9.1 rfl (Nat.le_of_ble_eq_true rfl) ⟨by dsimp only; omega, by dsimp only; omega⟩ dL_law_1567 (fun r8 M8 hp8 => ?_)
    obtain ⟨hr8, hQ8⟩ := hp8
    rw [if_neg hv] at hr8 hQ8
    obtain ⟨⟨vs8, hT8⟩, h39⟩ := hQ8
    refine xr_istore C dL_law_1570 (by decide) rfl ?_
    refine xr_aload_n C dL_law_1572 rfl ?_
    refine xr_callV0i C (m_thrown l G M8 (Mb 0) 1 vs8 hT8) (cwV 0 C.1.2.2.2.2 gL_law_X12_thrown rfl rfl rfl (by decide +kernel) ⟨Nat.le_of_ble_eq_true rfl, Nat.le_of_ble_eq_true rfl⟩) hT8 rfl (Nat.le_of_ble_eq_true rfl) ⟨by dsimp only; omega, by dsimp only; omega⟩ dL_law_1573 (fun t8 M7 hp7 => ?_)
    obtain ⟨rfl, rfl⟩ := hp7
    refine xr_iload C dL_law_1576 rfl ?_
    refine xr_icmp_eq C dL_law_1578 rfl (by decide) (by decide) (fun _ => ?_) (fun hq => absurd hq (by omega))
    refine xr_iload C dL_law_1583 rfl ?_
    refine xr_if_ne C dL_law_1585 rfl (by decide) (fun _ => ?_) (fun hq => absurd hq (by decide))
    refine xr_goto C dL_law_1607 rfl ?_
    refine mq_drop 5 ?_
    refine mq_drop 6 ?_
    exact kk _ _ _ (by omega) (by omega)
