set_option maxHeartbeats 4000000 in
set_option maxRecDepth 100000 in
theorem lb_31 {p : Program} {e : Env} {s : State} {m : MethodId} {args : Array Value} {below : List Frame} {meth : Method} {c : Code} {Q : State → Prop} {z : Nat} (l : Launch) (hlt : l.stackTraces = false) (G : mq_G) (sb sn : Nat) (sx : Nat → Int32) (hG : pG G sb sn sx) (hA : pA G) (hn : sn = 4) (La : Nat → Nat) (hI : mq_inj La) (Mb : Nat → Nat) (hb : mb_inj Mb) (hLM : ∀ r, r < 275 → ∀ i, mbU i = true → Mb i ≠ La r) (M : mq_M) (hV : vF G M La) (hD : mdI G M Mb 0) (hO : lwO G M (Mb 39) none)
    (C : mq_C p m c cL_law 9 s args wsL_law RL G.1.1 (mq_tys G) z) (cells slots : Nat) (hc : cells ≤ 1000) (hs : slots ≤ 1000000)
    (kk : ∀ (M2 : mq_M) (cells2 slots2 : Nat), cells2 ≤ 2000 → slots2 ≤ 2000000 → mq_X p l e { frames := 12, cells := 600002, slots := 7302232, locals := 436 } s m args below meth c Q 9 G.1.1 z s.heap cells2 slots2 M2 2554 [some (.ref sb), some (.ref (La 0)), some (.ref (Mb 0)), some (.ref (Mb 39)), some (.int (zI 0)), none, none, none, none] []) : mq_X p l e { frames := 12, cells := 600002, slots := 7302232, locals := 436 } s m args below meth c Q 9 G.1.1 z s.heap cells slots M 1904 [some (.ref sb), some (.ref (La 0)), some (.ref (Mb 0)), some (.ref (Mb 39)), some (.int (zI 0)), none, none, none, none] [] := by
  subst hn
  refine xr_aload_n C dL_law_1904 rfl ?_
  refine xr_aload_n C dL_law_1905 rfl ?_
  refine xr_callXH2i C (h_repair l hlt G sb 4 sx hG hA La hI M hV (Mb 39) (fun r9 hr9 => hLM r9 hr9 39 (by decide)) hO) (vx_cwSW 2 C.1.2.2.2.2 gL_law_L_repair rfl rfl rfl (by decide +kernel) ⟨Nat.le_of_ble_eq_true rfl, Nat.le_of_ble_eq_true rfl⟩) (Nat.le_of_ble_eq_true rfl) ⟨by dsimp only; omega, by dsimp only; omega⟩ dL_law_1906 (fun _ _ h9 => h9.elim) (fun k9 M9 hp9 => ?_)
  obtain ⟨rfl, hO9, hF9⟩ := hp9
  obtain ⟨g9, hg9, hv9⟩ := hO9
  have hD9 : mdI G M9 Mb 0 := (hD.frU (fun i9 hi9 h9 => hF9 (Mb i9) (fun h8 => absurd (hb _ _ hi9 (by decide) h8) h9) (fun r9 hr9 => hLM r9 hr9 i9 hi9)))
  refine xr_istore C dL_law_1909 (by decide) rfl ?_
  refine xr_aload_n C dL_law_1911 rfl ?_
  refine xr_callV0i C (m_repair l G Mb hb 0 M9 hD9) (cwV 0 C.1.2.2.2.2 gL_law_X12_repair rfl rfl rfl (by decide +kernel) ⟨Nat.le_of_ble_eq_true rfl, Nat.le_of_ble_eq_true rfl⟩) hD9.1 rfl (Nat.le_of_ble_eq_true rfl) ⟨by dsimp only; omega, by dsimp only; omega⟩ dL_law_1912 (fun r8 M8 hp8 => ?_)
  obtain ⟨hr8, hQ8⟩ := hp8
  obtain ⟨⟨vs8, hT8⟩, h39⟩ := hQ8
  refine xr_istore C dL_law_1915 (by decide) rfl ?_
  refine xr_aload_n C dL_law_1917 rfl ?_
  refine xr_callV0i C (m_thrown l G M8 (Mb 0) 1 vs8 hT8) (cwV 0 C.1.2.2.2.2 gL_law_X12_thrown rfl rfl rfl (by decide +kernel) ⟨Nat.le_of_ble_eq_true rfl, Nat.le_of_ble_eq_true rfl⟩) hT8 rfl (Nat.le_of_ble_eq_true rfl) ⟨by dsimp only; omega, by dsimp only; omega⟩ dL_law_1918 (fun t8 M7 hp7 => ?_)
  obtain ⟨rfl, rfl⟩ := hp7
  refine xr_iload C dL_law_1921 rfl ?_
  refine xr_icmp_eq C dL_law_1923 rfl (by decide) (by decide) (fun _ => ?_) (fun hq => absurd hq (by omega))
  refine xr_iload C dL_law_1928 rfl ?_
  refine xr_if_ne C dL_law_1930 rfl (by decide) (fun _ => ?_) (fun hq => absurd hq (by decide))
  refine xr_goto C dL_law_1945 rfl ?_
  refine mq_drop 5 ?_
  refine mq_drop 6 ?_
  exact kk _ _ _ (by omega) (by omega)
set_option maxHeartbeats 4000000 in
set_option maxRecDepth 100000 in
theorem lb_32 {p : Program} {e : Env} {s : State} {m : MethodId} {args : Array Value} {below : List Frame} {meth : Method} {c : Code} {Q : State → Prop} {z : Nat} (l : Launch) (hlt : l.stackTraces = false) (G : mq_G) (sb sn : Nat) (sx : Nat → Int32) (hG : pG G sb sn sx) (hA : pA G) (hn : sn = 4) (La : Nat → Nat) (hI : mq_inj La) (Mb : Nat → Nat) (hb : mb_inj Mb) (hLM : ∀ r, r < 275 → ∀ i, mbU i = true → Mb i ≠ La r) (M : mq_M) (hV : vF G M La) (hD : mdI G M Mb 0) (hO : lwO G M (Mb 39) none)
    (C : mq_C p m c cL_law 9 s args wsL_law RL G.1.1 (mq_tys G) z) (cells slots : Nat) (hc : cells ≤ 1000) (hs : slots ≤ 1000000)
    (kk : ∀ (M2 : mq_M) (cells2 slots2 : Nat), cells2 ≤ 2000 → slots2 ≤ 2000000 → mq_X p l e { frames := 12, cells := 600002, slots := 7302232, locals := 436 } s m args below meth c Q 9 G.1.1 z s.heap cells2 slots2 M2 2554 [some (.ref sb), some (.ref (La 0)), some (.ref (Mb 0)), some (.ref (Mb 39)), some (.int (zI 0)), none, none, none, none] []) : mq_X p l e { frames := 12, cells := 600002, slots := 7302232, locals := 436 } s m args below meth c Q 9 G.1.1 z s.heap cells slots M 1948 [some (.ref sb), some (.ref (La 0)), some (.ref (Mb 0)), some (.ref (Mb 39)), some (.int (zI 0)), none, none, none, none] [] := by
  subst hn
  refine xr_aload_n C dL_law_1948 rfl ?_
  refine xr_callV0i C (c_open l G La hI [] vk0 (fun _ => false) (fun _ => []) vr0 M hV) (cwV 0 C.1.2.2.2.2 gL_law_X11_open rfl rfl rfl (by decide +kernel) ⟨Nat.le_of_ble_eq_true rfl, Nat.le_of_ble_eq_true rfl⟩) hV.1 rfl (Nat.le_of_ble_eq_true rfl) ⟨by dsimp only; omega, by dsimp only; omega⟩ dL_law_1949 (fun r9 M9 hp9 => ?_)
  obtain ⟨hcs, hF9⟩ := hp9
  have hr9 : r9 = -1 := by
    rcases hcs with h | ⟨ld, dn, pn, S, fc, fk, fp, ft, fg, h, -⟩
    · exact h.2.1
    · exact absurd h.2.2.1 (by rw [show spF (fun _ => false) (fun _ => []) = -1 by decide +kernel]; decide)
  subst hr9
  have hD9 : mdI G M9 Mb 0 := (hD.frU (fun i9 hi9 h9 => hF9 (Mb i9) (fun hm => by obtain ⟨r, hr, e⟩ := List.mem_map.mp hm; exact hLM r (vtA_l r hr) i9 hi9 e.symm)))
  refine xr_aload_n C dL_law_1952 rfl ?_
  refine xr_callV0i C (m_open l G hA Mb hb 0 M9 hD9) (cwV 0 C.1.2.2.2.2 gL_law_X12_open rfl rfl rfl (by decide +kernel) ⟨Nat.le_of_ble_eq_true rfl, Nat.le_of_ble_eq_true rfl⟩) hD9.1 rfl (Nat.le_of_ble_eq_true rfl) ⟨by dsimp only; omega, by dsimp only; omega⟩ dL_law_1953 (fun r8 M8 hp8 => ?_)
  obtain ⟨hr8, -⟩ := hp8
  have e8 := hr8 rfl
  subst e8
  refine xr_icmp_eq C dL_law_1956 rfl (by decide) (by decide) (fun _ => ?_) (fun hq => absurd hq (by omega))
  exact kk _ _ _ (by omega) (by omega)
set_option maxHeartbeats 4000000 in
set_option maxRecDepth 100000 in
theorem lb_33 {p : Program} {e : Env} {s : State} {m : MethodId} {args : Array Value} {below : List Frame} {meth : Method} {c : Code} {Q : State → Prop} {z : Nat} (l : Launch) (hlt : l.stackTraces = false) (G : mq_G) (sb sn : Nat) (sx : Nat → Int32) (hG : pG G sb sn sx) (hA : pA G) (hn : sn = 4) (La : Nat → Nat) (hI : mq_inj La) (Mb : Nat → Nat) (hb : mb_inj Mb) (hLM : ∀ r, r < 275 → ∀ i, mbU i = true → Mb i ≠ La r) (M : mq_M) (hV : vF G M La) (hD : mdI G M Mb 0) (hO : lwO G M (Mb 39) none)
    (C : mq_C p m c cL_law 9 s args wsL_law RL G.1.1 (mq_tys G) z) (cells slots : Nat) (hc : cells ≤ 1000) (hs : slots ≤ 1000000)
    (kk : ∀ (M2 : mq_M) (cells2 slots2 : Nat), cells2 ≤ 2000 → slots2 ≤ 2000000 → mq_X p l e { frames := 12, cells := 600002, slots := 7302232, locals := 436 } s m args below meth c Q 9 G.1.1 z s.heap cells2 slots2 M2 2554 [some (.ref sb), some (.ref (La 0)), some (.ref (Mb 0)), some (.ref (Mb 39)), some (.int (zI 0)), none, none, none, none] []) : mq_X p l e { frames := 12, cells := 600002, slots := 7302232, locals := 436 } s m args below meth c Q 9 G.1.1 z s.heap cells slots M 1961 [some (.ref sb), some (.ref (La 0)), some (.ref (Mb 0)), some (.ref (Mb 39)), some (.int (zI 0)), none, none, none, none] [] := by
  subst hn
  refine xr_aload_n C dL_law_1961 rfl ?_
  refine xr_aload_n C dL_law_1962 rfl ?_
  refine xr_callXH2i C (h_opened l hlt G sb 4 sx hG hA La hI M hV (Mb 39) (fun r9 hr9 => hLM r9 hr9 39 (by decide)) hO) (vx_cwSW 2 C.1.2.2.2.2 gL_law_L_opened rfl rfl rfl (by decide +kernel) ⟨Nat.le_of_ble_eq_true rfl, Nat.le_of_ble_eq_true rfl⟩) (Nat.le_of_ble_eq_true rfl) ⟨by dsimp only; omega, by dsimp only; omega⟩ dL_law_1963 (fun _ _ h9 => h9.elim) (fun k9 M9 hp9 => ?_)
  obtain ⟨rfl, hO9, hF9⟩ := hp9
  obtain ⟨g9, hg9, hv9⟩ := hO9
  have hD9 : mdI G M9 Mb 0 := (hD.frU (fun i9 hi9 h9 => hF9 (Mb i9) (fun h8 => absurd (hb _ _ hi9 (by decide) h8) h9) (fun r9 hr9 => hLM r9 hr9 i9 hi9)))
  refine xr_istore C dL_law_1966 (by decide) rfl ?_
  refine xr_aload_n C dL_law_1968 rfl ?_
  refine xr_callV0i C (m_opened l G Mb hb 0 M9 hD9) (cwV 0 C.1.2.2.2.2 gL_law_X12_opened rfl rfl rfl (by decide +kernel) ⟨Nat.le_of_ble_eq_true rfl, Nat.le_of_ble_eq_true rfl⟩) hD9.1 rfl (Nat.le_of_ble_eq_true rfl) ⟨by dsimp only; omega, by dsimp only; omega⟩ dL_law_1969 (fun r8 M8 hp8 => ?_)
  obtain ⟨hr8, hQ8⟩ := hp8
  obtain ⟨⟨vs8, hT8⟩, h39⟩ := hQ8
  refine xr_istore C dL_law_1972 (by decide) rfl ?_
  refine xr_aload_n C dL_law_1974 rfl ?_
  refine xr_callV0i C (m_thrown l G M8 (Mb 0) 1 vs8 hT8) (cwV 0 C.1.2.2.2.2 gL_law_X12_thrown rfl rfl rfl (by decide +kernel) ⟨Nat.le_of_ble_eq_true rfl, Nat.le_of_ble_eq_true rfl⟩) hT8 rfl (Nat.le_of_ble_eq_true rfl) ⟨by dsimp only; omega, by dsimp only; omega⟩ dL_law_1975 (fun t8 M7 hp7 => ?_)
  obtain ⟨rfl, rfl⟩ := hp7
  refine xr_iload C dL_law_1978 rfl ?_
  refine xr_icmp_eq C dL_law_1980 rfl (by decide) (by decide) (fun _ => ?_) (fun hq => absurd hq (by omega))
  refine xr_iload C dL_law_1985 rfl ?_
  refine xr_if_ne C dL_law_1987 rfl (by decide) (fun _ => ?_) (fun hq => absurd hq (by decide))
  refine xr_goto C dL_law_2002 rfl ?_
  refine mq_drop 5 ?_
  refine mq_drop 6 ?_
  exact kk _ _ _ (by omega) (by omega)
set_option maxHeartbeats 4000000 in
set_option maxRecDepth 100000 in
theorem lb_34 {p : Program} {e : Env} {s : State} {m : MethodId} {args : Array Value} {below : List Frame} {meth : Method} {c : Code} {Q : State → Prop} {z : Nat} (l : Launch) (hlt : l.stackTraces = false) (G : mq_G) (sb sn : Nat) (sx : Nat → Int32) (hG : pG G sb sn sx) (hA : pA G) (hn : sn = 4) (La : Nat → Nat) (hI : mq_inj La) (Mb : Nat → Nat) (hb : mb_inj Mb) (hLM : ∀ r, r < 275 → ∀ i, mbU i = true → Mb i ≠ La r) (M : mq_M) (hV : vF G M La) (hD : mdI G M Mb 0) (hO : lwO G M (Mb 39) none)
    (C : mq_C p m c cL_law 9 s args wsL_law RL G.1.1 (mq_tys G) z) (cells slots : Nat) (hc : cells ≤ 1000) (hs : slots ≤ 1000000)
    (kk : ∀ (M2 : mq_M) (cells2 slots2 : Nat), cells2 ≤ 2000 → slots2 ≤ 2000000 → mq_X p l e { frames := 12, cells := 600002, slots := 7302232, locals := 436 } s m args below meth c Q 9 G.1.1 z s.heap cells2 slots2 M2 2554 [some (.ref sb), some (.ref (La 0)), some (.ref (Mb 0)), some (.ref (Mb 39)), some (.int (zI 0)), none, none, none, none] []) : mq_X p l e { frames := 12, cells := 600002, slots := 7302232, locals := 436 } s m args below meth c Q 9 G.1.1 z s.heap cells slots M 2005 [some (.ref sb), some (.ref (La 0)), some (.ref (Mb 0)), some (.ref (Mb 39)), some (.int (zI 0)), none, none, none, none] [] := by
  subst hn
  obtain ⟨i, ei, hir⟩ := zI_of (sx 1)
  refine xr_aload_n C dL_law_2005 rfl ?_
  refine xr_aload_n C dL_law_2006 rfl ?_
  refine xr_iload C dL_law_2007 rfl ?_
  refine xr_iconst (n := 1) C dL_law_2009 (by decide +kernel) ?_
  refine xr_iadd C dL_law_2010 ?_
  refine xr_sldv C (hG.old C).1 (by omega) (by omega) (by omega) (by exact ei) dL_law_2011 ?_
  refine xr_aload_n C dL_law_2012 rfl ?_
  refine xr_callXH3i C (h_streamAt l hlt G sb 4 sx hG hA La hI M hV (Mb 39) (fun r9 hr9 => hLM r9 hr9 39 (by decide)) hO i hir) (vx_cwSW 3 C.1.2.2.2.2 gL_law_L_streamAt rfl rfl rfl (by decide +kernel) ⟨Nat.le_of_ble_eq_true rfl, Nat.le_of_ble_eq_true rfl⟩) (Nat.le_of_ble_eq_true rfl) ⟨by dsimp only; omega, by dsimp only; omega⟩ dL_law_2013 (fun _ _ h9 => h9.elim) (fun k9 M9 hp9 => ?_)
  obtain ⟨rfl, hO9, hF9⟩ := hp9
  obtain ⟨g9, hg9, hv9⟩ := hO9
  have hD9 : mdI G M9 Mb 0 := (hD.frU (fun i9 hi9 h9 => hF9 (Mb i9) (fun h8 => absurd (hb _ _ hi9 (by decide) h8) h9) (fun r9 hr9 => hLM r9 hr9 i9 hi9)))
  refine xr_istore C dL_law_2016 (by decide) rfl ?_
  refine xr_aload_n C dL_law_2018 rfl ?_
  refine xr_aload_n C dL_law_2019 rfl ?_
  refine xr_iload C dL_law_2020 rfl ?_
  refine xr_iconst (n := 1) C dL_law_2022 (by decide +kernel) ?_
  refine xr_iadd C dL_law_2023 ?_
  refine xr_sldv C (hG.old C).1 (by omega) (by omega) (by omega) (by exact ei) dL_law_2024 ?_
  refine xr_callV1i C (m_streamAt l G Mb hb 0 M9 hD9 i hir) (cwV 1 C.1.2.2.2.2 gL_law_X12_streamAt rfl rfl rfl (by decide +kernel) ⟨Nat.le_of_ble_eq_true rfl, Nat.le_of_ble_eq_true rfl⟩) hD9.1 rfl (Nat.le_of_ble_eq_true rfl) ⟨by dsimp only; omega, by dsimp only; omega⟩ dL_law_2025 (fun r8 M8 hp8 => ?_)
  obtain ⟨hr8, hQ8⟩ := hp8
  obtain ⟨⟨vs8, hT8⟩, h39⟩ := hQ8
  refine xr_istore C dL_law_2028 (by decide) rfl ?_
  refine xr_aload_n C dL_law_2030 rfl ?_
  refine xr_callV0i C (m_thrown l G M8 (Mb 0) 1 vs8 hT8) (cwV 0 C.1.2.2.2.2 gL_law_X12_thrown rfl rfl rfl (by decide +kernel) ⟨Nat.le_of_ble_eq_true rfl, Nat.le_of_ble_eq_true rfl⟩) hT8 rfl (Nat.le_of_ble_eq_true rfl) ⟨by dsimp only; omega, by dsimp only; omega⟩ dL_law_2031 (fun t8 M7 hp7 => ?_)
  obtain ⟨rfl, rfl⟩ := hp7
  refine xr_iload C dL_law_2034 rfl ?_
  refine xr_icmp_eq C dL_law_2036 rfl (by decide) (by decide) (fun _ => ?_) (fun hq => absurd hq (by omega))
  refine xr_iload C dL_law_2041 rfl ?_
  refine xr_if_ne C dL_law_2043 rfl (by decide) (fun _ => ?_) (fun hq => absurd hq (by decide))
  refine xr_goto C dL_law_2058 rfl ?_
  refine mq_drop 5 ?_
  refine mq_drop 6 ?_
  exact kk _ _ _ (by omega) (by omega)
set_option maxHeartbeats 4000000 in
set_option maxRecDepth 100000 in
theorem lb_35 {p : Program} {e : Env} {s : State} {m : MethodId} {args : Array Value} {below : List Frame} {meth : Method} {c : Code} {Q : State → Prop} {z : Nat} (l : Launch) (hlt : l.stackTraces = false) (G : mq_G) (sb sn : Nat) (sx : Nat → Int32) (hG : pG G sb sn sx) (hA : pA G) (hn : sn = 4) (La : Nat → Nat) (hI : mq_inj La) (Mb : Nat → Nat) (hb : mb_inj Mb) (hLM : ∀ r, r < 275 → ∀ i, mbU i = true → Mb i ≠ La r) (M : mq_M) (hV : vF G M La) (hD : mdI G M Mb 0) (hO : lwO G M (Mb 39) none)
    (C : mq_C p m c cL_law 9 s args wsL_law RL G.1.1 (mq_tys G) z) (cells slots : Nat) (hc : cells ≤ 1000) (hs : slots ≤ 1000000)
    (kk : ∀ (M2 : mq_M) (cells2 slots2 : Nat), cells2 ≤ 2000 → slots2 ≤ 2000000 → mq_X p l e { frames := 12, cells := 600002, slots := 7302232, locals := 436 } s m args below meth c Q 9 G.1.1 z s.heap cells2 slots2 M2 2554 [some (.ref sb), some (.ref (La 0)), some (.ref (Mb 0)), some (.ref (Mb 39)), some (.int (zI 0)), none, none, none, none] []) : mq_X p l e { frames := 12, cells := 600002, slots := 7302232, locals := 436 } s m args below meth c Q 9 G.1.1 z s.heap cells slots M 2061 [some (.ref sb), some (.ref (La 0)), some (.ref (Mb 0)), some (.ref (Mb 39)), some (.int (zI 0)), none, none, none, none] [] := by
  subst hn
  refine xr_aload_n C dL_law_2061 rfl ?_
  refine xr_aload_n C dL_law_2062 rfl ?_
  refine xr_callXH2i C (h_hasIndex l hlt G sb 4 sx hG hA La hI M hV (Mb 39) (fun r9 hr9 => hLM r9 hr9 39 (by decide)) hO) (vx_cwSW 2 C.1.2.2.2.2 gL_law_L_hasIndex rfl rfl rfl (by decide +kernel) ⟨Nat.le_of_ble_eq_true rfl, Nat.le_of_ble_eq_true rfl⟩) (Nat.le_of_ble_eq_true rfl) ⟨by dsimp only; omega, by dsimp only; omega⟩ dL_law_2063 (fun _ _ h9 => h9.elim) (fun k9 M9 hp9 => ?_)
  obtain ⟨rfl, hO9, hF9⟩ := hp9
  obtain ⟨g9, hg9, hv9⟩ := hO9
  have hD9 : mdI G M9 Mb 0 := (hD.frU (fun i9 hi9 h9 => hF9 (Mb i9) (fun h8 => absurd (hb _ _ hi9 (by decide) h8) h9) (fun r9 hr9 => hLM r9 hr9 i9 hi9)))
  refine xr_istore C dL_law_2066 (by decide) rfl ?_
  refine xr_aload_n C dL_law_2068 rfl ?_
  refine xr_callV0i C (m_hasIndex l G Mb hb 0 M9 hD9) (cwV 0 C.1.2.2.2.2 gL_law_X12_hasIndex rfl rfl rfl (by decide +kernel) ⟨Nat.le_of_ble_eq_true rfl, Nat.le_of_ble_eq_true rfl⟩) hD9.1 rfl (Nat.le_of_ble_eq_true rfl) ⟨by dsimp only; omega, by dsimp only; omega⟩ dL_law_2069 (fun r8 M8 hp8 => ?_)
  obtain ⟨hr8, hQ8⟩ := hp8
  obtain ⟨⟨vs8, hT8⟩, h39⟩ := hQ8
  refine xr_istore C dL_law_2072 (by decide) rfl ?_
  refine xr_aload_n C dL_law_2074 rfl ?_
  refine xr_callV0i C (m_thrown l G M8 (Mb 0) 1 vs8 hT8) (cwV 0 C.1.2.2.2.2 gL_law_X12_thrown rfl rfl rfl (by decide +kernel) ⟨Nat.le_of_ble_eq_true rfl, Nat.le_of_ble_eq_true rfl⟩) hT8 rfl (Nat.le_of_ble_eq_true rfl) ⟨by dsimp only; omega, by dsimp only; omega⟩ dL_law_2075 (fun t8 M7 hp7 => ?_)
  obtain ⟨rfl, rfl⟩ := hp7
  refine xr_iload C dL_law_2078 rfl ?_
  refine xr_icmp_eq C dL_law_2080 rfl (by decide) (by decide) (fun _ => ?_) (fun hq => absurd hq (by omega))
  refine xr_iload C dL_law_2085 rfl ?_
  refine xr_if_ne C dL_law_2087 rfl (by decide) (fun _ => ?_) (fun hq => absurd hq (by decide))
  refine xr_goto C dL_law_2109 rfl ?_
  refine mq_drop 5 ?_
  refine mq_drop 6 ?_
  exact kk _ _ _ (by omega) (by omega)
set_option maxHeartbeats 4000000 in
set_option maxRecDepth 100000 in
theorem lb_36 {p : Program} {e : Env} {s : State} {m : MethodId} {args : Array Value} {below : List Frame} {meth : Method} {c : Code} {Q : State → Prop} {z : Nat} (l : Launch) (hlt : l.stackTraces = false) (G : mq_G) (sb sn : Nat) (sx : Nat → Int32) (hG : pG G sb sn sx) (hA : pA G) (hn : sn = 4) (La : Nat → Nat) (hI : mq_inj La) (Mb : Nat → Nat) (hb : mb_inj Mb) (hLM : ∀ r, r < 275 → ∀ i, mbU i = true → Mb i ≠ La r) (M : mq_M) (hV : vF G M La) (hD : mdI G M Mb 0) (hO : lwO G M (Mb 39) none)
    (C : mq_C p m c cL_law 9 s args wsL_law RL G.1.1 (mq_tys G) z) (cells slots : Nat) (hc : cells ≤ 1000) (hs : slots ≤ 1000000)
    (kk : ∀ (M2 : mq_M) (cells2 slots2 : Nat), cells2 ≤ 2000 → slots2 ≤ 2000000 → mq_X p l e { frames := 12, cells := 600002, slots := 7302232, locals := 436 } s m args below meth c Q 9 G.1.1 z s.heap cells2 slots2 M2 2554 [some (.ref sb), some (.ref (La 0)), some (.ref (Mb 0)), some (.ref (Mb 39)), some (.int (zI 0)), none, none, none, none] []) : mq_X p l e { frames := 12, cells := 600002, slots := 7302232, locals := 436 } s m args below meth c Q 9 G.1.1 z s.heap cells slots M 2112 [some (.ref sb), some (.ref (La 0)), some (.ref (Mb 0)), some (.ref (Mb 39)), some (.int (zI 0)), none, none, none, none] [] := by
  subst hn
  refine xr_aload_n C dL_law_2112 rfl ?_
  refine xr_aload_n C dL_law_2113 rfl ?_
  refine xr_callXH2i C (h_found l hlt G sb 4 sx hG hA La hI M hV (Mb 39) (fun r9 hr9 => hLM r9 hr9 39 (by decide)) hO) (vx_cwSW 2 C.1.2.2.2.2 gL_law_L_found rfl rfl rfl (by decide +kernel) ⟨Nat.le_of_ble_eq_true rfl, Nat.le_of_ble_eq_true rfl⟩) (Nat.le_of_ble_eq_true rfl) ⟨by dsimp only; omega, by dsimp only; omega⟩ dL_law_2114 (fun _ _ h9 => h9.elim) (fun k9 M9 hp9 => ?_)
  obtain ⟨rfl, hO9, hF9⟩ := hp9
  obtain ⟨g9, hg9, hv9⟩ := hO9
  have hD9 : mdI G M9 Mb 0 := (hD.frU (fun i9 hi9 h9 => hF9 (Mb i9) (fun h8 => absurd (hb _ _ hi9 (by decide) h8) h9) (fun r9 hr9 => hLM r9 hr9 i9 hi9)))
  refine xr_istore C dL_law_2117 (by decide) rfl ?_
  refine xr_aload_n C dL_law_2119 rfl ?_
  refine xr_callV0i C (m_found l G Mb hb 0 M9 hD9) (cwV 0 C.1.2.2.2.2 gL_law_X12_found rfl rfl rfl (by decide +kernel) ⟨Nat.le_of_ble_eq_true rfl, Nat.le_of_ble_eq_true rfl⟩) hD9.1 rfl (Nat.le_of_ble_eq_true rfl) ⟨by dsimp only; omega, by dsimp only; omega⟩ dL_law_2120 (fun r8 M8 hp8 => ?_)
  obtain ⟨hr8, hQ8⟩ := hp8
  obtain ⟨⟨vs8, hT8⟩, h39⟩ := hQ8
  refine xr_istore C dL_law_2123 (by decide) rfl ?_
  refine xr_aload_n C dL_law_2125 rfl ?_
  refine xr_callV0i C (m_thrown l G M8 (Mb 0) 1 vs8 hT8) (cwV 0 C.1.2.2.2.2 gL_law_X12_thrown rfl rfl rfl (by decide +kernel) ⟨Nat.le_of_ble_eq_true rfl, Nat.le_of_ble_eq_true rfl⟩) hT8 rfl (Nat.le_of_ble_eq_true rfl) ⟨by dsimp only; omega, by dsimp only; omega⟩ dL_law_2126 (fun t8 M7 hp7 => ?_)
  obtain ⟨rfl, rfl⟩ := hp7
  refine xr_iload C dL_law_2129 rfl ?_
  refine xr_icmp_eq C dL_law_2131 rfl (by decide) (by decide) (fun _ => ?_) (fun hq => absurd hq (by omega))
  refine xr_iload C dL_law_2136 rfl ?_
  refine xr_if_ne C dL_law_2138 rfl (by decide) (fun _ => ?_) (fun hq => absurd hq (by decide))
  refine xr_goto C dL_law_2153 rfl ?_
  refine mq_drop 5 ?_
  refine mq_drop 6 ?_
  exact kk _ _ _ (by omega) (by omega)
