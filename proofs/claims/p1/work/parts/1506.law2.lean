set_option maxHeartbeats 4000000 in
set_option maxRecDepth 100000 in
theorem lb_37 {p : Program} {e : Env} {s : State} {m : MethodId} {args : Array Value} {below : List Frame} {meth : Method} {c : Code} {Q : State → Prop} {z : Nat} (l : Launch) (hlt : l.stackTraces = false) (G : mq_G) (sb sn : Nat) (sx : Nat → Int32) (hG : pG G sb sn sx) (hA : pA G) (hn : sn = 4) (La : Nat → Nat) (hI : mq_inj La) (Mb : Nat → Nat) (hb : mb_inj Mb) (hLM : ∀ r, r < 275 → ∀ i, mbU i = true → Mb i ≠ La r) (M : mq_M) (hV : vF G M La) (hD : mdI G M Mb 0) (hO : lwO G M (Mb 39) none)
    (C : mq_C p m c cL_law 9 s args wsL_law RL G.1.1 (mq_tys G) z) (cells slots : Nat) (hc : cells ≤ 1000) (hs : slots ≤ 1000000)
    (kk : ∀ (M2 : mq_M) (cells2 slots2 : Nat), cells2 ≤ 2000 → slots2 ≤ 2000000 → mq_X p l e { frames := 12, cells := 600002, slots := 7302232, locals := 436 } s m args below meth c Q 9 G.1.1 z s.heap cells2 slots2 M2 2554 [some (.ref sb), some (.ref (La 0)), some (.ref (Mb 0)), some (.ref (Mb 39)), some (.int (zI 0)), none, none, none, none] []) : mq_X p l e { frames := 12, cells := 600002, slots := 7302232, locals := 436 } s m args below meth c Q 9 G.1.1 z s.heap cells slots M 2156 [some (.ref sb), some (.ref (La 0)), some (.ref (Mb 0)), some (.ref (Mb 39)), some (.int (zI 0)), none, none, none, none] [] := by
  subst hn
  obtain ⟨i, ei, hir⟩ := zI_of (sx 1)
  refine xr_aload_n C dL_law_2156 rfl ?_
  refine xr_aload_n C dL_law_2157 rfl ?_
  refine xr_iload C dL_law_2158 rfl ?_
  refine xr_iconst (n := 1) C dL_law_2160 (by decide +kernel) ?_
  refine xr_iadd C dL_law_2161 ?_
  refine xr_sldv C (hG.old C).1 (by omega) (by omega) (by omega) (by exact ei) dL_law_2162 ?_
  refine xr_aload_n C dL_law_2163 rfl ?_
  refine xr_callXH3i C (h_keyFound l hlt G sb 4 sx hG hA La hI M hV (Mb 39) (fun r9 hr9 => hLM r9 hr9 39 (by decide)) hO i hir) (vx_cwSW 3 C.1.2.2.2.2 gL_law_L_keyFound rfl rfl rfl (by decide +kernel) ⟨Nat.le_of_ble_eq_true rfl, Nat.le_of_ble_eq_true rfl⟩) (Nat.le_of_ble_eq_true rfl) ⟨by dsimp only; omega, by dsimp only; omega⟩ dL_law_2164 (fun _ _ h9 => h9.elim) (fun k9 M9 hp9 => ?_)
  obtain ⟨rfl, hO9, hF9⟩ := hp9
  obtain ⟨g9, hg9, hv9⟩ := hO9
  have hD9 : mdI G M9 Mb 0 := (hD.frU (fun i9 hi9 h9 => hF9 (Mb i9) (fun h8 => absurd (hb _ _ hi9 (by decide) h8) h9) (fun r9 hr9 => hLM r9 hr9 i9 hi9)))
  refine xr_istore C dL_law_2167 (by decide) rfl ?_
  refine xr_aload_n C dL_law_2169 rfl ?_
  refine xr_aload_n C dL_law_2170 rfl ?_
  refine xr_iload C dL_law_2171 rfl ?_
  refine xr_iconst (n := 1) C dL_law_2173 (by decide +kernel) ?_
  refine xr_iadd C dL_law_2174 ?_
  refine xr_sldv C (hG.old C).1 (by omega) (by omega) (by omega) (by exact ei) dL_law_2175 ?_
  refine xr_callV1i C (m_keyFound l G Mb hb 0 M9 hD9 i hir) (cwV 1 C.1.2.2.2.2 gL_law_X12_keyFound rfl rfl rfl (by decide +kernel) ⟨Nat.le_of_ble_eq_true rfl, Nat.le_of_ble_eq_true rfl⟩) hD9.1 rfl (Nat.le_of_ble_eq_true rfl) ⟨by dsimp only; omega, by dsimp only; omega⟩ dL_law_2176 (fun r8 M8 hp8 => ?_)
  obtain ⟨hr8, hQ8⟩ := hp8
  obtain ⟨⟨vs8, hT8⟩, h39⟩ := hQ8
  refine xr_istore C dL_law_2179 (by decide) rfl ?_
  refine xr_aload_n C dL_law_2181 rfl ?_
  refine xr_callV0i C (m_thrown l G M8 (Mb 0) 1 vs8 hT8) (cwV 0 C.1.2.2.2.2 gL_law_X12_thrown rfl rfl rfl (by decide +kernel) ⟨Nat.le_of_ble_eq_true rfl, Nat.le_of_ble_eq_true rfl⟩) hT8 rfl (Nat.le_of_ble_eq_true rfl) ⟨by dsimp only; omega, by dsimp only; omega⟩ dL_law_2182 (fun t8 M7 hp7 => ?_)
  obtain ⟨rfl, rfl⟩ := hp7
  refine xr_iload C dL_law_2185 rfl ?_
  refine xr_icmp_eq C dL_law_2187 rfl (by decide) (by decide) (fun _ => ?_) (fun hq => absurd hq (by omega))
  refine xr_iload C dL_law_2192 rfl ?_
  refine xr_if_ne C dL_law_2194 rfl (by decide) (fun _ => ?_) (fun hq => absurd hq (by decide))
  refine xr_goto C dL_law_2209 rfl ?_
  refine mq_drop 5 ?_
  refine mq_drop 6 ?_
  exact kk _ _ _ (by omega) (by omega)
set_option maxHeartbeats 4000000 in
set_option maxRecDepth 100000 in
theorem lb_38 {p : Program} {e : Env} {s : State} {m : MethodId} {args : Array Value} {below : List Frame} {meth : Method} {c : Code} {Q : State → Prop} {z : Nat} (l : Launch) (hlt : l.stackTraces = false) (G : mq_G) (sb sn : Nat) (sx : Nat → Int32) (hG : pG G sb sn sx) (hA : pA G) (hn : sn = 4) (La : Nat → Nat) (hI : mq_inj La) (Mb : Nat → Nat) (hb : mb_inj Mb) (hLM : ∀ r, r < 275 → ∀ i, mbU i = true → Mb i ≠ La r) (M : mq_M) (hV : vF G M La) (hD : mdI G M Mb 0) (hO : lwO G M (Mb 39) none)
    (C : mq_C p m c cL_law 9 s args wsL_law RL G.1.1 (mq_tys G) z) (cells slots : Nat) (hc : cells ≤ 1000) (hs : slots ≤ 1000000)
    (kk : ∀ (M2 : mq_M) (cells2 slots2 : Nat), cells2 ≤ 2000 → slots2 ≤ 2000000 → mq_X p l e { frames := 12, cells := 600002, slots := 7302232, locals := 436 } s m args below meth c Q 9 G.1.1 z s.heap cells2 slots2 M2 2554 [some (.ref sb), some (.ref (La 0)), some (.ref (Mb 0)), some (.ref (Mb 39)), some (.int (zI 0)), none, none, none, none] []) : mq_X p l e { frames := 12, cells := 600002, slots := 7302232, locals := 436 } s m args below meth c Q 9 G.1.1 z s.heap cells slots M 2212 [some (.ref sb), some (.ref (La 0)), some (.ref (Mb 0)), some (.ref (Mb 39)), some (.int (zI 0)), none, none, none, none] [] := by
  subst hn
  obtain ⟨i, ei, hir⟩ := zI_of (sx 1)
  refine xr_aload_n C dL_law_2212 rfl ?_
  refine xr_aload_n C dL_law_2213 rfl ?_
  refine xr_iload C dL_law_2214 rfl ?_
  refine xr_iconst (n := 1) C dL_law_2216 (by decide +kernel) ?_
  refine xr_iadd C dL_law_2217 ?_
  refine xr_sldv C (hG.old C).1 (by omega) (by omega) (by omega) (by exact ei) dL_law_2218 ?_
  refine xr_aload_n C dL_law_2219 rfl ?_
  refine xr_callXH3i C (h_placeFound l hlt G sb 4 sx hG hA La hI M hV (Mb 39) (fun r9 hr9 => hLM r9 hr9 39 (by decide)) hO i hir) (vx_cwSW 3 C.1.2.2.2.2 gL_law_L_placeFound rfl rfl rfl (by decide +kernel) ⟨Nat.le_of_ble_eq_true rfl, Nat.le_of_ble_eq_true rfl⟩) (Nat.le_of_ble_eq_true rfl) ⟨by dsimp only; omega, by dsimp only; omega⟩ dL_law_2220 (fun _ _ h9 => h9.elim) (fun k9 M9 hp9 => ?_)
  obtain ⟨rfl, hO9, hF9⟩ := hp9
  obtain ⟨g9, hg9, hv9⟩ := hO9
  have hD9 : mdI G M9 Mb 0 := (hD.frU (fun i9 hi9 h9 => hF9 (Mb i9) (fun h8 => absurd (hb _ _ hi9 (by decide) h8) h9) (fun r9 hr9 => hLM r9 hr9 i9 hi9)))
  refine xr_istore C dL_law_2223 (by decide) rfl ?_
  refine xr_aload_n C dL_law_2225 rfl ?_
  refine xr_aload_n C dL_law_2226 rfl ?_
  refine xr_iload C dL_law_2227 rfl ?_
  refine xr_iconst (n := 1) C dL_law_2229 (by decide +kernel) ?_
  refine xr_iadd C dL_law_2230 ?_
  refine xr_sldv C (hG.old C).1 (by omega) (by omega) (by omega) (by exact ei) dL_law_2231 ?_
  refine xr_callV1i C (m_placeFound l G Mb hb 0 M9 hD9 i hir) (cwV 1 C.1.2.2.2.2 gL_law_X12_placeFound rfl rfl rfl (by decide +kernel) ⟨Nat.le_of_ble_eq_true rfl, Nat.le_of_ble_eq_true rfl⟩) hD9.1 rfl (Nat.le_of_ble_eq_true rfl) ⟨by dsimp only; omega, by dsimp only; omega⟩ dL_law_2232 (fun r8 M8 hp8 => ?_)
  obtain ⟨hr8, hQ8⟩ := hp8
  obtain ⟨⟨vs8, hT8⟩, h39⟩ := hQ8
  refine xr_istore C dL_law_2235 (by decide) rfl ?_
  refine xr_aload_n C dL_law_2237 rfl ?_
  refine xr_callV0i C (m_thrown l G M8 (Mb 0) 1 vs8 hT8) (cwV 0 C.1.2.2.2.2 gL_law_X12_thrown rfl rfl rfl (by decide +kernel) ⟨Nat.le_of_ble_eq_true rfl, Nat.le_of_ble_eq_true rfl⟩) hT8 rfl (Nat.le_of_ble_eq_true rfl) ⟨by dsimp only; omega, by dsimp only; omega⟩ dL_law_2238 (fun t8 M7 hp7 => ?_)
  obtain ⟨rfl, rfl⟩ := hp7
  refine xr_iload C dL_law_2241 rfl ?_
  refine xr_icmp_eq C dL_law_2243 rfl (by decide) (by decide) (fun _ => ?_) (fun hq => absurd hq (by omega))
  refine xr_iload C dL_law_2248 rfl ?_
  refine xr_if_ne C dL_law_2250 rfl (by decide) (fun _ => ?_) (fun hq => absurd hq (by decide))
  refine xr_goto C dL_law_2265 rfl ?_
  refine mq_drop 5 ?_
  refine mq_drop 6 ?_
  exact kk _ _ _ (by omega) (by omega)
set_option maxHeartbeats 4000000 in
set_option maxRecDepth 100000 in
theorem lb_39 {p : Program} {e : Env} {s : State} {m : MethodId} {args : Array Value} {below : List Frame} {meth : Method} {c : Code} {Q : State → Prop} {z : Nat} (l : Launch) (hlt : l.stackTraces = false) (G : mq_G) (sb sn : Nat) (sx : Nat → Int32) (hG : pG G sb sn sx) (hA : pA G) (hn : sn = 4) (La : Nat → Nat) (hI : mq_inj La) (Mb : Nat → Nat) (hb : mb_inj Mb) (hLM : ∀ r, r < 275 → ∀ i, mbU i = true → Mb i ≠ La r) (M : mq_M) (hV : vF G M La) (hD : mdI G M Mb 0) (hO : lwO G M (Mb 39) none)
    (C : mq_C p m c cL_law 9 s args wsL_law RL G.1.1 (mq_tys G) z) (cells slots : Nat) (hc : cells ≤ 1000) (hs : slots ≤ 1000000)
    (kk : ∀ (M2 : mq_M) (cells2 slots2 : Nat), cells2 ≤ 2000 → slots2 ≤ 2000000 → mq_X p l e { frames := 12, cells := 600002, slots := 7302232, locals := 436 } s m args below meth c Q 9 G.1.1 z s.heap cells2 slots2 M2 2554 [some (.ref sb), some (.ref (La 0)), some (.ref (Mb 0)), some (.ref (Mb 39)), some (.int (zI 0)), none, none, none, none] []) : mq_X p l e { frames := 12, cells := 600002, slots := 7302232, locals := 436 } s m args below meth c Q 9 G.1.1 z s.heap cells slots M 2268 [some (.ref sb), some (.ref (La 0)), some (.ref (Mb 0)), some (.ref (Mb 39)), some (.int (zI 0)), none, none, none, none] [] := by
  subst hn
  obtain ⟨i, ei, hir⟩ := zI_of (sx 1)
  refine xr_aload_n C dL_law_2268 rfl ?_
  refine xr_aload_n C dL_law_2269 rfl ?_
  refine xr_iload C dL_law_2270 rfl ?_
  refine xr_iconst (n := 1) C dL_law_2272 (by decide +kernel) ?_
  refine xr_iadd C dL_law_2273 ?_
  refine xr_sldv C (hG.old C).1 (by omega) (by omega) (by omega) (by exact ei) dL_law_2274 ?_
  refine xr_aload_n C dL_law_2275 rfl ?_
  refine xr_callXH3i C (h_isGood l hlt G sb 4 sx hG hA La hI M hV (Mb 39) (fun r9 hr9 => hLM r9 hr9 39 (by decide)) hO i hir) (vx_cwSW 3 C.1.2.2.2.2 gL_law_L_isGood rfl rfl rfl (by decide +kernel) ⟨Nat.le_of_ble_eq_true rfl, Nat.le_of_ble_eq_true rfl⟩) (Nat.le_of_ble_eq_true rfl) ⟨by dsimp only; omega, by dsimp only; omega⟩ dL_law_2276 (fun _ _ h9 => h9.elim) (fun k9 M9 hp9 => ?_)
  obtain ⟨rfl, hO9, hF9⟩ := hp9
  obtain ⟨g9, hg9, hv9⟩ := hO9
  have hD9 : mdI G M9 Mb 0 := (hD.frU (fun i9 hi9 h9 => hF9 (Mb i9) (fun h8 => absurd (hb _ _ hi9 (by decide) h8) h9) (fun r9 hr9 => hLM r9 hr9 i9 hi9)))
  refine xr_istore C dL_law_2279 (by decide) rfl ?_
  refine xr_aload_n C dL_law_2281 rfl ?_
  refine xr_aload_n C dL_law_2282 rfl ?_
  refine xr_iload C dL_law_2283 rfl ?_
  refine xr_iconst (n := 1) C dL_law_2285 (by decide +kernel) ?_
  refine xr_iadd C dL_law_2286 ?_
  refine xr_sldv C (hG.old C).1 (by omega) (by omega) (by omega) (by exact ei) dL_law_2287 ?_
  refine xr_callV1i C (m_isGood l G Mb hb 0 M9 hD9 i hir) (cwV 1 C.1.2.2.2.2 gL_law_X12_isGood rfl rfl rfl (by decide +kernel) ⟨Nat.le_of_ble_eq_true rfl, Nat.le_of_ble_eq_true rfl⟩) hD9.1 rfl (Nat.le_of_ble_eq_true rfl) ⟨by dsimp only; omega, by dsimp only; omega⟩ dL_law_2288 (fun r8 M8 hp8 => ?_)
  obtain ⟨hr8, hQ8⟩ := hp8
  obtain ⟨⟨vs8, hT8⟩, h39⟩ := hQ8
  refine xr_istore C dL_law_2291 (by decide) rfl ?_
  refine xr_aload_n C dL_law_2293 rfl ?_
  refine xr_callV0i C (m_thrown l G M8 (Mb 0) 1 vs8 hT8) (cwV 0 C.1.2.2.2.2 gL_law_X12_thrown rfl rfl rfl (by decide +kernel) ⟨Nat.le_of_ble_eq_true rfl, Nat.le_of_ble_eq_true rfl⟩) hT8 rfl (Nat.le_of_ble_eq_true rfl) ⟨by dsimp only; omega, by dsimp only; omega⟩ dL_law_2294 (fun t8 M7 hp7 => ?_)
  obtain ⟨rfl, rfl⟩ := hp7
  refine xr_iload C dL_law_2297 rfl ?_
  refine xr_icmp_eq C dL_law_2299 rfl (by decide) (by decide) (fun _ => ?_) (fun hq => absurd hq (by omega))
  refine xr_iload C dL_law_2304 rfl ?_
  refine xr_if_ne C dL_law_2306 rfl (by decide) (fun _ => ?_) (fun hq => absurd hq (by decide))
  refine xr_goto C dL_law_2328 rfl ?_
  refine mq_drop 5 ?_
  refine mq_drop 6 ?_
  exact kk _ _ _ (by omega) (by omega)
set_option maxHeartbeats 4000000 in
set_option maxRecDepth 100000 in
theorem lb_40 {p : Program} {e : Env} {s : State} {m : MethodId} {args : Array Value} {below : List Frame} {meth : Method} {c : Code} {Q : State → Prop} {z : Nat} (l : Launch) (hlt : l.stackTraces = false) (G : mq_G) (sb sn : Nat) (sx : Nat → Int32) (hG : pG G sb sn sx) (hA : pA G) (hn : sn = 4) (La : Nat → Nat) (hI : mq_inj La) (Mb : Nat → Nat) (hb : mb_inj Mb) (hLM : ∀ r, r < 275 → ∀ i, mbU i = true → Mb i ≠ La r) (M : mq_M) (hV : vF G M La) (hD : mdI G M Mb 0) (hO : lwO G M (Mb 39) none)
    (C : mq_C p m c cL_law 9 s args wsL_law RL G.1.1 (mq_tys G) z) (cells slots : Nat) (hc : cells ≤ 1000) (hs : slots ≤ 1000000)
    (kk : ∀ (M2 : mq_M) (cells2 slots2 : Nat), cells2 ≤ 2000 → slots2 ≤ 2000000 → mq_X p l e { frames := 12, cells := 600002, slots := 7302232, locals := 436 } s m args below meth c Q 9 G.1.1 z s.heap cells2 slots2 M2 2554 [some (.ref sb), some (.ref (La 0)), some (.ref (Mb 0)), some (.ref (Mb 39)), some (.int (zI 0)), none, none, none, none] []) : mq_X p l e { frames := 12, cells := 600002, slots := 7302232, locals := 436 } s m args below meth c Q 9 G.1.1 z s.heap cells slots M 2331 [some (.ref sb), some (.ref (La 0)), some (.ref (Mb 0)), some (.ref (Mb 39)), some (.int (zI 0)), none, none, none, none] [] := by
  subst hn
  obtain ⟨i, ei, hir⟩ := zI_of (sx 1)
  refine xr_aload_n C dL_law_2331 rfl ?_
  refine xr_aload_n C dL_law_2332 rfl ?_
  refine xr_iload C dL_law_2333 rfl ?_
  refine xr_iconst (n := 1) C dL_law_2335 (by decide +kernel) ?_
  refine xr_iadd C dL_law_2336 ?_
  refine xr_sldv C (hG.old C).1 (by omega) (by omega) (by omega) (by exact ei) dL_law_2337 ?_
  refine xr_aload_n C dL_law_2338 rfl ?_
  refine xr_callXH3i C (h_lengthFound l hlt G sb 4 sx hG hA La hI M hV (Mb 39) (fun r9 hr9 => hLM r9 hr9 39 (by decide)) hO i hir) (vx_cwSW 3 C.1.2.2.2.2 gL_law_L_lengthFound rfl rfl rfl (by decide +kernel) ⟨Nat.le_of_ble_eq_true rfl, Nat.le_of_ble_eq_true rfl⟩) (Nat.le_of_ble_eq_true rfl) ⟨by dsimp only; omega, by dsimp only; omega⟩ dL_law_2339 (fun _ _ h9 => h9.elim) (fun k9 M9 hp9 => ?_)
  obtain ⟨rfl, hO9, hF9⟩ := hp9
  obtain ⟨g9, hg9, hv9⟩ := hO9
  have hD9 : mdI G M9 Mb 0 := (hD.frU (fun i9 hi9 h9 => hF9 (Mb i9) (fun h8 => absurd (hb _ _ hi9 (by decide) h8) h9) (fun r9 hr9 => hLM r9 hr9 i9 hi9)))
  refine xr_istore C dL_law_2342 (by decide) rfl ?_
  refine xr_aload_n C dL_law_2344 rfl ?_
  refine xr_aload_n C dL_law_2345 rfl ?_
  refine xr_iload C dL_law_2346 rfl ?_
  refine xr_iconst (n := 1) C dL_law_2348 (by decide +kernel) ?_
  refine xr_iadd C dL_law_2349 ?_
  refine xr_sldv C (hG.old C).1 (by omega) (by omega) (by omega) (by exact ei) dL_law_2350 ?_
  refine xr_callV1i C (m_lengthFound l G Mb hb 0 M9 hD9 i hir) (cwV 1 C.1.2.2.2.2 gL_law_X12_lengthFound rfl rfl rfl (by decide +kernel) ⟨Nat.le_of_ble_eq_true rfl, Nat.le_of_ble_eq_true rfl⟩) hD9.1 rfl (Nat.le_of_ble_eq_true rfl) ⟨by dsimp only; omega, by dsimp only; omega⟩ dL_law_2351 (fun r8 M8 hp8 => ?_)
  obtain ⟨hr8, hQ8⟩ := hp8
  obtain ⟨⟨vs8, hT8⟩, h39⟩ := hQ8
  refine xr_istore C dL_law_2354 (by decide) rfl ?_
  refine xr_aload_n C dL_law_2356 rfl ?_
  refine xr_callV0i C (m_thrown l G M8 (Mb 0) 1 vs8 hT8) (cwV 0 C.1.2.2.2.2 gL_law_X12_thrown rfl rfl rfl (by decide +kernel) ⟨Nat.le_of_ble_eq_true rfl, Nat.le_of_ble_eq_true rfl⟩) hT8 rfl (Nat.le_of_ble_eq_true rfl) ⟨by dsimp only; omega, by dsimp only; omega⟩ dL_law_2357 (fun t8 M7 hp7 => ?_)
  obtain ⟨rfl, rfl⟩ := hp7
  refine xr_iload C dL_law_2360 rfl ?_
  refine xr_icmp_eq C dL_law_2362 rfl (by decide) (by decide) (fun _ => ?_) (fun hq => absurd hq (by omega))
  refine xr_iload C dL_law_2367 rfl ?_
  refine xr_if_ne C dL_law_2369 rfl (by decide) (fun _ => ?_) (fun hq => absurd hq (by decide))
  refine xr_goto C dL_law_2384 rfl ?_
  refine mq_drop 5 ?_
  refine mq_drop 6 ?_
  exact kk _ _ _ (by omega) (by omega)
set_option maxHeartbeats 4000000 in
set_option maxRecDepth 100000 in
theorem lb_41 {p : Program} {e : Env} {s : State} {m : MethodId} {args : Array Value} {below : List Frame} {meth : Method} {c : Code} {Q : State → Prop} {z : Nat} (l : Launch) (hlt : l.stackTraces = false) (G : mq_G) (sb sn : Nat) (sx : Nat → Int32) (hG : pG G sb sn sx) (hA : pA G) (hn : sn = 4) (La : Nat → Nat) (hI : mq_inj La) (Mb : Nat → Nat) (hb : mb_inj Mb) (hLM : ∀ r, r < 275 → ∀ i, mbU i = true → Mb i ≠ La r) (M : mq_M) (hV : vF G M La) (hD : mdI G M Mb 0) (hO : lwO G M (Mb 39) none)
    (C : mq_C p m c cL_law 9 s args wsL_law RL G.1.1 (mq_tys G) z) (cells slots : Nat) (hc : cells ≤ 1000) (hs : slots ≤ 1000000)
    (kk : ∀ (M2 : mq_M) (cells2 slots2 : Nat), cells2 ≤ 2000 → slots2 ≤ 2000000 → mq_X p l e { frames := 12, cells := 600002, slots := 7302232, locals := 436 } s m args below meth c Q 9 G.1.1 z s.heap cells2 slots2 M2 2554 [some (.ref sb), some (.ref (La 0)), some (.ref (Mb 0)), some (.ref (Mb 39)), some (.int (zI 0)), none, none, none, none] []) : mq_X p l e { frames := 12, cells := 600002, slots := 7302232, locals := 436 } s m args below meth c Q 9 G.1.1 z s.heap cells slots M 2387 [some (.ref sb), some (.ref (La 0)), some (.ref (Mb 0)), some (.ref (Mb 39)), some (.int (zI 0)), none, none, none, none] [] := by
  subst hn
  obtain ⟨i, ei, hir⟩ := zI_of (sx 1)
  obtain ⟨q, eq, hqr⟩ := zI_of (sx 2)
  refine xr_aload_n C dL_law_2387 rfl ?_
  refine xr_aload_n C dL_law_2388 rfl ?_
  refine xr_iload C dL_law_2389 rfl ?_
  refine xr_iconst (n := 1) C dL_law_2391 (by decide +kernel) ?_
  refine xr_iadd C dL_law_2392 ?_
  refine xr_sldv C (hG.old C).1 (by omega) (by omega) (by omega) (by exact ei) dL_law_2393 ?_
  refine xr_aload_n C dL_law_2394 rfl ?_
  refine xr_iload C dL_law_2395 rfl ?_
  refine xr_iconst (n := 2) C dL_law_2397 (by decide +kernel) ?_
  refine xr_iadd C dL_law_2398 ?_
  refine xr_sldv C (hG.old C).1 (by omega) (by omega) (by omega) (by exact eq) dL_law_2399 ?_
  refine xr_aload_n C dL_law_2400 rfl ?_
  refine xr_callXH4i C (h_byteFound l hlt G sb 4 sx hG hA La hI M hV (Mb 39) (fun r9 hr9 => hLM r9 hr9 39 (by decide)) hO i hir q hqr) (vx_cwSW 4 C.1.2.2.2.2 gL_law_L_byteFound rfl rfl rfl (by decide +kernel) ⟨Nat.le_of_ble_eq_true rfl, Nat.le_of_ble_eq_true rfl⟩) (Nat.le_of_ble_eq_true rfl) ⟨by dsimp only; omega, by dsimp only; omega⟩ dL_law_2401 (fun _ _ h9 => h9.elim) (fun k9 M9 hp9 => ?_)
  obtain ⟨rfl, hO9, hF9⟩ := hp9
  obtain ⟨g9, hg9, hv9⟩ := hO9
  have hD9 : mdI G M9 Mb 0 := (hD.frU (fun i9 hi9 h9 => hF9 (Mb i9) (fun h8 => absurd (hb _ _ hi9 (by decide) h8) h9) (fun r9 hr9 => hLM r9 hr9 i9 hi9)))
  refine xr_istore C dL_law_2404 (by decide) rfl ?_
  refine xr_aload_n C dL_law_2406 rfl ?_
  refine xr_aload_n C dL_law_2407 rfl ?_
  refine xr_iload C dL_law_2408 rfl ?_
  refine xr_iconst (n := 1) C dL_law_2410 (by decide +kernel) ?_
  refine xr_iadd C dL_law_2411 ?_
  refine xr_sldv C (hG.old C).1 (by omega) (by omega) (by omega) (by exact ei) dL_law_2412 ?_
  refine xr_aload_n C dL_law_2413 rfl ?_
  refine xr_iload C dL_law_2414 rfl ?_
  refine xr_iconst (n := 2) C dL_law_2416 (by decide +kernel) ?_
  refine xr_iadd C dL_law_2417 ?_
  refine xr_sldv C (hG.old C).1 (by omega) (by omega) (by omega) (by exact eq) dL_law_2418 ?_
  refine xr_callV2i C (m_byteFound l G Mb hb 0 M9 hD9 i hir q hqr) (cwV 2 C.1.2.2.2.2 gL_law_X12_byteFound rfl rfl rfl (by decide +kernel) ⟨Nat.le_of_ble_eq_true rfl, Nat.le_of_ble_eq_true rfl⟩) hD9.1 rfl (Nat.le_of_ble_eq_true rfl) ⟨by dsimp only; omega, by dsimp only; omega⟩ dL_law_2419 (fun r8 M8 hp8 => ?_)
  obtain ⟨hr8, hQ8⟩ := hp8
  obtain ⟨⟨vs8, hT8⟩, h39⟩ := hQ8
  refine xr_istore C dL_law_2422 (by decide) rfl ?_
  refine xr_aload_n C dL_law_2424 rfl ?_
  refine xr_callV0i C (m_thrown l G M8 (Mb 0) 1 vs8 hT8) (cwV 0 C.1.2.2.2.2 gL_law_X12_thrown rfl rfl rfl (by decide +kernel) ⟨Nat.le_of_ble_eq_true rfl, Nat.le_of_ble_eq_true rfl⟩) hT8 rfl (Nat.le_of_ble_eq_true rfl) ⟨by dsimp only; omega, by dsimp only; omega⟩ dL_law_2425 (fun t8 M7 hp7 => ?_)
  obtain ⟨rfl, rfl⟩ := hp7
  refine xr_iload C dL_law_2428 rfl ?_
  refine xr_icmp_eq C dL_law_2430 rfl (by decide) (by decide) (fun _ => ?_) (fun hq => absurd hq (by omega))
  refine xr_iload C dL_law_2435 rfl ?_
  refine xr_if_ne C dL_law_2437 rfl (by decide) (fun _ => ?_) (fun hq => absurd hq (by decide))
  refine xr_goto C dL_law_2452 rfl ?_
  refine mq_drop 5 ?_
  refine mq_drop 6 ?_
  exact kk _ _ _ (by omega) (by omega)
set_option maxHeartbeats 4000000 in
set_option maxRecDepth 100000 in
theorem lb_42 {p : Program} {e : Env} {s : State} {m : MethodId} {args : Array Value} {below : List Frame} {meth : Method} {c : Code} {Q : State → Prop} {z : Nat} (l : Launch) (hlt : l.stackTraces = false) (G : mq_G) (sb sn : Nat) (sx : Nat → Int32) (hG : pG G sb sn sx) (hA : pA G) (hn : sn = 4) (La : Nat → Nat) (hI : mq_inj La) (Mb : Nat → Nat) (hb : mb_inj Mb) (hLM : ∀ r, r < 275 → ∀ i, mbU i = true → Mb i ≠ La r) (M : mq_M) (hV : vF G M La) (hD : mdI G M Mb 0) (hO : lwO G M (Mb 39) none)
    (C : mq_C p m c cL_law 9 s args wsL_law RL G.1.1 (mq_tys G) z) (cells slots : Nat) (hc : cells ≤ 1000) (hs : slots ≤ 1000000)
    (kk : ∀ (M2 : mq_M) (cells2 slots2 : Nat), cells2 ≤ 2000 → slots2 ≤ 2000000 → mq_X p l e { frames := 12, cells := 600002, slots := 7302232, locals := 436 } s m args below meth c Q 9 G.1.1 z s.heap cells2 slots2 M2 2554 [some (.ref sb), some (.ref (La 0)), some (.ref (Mb 0)), some (.ref (Mb 39)), some (.int (zI 0)), none, none, none, none] []) : mq_X p l e { frames := 12, cells := 600002, slots := 7302232, locals := 436 } s m args below meth c Q 9 G.1.1 z s.heap cells slots M 2455 [some (.ref sb), some (.ref (La 0)), some (.ref (Mb 0)), some (.ref (Mb 39)), some (.int (zI 0)), none, none, none, none] [] := by
  subst hn
  refine xr_aload_n C dL_law_2455 rfl ?_
  refine xr_aload_n C dL_law_2456 rfl ?_
  refine xr_callXH2i C (h_restore l hlt G sb 4 sx hG hA La hI M hV (Mb 39) (fun r9 hr9 => hLM r9 hr9 39 (by decide)) hO) (vx_cwSW 2 C.1.2.2.2.2 gL_law_L_restore rfl rfl rfl (by decide +kernel) ⟨Nat.le_of_ble_eq_true rfl, Nat.le_of_ble_eq_true rfl⟩) (Nat.le_of_ble_eq_true rfl) ⟨by dsimp only; omega, by dsimp only; omega⟩ dL_law_2457 (fun _ _ h9 => h9.elim) (fun k9 M9 hp9 => ?_)
  obtain ⟨rfl, hO9, hF9⟩ := hp9
  obtain ⟨g9, hg9, hv9⟩ := hO9
  have hD9 : mdI G M9 Mb 0 := (hD.frU (fun i9 hi9 h9 => hF9 (Mb i9) (fun h8 => absurd (hb _ _ hi9 (by decide) h8) h9) (fun r9 hr9 => hLM r9 hr9 i9 hi9)))
  refine xr_istore C dL_law_2460 (by decide) rfl ?_
  refine xr_aload_n C dL_law_2462 rfl ?_
  refine xr_callV0i C (m_restore l G Mb hb 0 M9 hD9) (cwV 0 C.1.2.2.2.2 gL_law_X12_restore rfl rfl rfl (by decide +kernel) ⟨Nat.le_of_ble_eq_true rfl, Nat.le_of_ble_eq_true rfl⟩) hD9.1 rfl (Nat.le_of_ble_eq_true rfl) ⟨by dsimp only; omega, by dsimp only; omega⟩ dL_law_2463 (fun r8 M8 hp8 => ?_)
  obtain ⟨hr8, hQ8⟩ := hp8
  obtain ⟨⟨vs8, hT8⟩, h39⟩ := hQ8
  refine xr_istore C dL_law_2466 (by decide) rfl ?_
  refine xr_aload_n C dL_law_2468 rfl ?_
  refine xr_callV0i C (m_thrown l G M8 (Mb 0) 1 vs8 hT8) (cwV 0 C.1.2.2.2.2 gL_law_X12_thrown rfl rfl rfl (by decide +kernel) ⟨Nat.le_of_ble_eq_true rfl, Nat.le_of_ble_eq_true rfl⟩) hT8 rfl (Nat.le_of_ble_eq_true rfl) ⟨by dsimp only; omega, by dsimp only; omega⟩ dL_law_2469 (fun t8 M7 hp7 => ?_)
  obtain ⟨rfl, rfl⟩ := hp7
  refine xr_iload C dL_law_2472 rfl ?_
  refine xr_icmp_eq C dL_law_2474 rfl (by decide) (by decide) (fun _ => ?_) (fun hq => absurd hq (by omega))
  refine xr_iload C dL_law_2479 rfl ?_
  refine xr_if_ne C dL_law_2481 rfl (by decide) (fun _ => ?_) (fun hq => absurd hq (by decide))
  refine xr_goto C dL_law_2496 rfl ?_
  refine mq_drop 5 ?_
  refine mq_drop 6 ?_
  exact kk _ _ _ (by omega) (by omega)
