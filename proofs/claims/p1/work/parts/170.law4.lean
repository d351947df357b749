/-! ===== p1: the switch, the loop ===== -/
set_option maxHeartbeats 4000000 in
set_option maxRecDepth 100000 in
theorem lb_sw {p : Program} {e : Env} {s : State} {m : MethodId} {args : Array Value} {below : List Frame} {meth : Method} {c : Code} {Q : State → Prop} {z : Nat} (l : Launch) (hlt : l.stackTraces = false) (G : mq_G) (sb sn : Nat) (sx : Nat → Int32) (hG : pG G sb sn sx) (hA : pA G) (hn : sn = 4) (La : Nat → Nat) (hI : mq_inj La) (Mb : Nat → Nat) (hb : mb_inj Mb) (hLM : ∀ r, r < 275 → ∀ i, mbU i = true → Mb i ≠ La r) (M : mq_M) (hV : vF G M La) (hD : mdI G M Mb 0) (hO : lwO G M (Mb 39) none)
    (C : mq_C p m c cL_law 9 s args wsL_law RL G.1.1 (mq_tys G) z) (cells slots : Nat) (hc : cells ≤ 1000) (hs : slots ≤ 1000000)
    (kk : ∀ (M2 : mq_M) (cells2 slots2 : Nat), cells2 ≤ 2000 → slots2 ≤ 2000000 → mq_X p l e { frames := 12, cells := 600002, slots := 7302232, locals := 436 } s m args below meth c Q 9 G.1.1 z s.heap cells2 slots2 M2 2554 [some (.ref sb), some (.ref (La 0)), some (.ref (Mb 0)), some (.ref (Mb 39)), some (.int (zI 0)), none, none, none, none] []) (v : Int) (hv : 0 ≤ v ∧ v < 64) : mq_X p l e { frames := 12, cells := 600002, slots := 7302232, locals := 436 } s m args below meth c Q 9 G.1.1 z s.heap cells slots M 39 [some (.ref sb), some (.ref (La 0)), some (.ref (Mb 0)), some (.ref (Mb 39)), some (.int (zI 0)), none, none, none, none] [.int (zI v)] := by
  by_cases h45 : v < 45
  · have hq : v = 0 ∨ v = 1 ∨ v = 2 ∨ v = 3 ∨ v = 4 ∨ v = 5 ∨ v = 6 ∨ v = 7 ∨ v = 8 ∨ v = 9 ∨ v = 10 ∨ v = 11 ∨ v = 12 ∨ v = 13 ∨ v = 14 ∨ v = 15 ∨ v = 16 ∨ v = 17 ∨ v = 18 ∨ v = 19 ∨ v = 20 ∨ v = 21 ∨ v = 22 ∨ v = 23 ∨ v = 24 ∨ v = 25 ∨ v = 26 ∨ v = 27 ∨ v = 28 ∨ v = 29 ∨ v = 30 ∨ v = 31 ∨ v = 32 ∨ v = 33 ∨ v = 34 ∨ v = 35 ∨ v = 36 ∨ v = 37 ∨ v = 38 ∨ v = 39 ∨ v = 40 ∨ v = 41 ∨ v = 42 ∨ v = 43 ∨ v = 44 := by omega
    rcases hq with rfl | rfl | rfl | rfl | rfl | rfl | rfl | rfl | rfl | rfl | rfl | rfl | rfl | rfl | rfl | rfl | rfl | rfl | rfl | rfl | rfl | rfl | rfl | rfl | rfl | rfl | rfl | rfl | rfl | rfl | rfl | rfl | rfl | rfl | rfl | rfl | rfl | rfl | rfl | rfl | rfl | rfl | rfl | rfl | rfl
    · refine xr_tableIn (off := 193) (tgt := 232) C dL_law_39 (by decide +kernel) (by decide +kernel) (by decide +kernel) (by decide) ?_
      exact lb_0 l hlt G sb sn sx hG hA hn La hI Mb hb hLM M hV hD hO C cells slots hc hs kk
    · refine xr_tableIn (off := 261) (tgt := 300) C dL_law_39 (by decide +kernel) (by decide +kernel) (by decide +kernel) (by decide) ?_
      exact lb_1 l hlt G sb sn sx hG hA hn La hI Mb hb hLM M hV hD hO C cells slots hc hs kk
    · refine xr_tableIn (off := 317) (tgt := 356) C dL_law_39 (by decide +kernel) (by decide +kernel) (by decide +kernel) (by decide) ?_
      exact lb_2 l hlt G sb sn sx hG hA hn La hI Mb hb hLM M hV hD hO C cells slots hc hs kk
    · refine xr_tableIn (off := 385) (tgt := 424) C dL_law_39 (by decide +kernel) (by decide +kernel) (by decide +kernel) (by decide) ?_
      exact lb_3 l hlt G sb sn sx hG hA hn La hI Mb hb hLM M hV hD hO C cells slots hc hs kk
    · refine xr_tableIn (off := 453) (tgt := 492) C dL_law_39 (by decide +kernel) (by decide +kernel) (by decide +kernel) (by decide) ?_
      exact lb_4 l hlt G sb sn sx hG hA hn La hI Mb hb hLM M hV hD hO C cells slots hc hs kk
    · refine xr_tableIn (off := 521) (tgt := 560) C dL_law_39 (by decide +kernel) (by decide +kernel) (by decide +kernel) (by decide) ?_
      exact lb_5 l hlt G sb sn sx hG hA hn La hI Mb hb hLM M hV hD hO C cells slots hc hs kk
    · refine xr_tableIn (off := 589) (tgt := 628) C dL_law_39 (by decide +kernel) (by decide +kernel) (by decide +kernel) (by decide) ?_
      exact lb_6 l hlt G sb sn sx hG hA hn La hI Mb hb hLM M hV hD hO C cells slots hc hs kk
    · refine xr_tableIn (off := 645) (tgt := 684) C dL_law_39 (by decide +kernel) (by decide +kernel) (by decide +kernel) (by decide) ?_
      exact lb_7 l hlt G sb sn sx hG hA hn La hI Mb hb hLM M hV hD hO C cells slots hc hs kk
    · refine xr_tableIn (off := 701) (tgt := 740) C dL_law_39 (by decide +kernel) (by decide +kernel) (by decide +kernel) (by decide) ?_
      exact lb_8 l hlt G sb sn sx hG hA hn La hI Mb hb hLM M hV hD hO C cells slots hc hs kk
    · refine xr_tableIn (off := 726) (tgt := 765) C dL_law_39 (by decide +kernel) (by decide +kernel) (by decide +kernel) (by decide) ?_
      exact lb_9 l hlt G sb sn sx hG hA hn La hI Mb hb hLM M hV hD hO C cells slots hc hs kk
    · refine xr_tableIn (off := 739) (tgt := 778) C dL_law_39 (by decide +kernel) (by decide +kernel) (by decide +kernel) (by decide) ?_
      exact lb_10 l hlt G sb sn sx hG hA hn La hI Mb hb hLM M hV hD hO C cells slots hc hs kk
    · refine xr_tableIn (off := 795) (tgt := 834) C dL_law_39 (by decide +kernel) (by decide +kernel) (by decide +kernel) (by decide) ?_
      exact lb_11 l hlt G sb sn sx hG hA hn La hI Mb hb hLM M hV hD hO C cells slots hc hs kk
    · refine xr_tableIn (off := 851) (tgt := 890) C dL_law_39 (by decide +kernel) (by decide +kernel) (by decide +kernel) (by decide) ?_
      exact lb_12 l hlt G sb sn sx hG hA hn La hI Mb hb hLM M hV hD hO C cells slots hc hs kk
    · refine xr_tableIn (off := 919) (tgt := 958) C dL_law_39 (by decide +kernel) (by decide +kernel) (by decide +kernel) (by decide) ?_
      exact lb_13 l hlt G sb sn sx hG hA hn La hI Mb hb hLM M hV hD hO C cells slots hc hs kk
    · refine xr_tableIn (off := 975) (tgt := 1014) C dL_law_39 (by decide +kernel) (by decide +kernel) (by decide +kernel) (by decide) ?_
      exact lb_14 l hlt G sb sn sx hG hA hn La hI Mb hb hLM M hV hD hO C cells slots hc hs kk
    · refine xr_tableIn (off := 1031) (tgt := 1070) C dL_law_39 (by decide +kernel) (by decide +kernel) (by decide +kernel) (by decide) ?_
      exact lb_15 l hlt G sb sn sx hG hA hn La hI Mb hb hLM M hV hD hO C cells slots hc hs kk
    · refine xr_tableIn (off := 1099) (tgt := 1138) C dL_law_39 (by decide +kernel) (by decide +kernel) (by decide +kernel) (by decide) ?_
      exact lb_16 l hlt G sb sn sx hG hA hn La hI Mb hb hLM M hV hD hO C cells slots hc hs kk
    · refine xr_tableIn (off := 1112) (tgt := 1151) C dL_law_39 (by decide +kernel) (by decide +kernel) (by decide +kernel) (by decide) ?_
      exact lb_17 l hlt G sb sn sx hG hA hn La hI Mb hb hLM M hV hD hO C cells slots hc hs kk
    · refine xr_tableIn (off := 1180) (tgt := 1219) C dL_law_39 (by decide +kernel) (by decide +kernel) (by decide +kernel) (by decide) ?_
      exact lb_18 l hlt G sb sn sx hG hA hn La hI Mb hb hLM M hV hD hO C cells slots hc hs kk
    · refine xr_tableIn (off := 1236) (tgt := 1275) C dL_law_39 (by decide +kernel) (by decide +kernel) (by decide +kernel) (by decide) ?_
      exact lb_19 l hlt G sb sn sx hG hA hn La hI Mb hb hLM M hV hD hO C cells slots hc hs kk
    · refine xr_tableIn (off := 1304) (tgt := 1343) C dL_law_39 (by decide +kernel) (by decide +kernel) (by decide +kernel) (by decide) ?_
      exact lb_20 l hlt G sb sn sx hG hA hn La hI Mb hb hLM M hV hD hO C cells slots hc hs kk
    · refine xr_tableIn (off := 1384) (tgt := 1423) C dL_law_39 (by decide +kernel) (by decide +kernel) (by decide +kernel) (by decide) ?_
      exact lb_21 l hlt G sb sn sx hG hA hn La hI Mb hb hLM M hV hD hO C cells slots hc hs kk
    · refine xr_tableIn (off := 1440) (tgt := 1479) C dL_law_39 (by decide +kernel) (by decide +kernel) (by decide +kernel) (by decide) ?_
      exact lb_22 l hlt G sb sn sx hG hA hn La hI Mb hb hLM M hV hD hO C cells slots hc hs kk
    · refine xr_tableIn (off := 1508) (tgt := 1547) C dL_law_39 (by decide +kernel) (by decide +kernel) (by decide +kernel) (by decide) ?_
      exact lb_23 l hlt G sb sn sx hG hA hn La hI Mb hb hLM M hV hD hO C cells slots hc hs kk
    · refine xr_tableIn (off := 1571) (tgt := 1610) C dL_law_39 (by decide +kernel) (by decide +kernel) (by decide +kernel) (by decide) ?_
      exact lb_24 l hlt G sb sn sx hG hA hn La hI Mb hb hLM M hV hD hO C cells slots hc hs kk
    · refine xr_tableIn (off := 1639) (tgt := 1678) C dL_law_39 (by decide +kernel) (by decide +kernel) (by decide +kernel) (by decide) ?_
      exact lb_25 l hlt G sb sn sx hG hA hn La hI Mb hb hLM M hV hD hO C cells slots hc hs kk
    · refine xr_tableIn (off := 1707) (tgt := 1746) C dL_law_39 (by decide +kernel) (by decide +kernel) (by decide +kernel) (by decide) ?_
      exact lb_26 l hlt G sb sn sx hG hA hn La hI Mb hb hLM M hV hD hO C cells slots hc hs kk
    · refine xr_tableIn (off := 1770) (tgt := 1809) C dL_law_39 (by decide +kernel) (by decide +kernel) (by decide +kernel) (by decide) ?_
      exact lb_27 l hlt G sb sn sx hG hA hn La hI Mb hb hLM M hV hD hO C cells slots hc hs kk
    · refine xr_tableIn (off := 1783) (tgt := 1822) C dL_law_39 (by decide +kernel) (by decide +kernel) (by decide +kernel) (by decide) ?_
      exact lb_28 l hlt G sb sn sx hG hA hn La hI Mb hb hLM M hV hD hO C cells slots hc hs kk
    · refine xr_tableIn (off := 1796) (tgt := 1835) C dL_law_39 (by decide +kernel) (by decide +kernel) (by decide +kernel) (by decide) ?_
      exact lb_29 l hlt G sb sn sx hG hA hn La hI Mb hb hLM M hV hD hO C cells slots hc hs kk
    · refine xr_tableIn (off := 1852) (tgt := 1891) C dL_law_39 (by decide +kernel) (by decide +kernel) (by decide +kernel) (by decide) ?_
      exact lb_30 l hlt G sb sn sx hG hA hn La hI Mb hb hLM M hV hD hO C cells slots hc hs kk
    · refine xr_tableIn (off := 1865) (tgt := 1904) C dL_law_39 (by decide +kernel) (by decide +kernel) (by decide +kernel) (by decide) ?_
      exact lb_31 l hlt G sb sn sx hG hA hn La hI Mb hb hLM M hV hD hO C cells slots hc hs kk
    · refine xr_tableIn (off := 1909) (tgt := 1948) C dL_law_39 (by decide +kernel) (by decide +kernel) (by decide +kernel) (by decide) ?_
      exact lb_32 l hlt G sb sn sx hG hA hn La hI Mb hb hLM M hV hD hO C cells slots hc hs kk
    · refine xr_tableIn (off := 1922) (tgt := 1961) C dL_law_39 (by decide +kernel) (by decide +kernel) (by decide +kernel) (by decide) ?_
      exact lb_33 l hlt G sb sn sx hG hA hn La hI Mb hb hLM M hV hD hO C cells slots hc hs kk
    · refine xr_tableIn (off := 1966) (tgt := 2005) C dL_law_39 (by decide +kernel) (by decide +kernel) (by decide +kernel) (by decide) ?_
      exact lb_34 l hlt G sb sn sx hG hA hn La hI Mb hb hLM M hV hD hO C cells slots hc hs kk
    · refine xr_tableIn (off := 2022) (tgt := 2061) C dL_law_39 (by decide +kernel) (by decide +kernel) (by decide +kernel) (by decide) ?_
      exact lb_35 l hlt G sb sn sx hG hA hn La hI Mb hb hLM M hV hD hO C cells slots hc hs kk
    · refine xr_tableIn (off := 2073) (tgt := 2112) C dL_law_39 (by decide +kernel) (by decide +kernel) (by decide +kernel) (by decide) ?_
      exact lb_36 l hlt G sb sn sx hG hA hn La hI Mb hb hLM M hV hD hO C cells slots hc hs kk
    · refine xr_tableIn (off := 2117) (tgt := 2156) C dL_law_39 (by decide +kernel) (by decide +kernel) (by decide +kernel) (by decide) ?_
      exact lb_37 l hlt G sb sn sx hG hA hn La hI Mb hb hLM M hV hD hO C cells slots hc hs kk
    · refine xr_tableIn (off := 2173) (tgt := 2212) C dL_law_39 (by decide +kernel) (by decide +kernel) (by decide +kernel) (by decide) ?_
      exact lb_38 l hlt G sb sn sx hG hA hn La hI Mb hb hLM M hV hD hO C cells slots hc hs kk
    · refine xr_tableIn (off := 2229) (tgt := 2268) C dL_law_39 (by decide +kernel) (by decide +kernel) (by decide +kernel) (by decide) ?_
      exact lb_39 l hlt G sb sn sx hG hA hn La hI Mb hb hLM M hV hD hO C cells slots hc hs kk
    · refine xr_tableIn (off := 2292) (tgt := 2331) C dL_law_39 (by decide +kernel) (by decide +kernel) (by decide +kernel) (by decide) ?_
      exact lb_40 l hlt G sb sn sx hG hA hn La hI Mb hb hLM M hV hD hO C cells slots hc hs kk
    · refine xr_tableIn (off := 2348) (tgt := 2387) C dL_law_39 (by decide +kernel) (by decide +kernel) (by decide +kernel) (by decide) ?_
      exact lb_41 l hlt G sb sn sx hG hA hn La hI Mb hb hLM M hV hD hO C cells slots hc hs kk
    · refine xr_tableIn (off := 2416) (tgt := 2455) C dL_law_39 (by decide +kernel) (by decide +kernel) (by decide +kernel) (by decide) ?_
      exact lb_42 l hlt G sb sn sx hG hA hn La hI Mb hb hLM M hV hD hO C cells slots hc hs kk
    · refine xr_tableIn (off := 2460) (tgt := 2499) C dL_law_39 (by decide +kernel) (by decide +kernel) (by decide +kernel) (by decide) ?_
      exact lb_43 l hlt G sb sn sx hG hA hn La hI Mb hb hLM M hV hD hO C cells slots hc hs kk
    · refine xr_tableIn (off := 2501) (tgt := 2540) C dL_law_39 (by decide +kernel) (by decide +kernel) (by decide +kernel) (by decide) ?_
      exact lb_44 l hlt G sb sn sx hG hA hn La hI Mb hb hLM M hV hD hO C cells slots hc hs kk
  · refine xr_tableOut (tgt := 2554) C dL_law_39 (Or.inr (by rw [zI_toInt (by omega)]; omega)) (by decide) ?_
    exact kk _ _ _ (by omega) (by omega)
set_option maxHeartbeats 4000000 in
set_option maxRecDepth 100000 in
theorem lb_main {p : Program} {e : Env} {s : State} {m : MethodId} {args : Array Value} {below : List Frame} {meth : Method} {c : Code} {Q : State → Prop} {z : Nat} (l : Launch) (hlt : l.stackTraces = false) (G : mq_G) (sb sn : Nat) (sx : Nat → Int32) (hG : pG G sb sn sx) (hA : pA G) (hn : sn ≤ 4) (C : mq_C p m c cL_law 9 s args wsL_law RL G.1.1 (mq_tys G) z) (hE : ∀ (M2 : mq_M) (cells2 slots2 : Nat) (L2 : List (Option Value)), cells2 ≤ 2000 → slots2 ≤ 2000000 → mq_X p l e { frames := 12, cells := 600002, slots := 7302232, locals := 436 } s m args below meth c Q 9 G.1.1 z s.heap cells2 slots2 M2 2561 L2 [.int (zI 1)]) : mq_X p l e { frames := 12, cells := 600002, slots := 7302232, locals := 436 } s m args below meth c Q 9 G.1.1 z s.heap 0 0 (fun _ => none) 0 [some (.ref sb), none, none, none, none, none, none, none, none] [] := by
  refine xr_new C (ci := 10) (fs := [.null, .null, .null, .null, .null]) (Cn := RX11) (T := TX11) (N := 5) (by decide +kernel) tyX11 tyX11_ok (C.1.2.2.2.2 (.classLink RL 8 RX11) (by decide +kernel)) (C.1.2.2.2.2 (.instantiable RX11 5) (by decide +kernel)) (C.1.2.2.2.2 (.initialized RX11) (by decide +kernel)) rfl (fun j hj => by rcases (show j = 0 ∨ j = 1 ∨ j = 2 ∨ j = 3 ∨ j = 4 by omega) with rfl | rfl | rfl | rfl | rfl <;> rfl) (by dsimp only; omega) (by dsimp only; omega) dL_law_0 (fun q1 hq1 => ?_)
  refine mq_ren (fun M2 hM2 => ?_)
  refine xr_dup C dL_law_3 rfl ?_
  refine xr_callI0 C (c_Vault_init l G q1 M2 (by rw [hM2, mq_up_s])) (cwI 0 C.1.2.2.2.2 gL_law_X11_init rfl rfl rfl (C.1.2.2.2.2 (.initialized RX11) (by decide +kernel)) (C.1.2.2.2.2 (.methodLink RL 129 yX11_init) (by decide +kernel)) (C.1.2.2.2.2 (.instanceMethod yX11_init) (by decide +kernel)) rfl (by decide +kernel) ⟨Nat.le_of_ble_eq_true rfl, Nat.le_of_ble_eq_true rfl⟩) (Nat.le_of_ble_eq_true rfl) ⟨by dsimp only; omega, by dsimp only; omega⟩ dL_law_4 (fun M2 hp2 => ?_)
  obtain ⟨La, hL0, hI, hnew, v1, v2, v3, v4, v5, v6, v7, hK2⟩ := hp2
  subst hL0
  have hV2 : vF G M2 La := vF.mk v1 v2 v3 v4 v5 v6 v7
  have hnn : ∀ r, r < 275 → M2 (La r) ≠ none := vault_nn v1 v2 v3 v4 v5 v6 v7
  refine xr_astore_n C dL_law_7 (by decide) rfl ?_
  refine xr_new C (ci := 11) (fs := [.int 0, .null, .int 0, .int 0, .null, .null, .null, .null, .null, .int 0, .int 0, .int 0, .null, .int 0, .int 0, .null, .null, .null, .null, .null, .null, .null, .null, .int 0, .int 0]) (Cn := RX12) (T := TX12) (N := 25) (by decide +kernel) tyX12 tyX12_ok (C.1.2.2.2.2 (.classLink RL 130 RX12) (by decide +kernel)) (C.1.2.2.2.2 (.instantiable RX12 25) (by decide +kernel)) (C.1.2.2.2.2 (.initialized RX12) (by decide +kernel)) rfl (fun j hj => by rcases (show j = 0 ∨ j = 1 ∨ j = 2 ∨ j = 3 ∨ j = 4 ∨ j = 5 ∨ j = 6 ∨ j = 7 ∨ j = 8 ∨ j = 9 ∨ j = 10 ∨ j = 11 ∨ j = 12 ∨ j = 13 ∨ j = 14 ∨ j = 15 ∨ j = 16 ∨ j = 17 ∨ j = 18 ∨ j = 19 ∨ j = 20 ∨ j = 21 ∨ j = 22 ∨ j = 23 ∨ j = 24 by omega) with rfl | rfl | rfl | rfl | rfl | rfl | rfl | rfl | rfl | rfl | rfl | rfl | rfl | rfl | rfl | rfl | rfl | rfl | rfl | rfl | rfl | rfl | rfl | rfl | rfl <;> rfl) (by dsimp only; omega) (by dsimp only; omega) dL_law_8 (fun q3 hq3 => ?_)
  refine mq_ren (fun M4 hM4 => ?_)
  refine xr_dup C dL_law_11 rfl ?_
  refine xr_callI0 C (c_minit l G sb sn sx hG hA q3 M4 (by rw [hM4, mq_up_s])) (cwI 0 C.1.2.2.2.2 gL_law_X12_init rfl rfl rfl (C.1.2.2.2.2 (.initialized RX12) (by decide +kernel)) (C.1.2.2.2.2 (.methodLink RL 132 yX12_init) (by decide +kernel)) (C.1.2.2.2.2 (.instanceMethod yX12_init) (by decide +kernel)) rfl (by decide +kernel) ⟨Nat.le_of_ble_eq_true rfl, Nat.le_of_ble_eq_true rfl⟩) (Nat.le_of_ble_eq_true rfl) ⟨by dsimp only; omega, by dsimp only; omega⟩ dL_law_12 (fun M4 hp4 => ?_)
  obtain ⟨g, hg0, hgD, hgI, hgn, hgf, hK4⟩ := hp4
  subst hg0
  have hZ : iq_Z M2 M4 := iq_Z.obj hq3 hM4 hK4
  refine xr_astore_n C dL_law_15 (by decide) rfl ?_
  refine xr_iconst (n := 1) C dL_law_16 (by decide +kernel) ?_
  refine xr_newJ C (C.1.2.2.2.2 (.arrayClass .long) (by decide +kernel)) hA.J (by omega) (by dsimp only; omega) (by dsimp only; omega) dL_law_17 (fun q5 hq5 => ?_)
  refine mq_ren (fun M5 hM5 => ?_)
  have hU : ∀ i, mdU i = true → q5 ≠ g i := fun i hi e => hgn i hi (by rw [← e]; exact hq5)
  have hZ6 : iq_Z M4 M5 := iq_Z.rf.new hq5 hM5
  generalize hMb : (fun i => if i = 39 then q5 else g i : Nat → Nat) = Mb
  have hb39 : Mb 39 = q5 := by rw [← hMb]; rfl
  have hbg : ∀ i, mdU i = true → Mb i = g i := fun i hi => by
    rw [← hMb]
    have h21 := mdU_lt hi
    show (if i = 39 then q5 else g i) = g i
    rw [if_neg (by omega)]
  have hUs : ∀ i, mbU i = true → i = 39 ∨ mdU i = true := fun i hi => by
    unfold mbU at hi; unfold mdU
    simp only [Bool.or_eq_true, decide_eq_true_eq, beq_iff_eq] at hi ⊢
    omega
  have hb : mb_inj Mb := fun i j hi hj e => by
    rcases hUs i hi with rfl | h1 <;> rcases hUs j hj with rfl | h2
    · rfl
    · rw [hb39, hbg j h2] at e; exact absurd e (hU j h2)
    · rw [hb39, hbg i h1] at e; exact absurd e.symm (hU i h1)
    · rw [hbg i h1, hbg j h2] at e; exact hgI i j h1 h2 e
  have hLM : ∀ r, r < 275 → ∀ i, mbU i = true → Mb i ≠ La r := fun r hr i hi e => by
    rcases hUs i hi with rfl | h1
    · rw [hb39] at e
      exact iq_Z.nn hZ (hnn r hr) (by rw [← e]; exact hq5)
    · rw [hbg i h1] at e
      by_cases h0 : i = 0
      · subst h0; exact hnn r hr (by rw [← e]; exact hq3)
      · have h3 := hgf i h1 h0
        rw [e] at h3
        exact iq_upnn hM4 (hnn r hr) h3
  have hD6 : mdI G M5 Mb 0 := (hgD Mb hbg).frU (fun i hi h9 => by
    rcases hUs i hi with rfl | h1
    · exact absurd rfl h9
    · rw [hbg i h1]; exact hZ6 _ (hgn i h1))
  have hV6 : vF G M5 La := vI.k0 (vI.k0 hV2 hZ) hZ6
  have hO6 : lwO G M5 (Mb 39) none := ⟨fun _ => 0, by rw [hb39, hM5, mq_up_s]; rfl, fun _ h => by cases h⟩
  rw [show g 0 = Mb 0 from (hbg 0 (by decide)).symm, show q5 = Mb 39 from hb39.symm]
  refine xr_astore_n C dL_law_19 (by decide) rfl ?_
  refine xr_iconst (n := 0) C dL_law_20 (by decide +kernel) ?_
  refine xr_istore C dL_law_21 (by decide) rfl ?_
  refine xr_iload C dL_law_23 rfl ?_
  refine xr_aload_n C dL_law_25 rfl ?_
  refine xr_slen C (hG.old C).1 dL_law_26 ?_
  refine xr_iconst (n := 4) C dL_law_27 (by decide +kernel) ?_
  refine xr_isub C dL_law_28 ?_
  refine xr_icmp_gt C dL_law_29 rfl (by omega) (by omega) (fun hq6 => ?_) (fun hq6 => ?_)
  · refine xr_iconst (n := 1) C dL_law_2560 (by decide +kernel) ?_
    exact hE _ _ _ _ (by omega) (by omega)
  · have h4 : sn = 4 := by omega
    refine xr_aload_n C dL_law_32 rfl ?_
    refine xr_iload C dL_law_33 rfl ?_
    refine xr_sld C (hG.old C).1 (by omega) (by omega) (by omega) dL_law_35 ?_
    refine xr_bipush (n := 63) C dL_law_36 (by decide +kernel) ?_
    obtain ⟨v, hv, ev⟩ := pk_andE (sx (0 : Int).toNat) (m := zI 63) 6 (by decide +kernel)
    refine xr_iand (w := (v : Int)) C dL_law_38 (by rw [ev]; rfl) ?_
    refine lb_sw l hlt G sb sn sx hG hA h4 La hI Mb hb hLM M5 hV6 hD6 hO6 C _ _ (by omega) (by omega) (fun M9 c9 s9 hc9 hs9 => ?_) (v : Int) (by omega)
    refine xr_iinc C dL_law_2554 rfl (by decide) rfl ?_
    refine xr_goto C dL_law_2557 rfl ?_
    refine xr_iload C dL_law_23 rfl ?_
    refine xr_aload_n C dL_law_25 rfl ?_
    refine xr_slen C (hG.old C).1 dL_law_26 ?_
    refine xr_iconst (n := 4) C dL_law_27 (by decide +kernel) ?_
    refine xr_isub C dL_law_28 ?_
    refine xr_icmp_gt C dL_law_29 rfl (by omega) (by omega) (fun _ => ?_) (fun hq => absurd hq (by omega))
    refine xr_iconst (n := 1) C dL_law_2560 (by decide +kernel) ?_
    exact hE _ _ _ _ hc9 hs9
