set_option maxHeartbeats 4000000 in
set_option maxRecDepth 100000 in
theorem lb_9 {p : Program} {e : Env} {s : State} {m : MethodId} {args : Array Value} {below : List Frame} {meth : Method} {c : Code} {Q : State → Prop} {z : Nat} (l : Launch) (hlt : l.stackTraces = false) (G : mq_G) (sb sn : Nat) (sx : Nat → Int32) (hG : pG G sb sn sx) (hA : pA G) (hn : sn = 4) (La : Nat → Nat) (hI : mq_inj La) (Mb : Nat → Nat) (hb : mb_inj Mb) (hLM : ∀ r, r < 275 → ∀ i, mbU i = true → Mb i ≠ La r) (M : mq_M) (hV : vF G M La) (hD : mdI G M Mb 0) (hO : lwO G M (Mb 39) none)
    (C : mq_C p m c cL_law 9 s args wsL_law RL G.1.1 (mq_tys G) z) (cells slots : Nat) (hc : cells ≤ 1000) (hs : slots ≤ 1000000)
    (kk : ∀ (M2 : mq_M) (cells2 slots2 : Nat), cells2 ≤ 2000 → slots2 ≤ 2000000 → mq_X p l e { frames := 12, cells := 600002, slots := 7302232, locals := 436 } s m args below meth c Q 9 G.1.1 z s.heap cells2 slots2 M2 2554 [some (.ref sb), some (.ref (La 0)), some (.ref (Mb 0)), some (.ref (Mb 39)), some (.int (zI 0)), none, none, none, none] []) : mq_X p l e { frames := 12, cells := 600002, slots := 7302232, locals := 436 } s m args below meth c Q 9 G.1.1 z s.heap cells slots M 765 [some (.ref sb), some (.ref (La 0)), some (.ref (Mb 0)), some (.ref (Mb 39)), some (.int (zI 0)), none, none, none, none] [] := by
  subst hn
  refine xr_aload_n C dL_law_765 rfl ?_
  refine xr_callV0i C (c_files l G La hI M hV) (cwV 0 C.1.2.2.2.2 gL_law_X11_files rfl rfl rfl (by decide +kernel) ⟨Nat.le_of_ble_eq_true rfl, Nat.le_of_ble_eq_true rfl⟩) hV.1 rfl (Nat.le_of_ble_eq_true rfl) ⟨by dsimp only; omega, by dsimp only; omega⟩ dL_law_766 (fun r9 M9 hp9 => ?_)
  obtain ⟨rfl, rfl⟩ := hp9
  refine xr_aload_n C dL_law_769 rfl ?_
  refine xr_callV0i C (m_files l G Mb hb 0 M hD) (cwV 0 C.1.2.2.2.2 gL_law_X12_files rfl rfl rfl (by decide +kernel) ⟨Nat.le_of_ble_eq_true rfl, Nat.le_of_ble_eq_true rfl⟩) hD.1 rfl (Nat.le_of_ble_eq_true rfl) ⟨by dsimp only; omega, by dsimp only; omega⟩ dL_law_770 (fun r8 M8 hp8 => ?_)
  obtain ⟨hr8, -⟩ := hp8
  have e8 := hr8 rfl
  subst e8
  refine xr_icmp_eq C dL_law_773 rfl (by decide) (by decide) (fun _ => ?_) (fun hq => absurd hq (by omega))
  exact kk _ _ _ (by omega) (by omega)
set_option maxHeartbeats 4000000 in
set_option maxRecDepth 100000 in
theorem lb_10 {p : Program} {e : Env} {s : State} {m : MethodId} {args : Array Value} {below : List Frame} {meth : Method} {c : Code} {Q : State → Prop} {z : Nat} (l : Launch) (hlt : l.stackTraces = false) (G : mq_G) (sb sn : Nat) (sx : Nat → Int32) (hG : pG G sb sn sx) (hA : pA G) (hn : sn = 4) (La : Nat → Nat) (hI : mq_inj La) (Mb : Nat → Nat) (hb : mb_inj Mb) (hLM : ∀ r, r < 275 → ∀ i, mbU i = true → Mb i ≠ La r) (M : mq_M) (hV : vF G M La) (hD : mdI G M Mb 0) (hO : lwO G M (Mb 39) none)
    (C : mq_C p m c cL_law 9 s args wsL_law RL G.1.1 (mq_tys G) z) (cells slots : Nat) (hc : cells ≤ 1000) (hs : slots ≤ 1000000)
    (kk : ∀ (M2 : mq_M) (cells2 slots2 : Nat), cells2 ≤ 2000 → slots2 ≤ 2000000 → mq_X p l e { frames := 12, cells := 600002, slots := 7302232, locals := 436 } s m args below meth c Q 9 G.1.1 z s.heap cells2 slots2 M2 2554 [some (.ref sb), some (.ref (La 0)), some (.ref (Mb 0)), some (.ref (Mb 39)), some (.int (zI 0)), none, none, none, none] []) : mq_X p l e { frames := 12, cells := 600002, slots := 7302232, locals := 436 } s m args below meth c Q 9 G.1.1 z s.heap cells slots M 778 [some (.ref sb), some (.ref (La 0)), some (.ref (Mb 0)), some (.ref (Mb 39)), some (.int (zI 0)), none, none, none, none] [] := by
  subst hn
  obtain ⟨i, ei, hir⟩ := zI_of (sx 1)
  refine xr_aload_n C dL_law_778 rfl ?_
  refine xr_aload_n C dL_law_779 rfl ?_
  refine xr_iload C dL_law_780 rfl ?_
  refine xr_iconst (n := 1) C dL_law_782 (by decide +kernel) ?_
  refine xr_iadd C dL_law_783 ?_
  refine xr_sldv C (hG.old C).1 (by omega) (by omega) (by omega) (by exact ei) dL_law_784 ?_
  refine xr_aload_n C dL_law_785 rfl ?_
  refine xr_callXH3i C (h_keyOf l hlt G sb 4 sx hG hA La hI M hV (Mb 39) (fun r9 hr9 => hLM r9 hr9 39 (by decide)) hO i hir) (vx_cwSW 3 C.1.2.2.2.2 gL_law_L_keyOf rfl rfl rfl (by decide +kernel) ⟨Nat.le_of_ble_eq_true rfl, Nat.le_of_ble_eq_true rfl⟩) (Nat.le_of_ble_eq_true rfl) ⟨by dsimp only; omega, by dsimp only; omega⟩ dL_law_786 (fun _ _ h9 => h9.elim) (fun k9 M9 hp9 => ?_)
  obtain ⟨rfl, hO9, hF9⟩ := hp9
  obtain ⟨g9, hg9, hv9⟩ := hO9
  have hD9 : mdI G M9 Mb 0 := (hD.frU (fun i9 hi9 h9 => hF9 (Mb i9) (fun h8 => absurd (hb _ _ hi9 (by decide) h8) h9) (fun r9 hr9 => hLM r9 hr9 i9 hi9)))
  refine xr_istore C dL_law_789 (by decide) rfl ?_
  refine xr_aload_n C dL_law_791 rfl ?_
  refine xr_aload_n C dL_law_792 rfl ?_
  refine xr_iload C dL_law_793 rfl ?_
  refine xr_iconst (n := 1) C dL_law_795 (by decide +kernel) ?_
  refine xr_iadd C dL_law_796 ?_
  refine xr_sldv C (hG.old C).1 (by omega) (by omega) (by omega) (by exact ei) dL_law_797 ?_
  refine xr_callV1i C (m_keyOf l G Mb hb 0 M9 hD9 i hir) (cwV 1 C.1.2.2.2.2 gL_law_X12_keyOf rfl rfl rfl (by decide +kernel) ⟨Nat.le_of_ble_eq_true rfl, Nat.le_of_ble_eq_true rfl⟩) hD9.1 rfl (Nat.le_of_ble_eq_true rfl) ⟨by dsimp only; omega, by dsimp only; omega⟩ dL_law_798 (fun r8 M8 hp8 => ?_)
  obtain ⟨hr8, hQ8⟩ := hp8
  obtain ⟨⟨vs8, hT8⟩, h39⟩ := hQ8
  refine xr_istore C dL_law_801 (by decide) rfl ?_
  refine xr_aload_n C dL_law_803 rfl ?_
  refine xr_callV0i C (m_thrown l G M8 (Mb 0) 1 vs8 hT8) (cwV 0 C.1.2.2.2.2 gL_law_X12_thrown rfl rfl rfl (by decide +kernel) ⟨Nat.le_of_ble_eq_true rfl, Nat.le_of_ble_eq_true rfl⟩) hT8 rfl (Nat.le_of_ble_eq_true rfl) ⟨by dsimp only; omega, by dsimp only; omega⟩ dL_law_804 (fun t8 M7 hp7 => ?_)
  obtain ⟨rfl, rfl⟩ := hp7
  refine xr_iload C dL_law_807 rfl ?_
  refine xr_icmp_eq C dL_law_809 rfl (by decide) (by decide) (fun _ => ?_) (fun hq => absurd hq (by omega))
  refine xr_iload C dL_law_814 rfl ?_
  refine xr_if_ne C dL_law_816 rfl (by decide) (fun _ => ?_) (fun hq => absurd hq (by decide))
  refine xr_goto C dL_law_831 rfl ?_
  refine mq_drop 5 ?_
  refine mq_drop 6 ?_
  exact kk _ _ _ (by omega) (by omega)
set_option maxHeartbeats 4000000 in
set_option maxRecDepth 100000 in
theorem lb_11 {p : Program} {e : Env} {s : State} {m : MethodId} {args : Array Value} {below : List Frame} {meth : Method} {c : Code} {Q : State → Prop} {z : Nat} (l : Launch) (hlt : l.stackTraces = false) (G : mq_G) (sb sn : Nat) (sx : Nat → Int32) (hG : pG G sb sn sx) (hA : pA G) (hn : sn = 4) (La : Nat → Nat) (hI : mq_inj La) (Mb : Nat → Nat) (hb : mb_inj Mb) (hLM : ∀ r, r < 275 → ∀ i, mbU i = true → Mb i ≠ La r) (M : mq_M) (hV : vF G M La) (hD : mdI G M Mb 0) (hO : lwO G M (Mb 39) none)
    (C : mq_C p m c cL_law 9 s args wsL_law RL G.1.1 (mq_tys G) z) (cells slots : Nat) (hc : cells ≤ 1000) (hs : slots ≤ 1000000)
    (kk : ∀ (M2 : mq_M) (cells2 slots2 : Nat), cells2 ≤ 2000 → slots2 ≤ 2000000 → mq_X p l e { frames := 12, cells := 600002, slots := 7302232, locals := 436 } s m args below meth c Q 9 G.1.1 z s.heap cells2 slots2 M2 2554 [some (.ref sb), some (.ref (La 0)), some (.ref (Mb 0)), some (.ref (Mb 39)), some (.int (zI 0)), none, none, none, none] []) : mq_X p l e { frames := 12, cells := 600002, slots := 7302232, locals := 436 } s m args below meth c Q 9 G.1.1 z s.heap cells slots M 834 [some (.ref sb), some (.ref (La 0)), some (.ref (Mb 0)), some (.ref (Mb 39)), some (.int (zI 0)), none, none, none, none] [] := by
  subst hn
  obtain ⟨i, ei, hir⟩ := zI_of (sx 1)
  refine xr_aload_n C dL_law_834 rfl ?_
  refine xr_aload_n C dL_law_835 rfl ?_
  refine xr_iload C dL_law_836 rfl ?_
  refine xr_iconst (n := 1) C dL_law_838 (by decide +kernel) ?_
  refine xr_iadd C dL_law_839 ?_
  refine xr_sldv C (hG.old C).1 (by omega) (by omega) (by omega) (by exact ei) dL_law_840 ?_
  refine xr_aload_n C dL_law_841 rfl ?_
  refine xr_callXH3i C (h_lengthOf l hlt G sb 4 sx hG hA La hI M hV (Mb 39) (fun r9 hr9 => hLM r9 hr9 39 (by decide)) hO i hir) (vx_cwSW 3 C.1.2.2.2.2 gL_law_L_lengthOf rfl rfl rfl (by decide +kernel) ⟨Nat.le_of_ble_eq_true rfl, Nat.le_of_ble_eq_true rfl⟩) (Nat.le_of_ble_eq_true rfl) ⟨by dsimp only; omega, by dsimp only; omega⟩ dL_law_842 (fun _ _ h9 => h9.elim) (fun k9 M9 hp9 => ?_)
  obtain ⟨rfl, hO9, hF9⟩ := hp9
  obtain ⟨g9, hg9, hv9⟩ := hO9
  have hD9 : mdI G M9 Mb 0 := (hD.frU (fun i9 hi9 h9 => hF9 (Mb i9) (fun h8 => absurd (hb _ _ hi9 (by decide) h8) h9) (fun r9 hr9 => hLM r9 hr9 i9 hi9)))
  refine xr_istore C dL_law_845 (by decide) rfl ?_
  refine xr_aload_n C dL_law_847 rfl ?_
  refine xr_aload_n C dL_law_848 rfl ?_
  refine xr_iload C dL_law_849 rfl ?_
  refine xr_iconst (n := 1) C dL_law_851 (by decide +kernel) ?_
  refine xr_iadd C dL_law_852 ?_
  refine xr_sldv C (hG.old C).1 (by omega) (by omega) (by omega) (by exact ei) dL_law_853 ?_
  refine xr_callV1i C (m_lengthOf l G Mb hb 0 M9 hD9 i hir) (cwV 1 C.1.2.2.2.2 gL_law_X12_lengthOf rfl rfl rfl (by decide +kernel) ⟨Nat.le_of_ble_eq_true rfl, Nat.le_of_ble_eq_true rfl⟩) hD9.1 rfl (Nat.le_of_ble_eq_true rfl) ⟨by dsimp only; omega, by dsimp only; omega⟩ dL_law_854 (fun r8 M8 hp8 => ?_)
  obtain ⟨hr8, hQ8⟩ := hp8
  obtain ⟨⟨vs8, hT8⟩, h39⟩ := hQ8
  refine xr_istore C dL_law_857 (by decide) rfl ?_
  refine xr_aload_n C dL_law_859 rfl ?_
  refine xr_callV0i C (m_thrown l G M8 (Mb 0) 1 vs8 hT8) (cwV 0 C.1.2.2.2.2 gL_law_X12_thrown rfl rfl rfl (by decide +kernel) ⟨Nat.le_of_ble_eq_true rfl, Nat.le_of_ble_eq_true rfl⟩) hT8 rfl (Nat.le_of_ble_eq_true rfl) ⟨by dsimp only; omega, by dsimp only; omega⟩ dL_law_860 (fun t8 M7 hp7 => ?_)
  obtain ⟨rfl, rfl⟩ := hp7
  refine xr_iload C dL_law_863 rfl ?_
  refine xr_icmp_eq C dL_law_865 rfl (by decide) (by decide) (fun _ => ?_) (fun hq => absurd hq (by omega))
  refine xr_iload C dL_law_870 rfl ?_
  refine xr_if_ne C dL_law_872 rfl (by decide) (fun _ => ?_) (fun hq => absurd hq (by decide))
  refine xr_goto C dL_law_887 rfl ?_
  refine mq_drop 5 ?_
  refine mq_drop 6 ?_
  exact kk _ _ _ (by omega) (by omega)
set_option maxHeartbeats 4000000 in
set_option maxRecDepth 100000 in
theorem lb_12 {p : Program} {e : Env} {s : State} {m : MethodId} {args : Array Value} {below : List Frame} {meth : Method} {c : Code} {Q : State → Prop} {z : Nat} (l : Launch) (hlt : l.stackTraces = false) (G : mq_G) (sb sn : Nat) (sx : Nat → Int32) (hG : pG G sb sn sx) (hA : pA G) (hn : sn = 4) (La : Nat → Nat) (hI : mq_inj La) (Mb : Nat → Nat) (hb : mb_inj Mb) (hLM : ∀ r, r < 275 → ∀ i, mbU i = true → Mb i ≠ La r) (M : mq_M) (hV : vF G M La) (hD : mdI G M Mb 0) (hO : lwO G M (Mb 39) none)
    (C : mq_C p m c cL_law 9 s args wsL_law RL G.1.1 (mq_tys G) z) (cells slots : Nat) (hc : cells ≤ 1000) (hs : slots ≤ 1000000)
    (kk : ∀ (M2 : mq_M) (cells2 slots2 : Nat), cells2 ≤ 2000 → slots2 ≤ 2000000 → mq_X p l e { frames := 12, cells := 600002, slots := 7302232, locals := 436 } s m args below meth c Q 9 G.1.1 z s.heap cells2 slots2 M2 2554 [some (.ref sb), some (.ref (La 0)), some (.ref (Mb 0)), some (.ref (Mb 39)), some (.int (zI 0)), none, none, none, none] []) : mq_X p l e { frames := 12, cells := 600002, slots := 7302232, locals := 436 } s m args below meth c Q 9 G.1.1 z s.heap cells slots M 890 [some (.ref sb), some (.ref (La 0)), some (.ref (Mb 0)), some (.ref (Mb 39)), some (.int (zI 0)), none, none, none, none] [] := by
  subst hn
  obtain ⟨i, ei, hir⟩ := zI_of (sx 1)
  obtain ⟨q, eq, hqr⟩ := zI_of (sx 2)
  refine xr_aload_n C dL_law_890 rfl ?_
  refine xr_aload_n C dL_law_891 rfl ?_
  refine xr_iload C dL_law_892 rfl ?_
  refine xr_iconst (n := 1) C dL_law_894 (by decide +kernel) ?_
  refine xr_iadd C dL_law_895 ?_
  refine xr_sldv C (hG.old C).1 (by omega) (by omega) (by omega) (by exact ei) dL_law_896 ?_
  refine xr_aload_n C dL_law_897 rfl ?_
  refine xr_iload C dL_law_898 rfl ?_
  refine xr_iconst (n := 2) C dL_law_900 (by decide +kernel) ?_
  refine xr_iadd C dL_law_901 ?_
  refine xr_sldv C (hG.old C).1 (by omega) (by omega) (by omega) (by exact eq) dL_law_902 ?_
  refine xr_aload_n C dL_law_903 rfl ?_
  refine xr_callXH4i C (h_contentAt l hlt G sb 4 sx hG hA La hI M hV (Mb 39) (fun r9 hr9 => hLM r9 hr9 39 (by decide)) hO i hir q hqr) (vx_cwSW 4 C.1.2.2.2.2 gL_law_L_contentAt rfl rfl rfl (by decide +kernel) ⟨Nat.le_of_ble_eq_true rfl, Nat.le_of_ble_eq_true rfl⟩) (Nat.le_of_ble_eq_true rfl) ⟨by dsimp only; omega, by dsimp only; omega⟩ dL_law_904 (fun _ _ h9 => h9.elim) (fun k9 M9 hp9 => ?_)
  obtain ⟨rfl, hO9, hF9⟩ := hp9
  obtain ⟨g9, hg9, hv9⟩ := hO9
  have hD9 : mdI G M9 Mb 0 := (hD.frU (fun i9 hi9 h9 => hF9 (Mb i9) (fun h8 => absurd (hb _ _ hi9 (by decide) h8) h9) (fun r9 hr9 => hLM r9 hr9 i9 hi9)))
  refine xr_istore C dL_law_907 (by decide) rfl ?_
  refine xr_aload_n C dL_law_909 rfl ?_
  refine xr_aload_n C dL_law_910 rfl ?_
  refine xr_iload C dL_law_911 rfl ?_
  refine xr_iconst (n := 1) C dL_law_913 (by decide +kernel) ?_
  refine xr_iadd C dL_law_914 ?_
  refine xr_sldv C (hG.old C).1 (by omega) (by omega) (by omega) (by exact ei) dL_law_915 ?_
  refine xr_aload_n C dL_law_916 rfl ?_
  refine xr_iload C dL_law_917 rfl ?_
  refine xr_iconst (n := 2) C dL_law_919 (by decide +kernel) ?_
  refine xr_iadd C dL_law_920 ?_
  refine xr_sldv C (hG.old C).1 (by omega) (by omega) (by omega) (by exact eq) dL_law_921 ?_
  refine xr_callV2i C (m_contentAt l G Mb hb 0 M9 hD9 i hir q hqr) (cwV 2 C.1.2.2.2.2 gL_law_X12_contentAt rfl rfl rfl (by decide +kernel) ⟨Nat.le_of_ble_eq_true rfl, Nat.le_of_ble_eq_true rfl⟩) hD9.1 rfl (Nat.le_of_ble_eq_true rfl) ⟨by dsimp only; omega, by dsimp only; omega⟩ dL_law_922 (fun r8 M8 hp8 => ?_)
  obtain ⟨hr8, hQ8⟩ := hp8
  obtain ⟨⟨vs8, hT8⟩, h39⟩ := hQ8
  refine xr_istore C dL_law_925 (by decide) rfl ?_
  refine xr_aload_n C dL_law_927 rfl ?_
  refine xr_callV0i C (m_thrown l G M8 (Mb 0) 1 vs8 hT8) (cwV 0 C.1.2.2.2.2 gL_law_X12_thrown rfl rfl rfl (by decide +kernel) ⟨Nat.le_of_ble_eq_true rfl, Nat.le_of_ble_eq_true rfl⟩) hT8 rfl (Nat.le_of_ble_eq_true rfl) ⟨by dsimp only; omega, by dsimp only; omega⟩ dL_law_928 (fun t8 M7 hp7 => ?_)
  obtain ⟨rfl, rfl⟩ := hp7
  refine xr_iload C dL_law_931 rfl ?_
  refine xr_icmp_eq C dL_law_933 rfl (by decide) (by decide) (fun _ => ?_) (fun hq => absurd hq (by omega))
  refine xr_iload C dL_law_938 rfl ?_
  refine xr_if_ne C dL_law_940 rfl (by decide) (fun _ => ?_) (fun hq => absurd hq (by decide))
  refine xr_goto C dL_law_955 rfl ?_
  refine mq_drop 5 ?_
  refine mq_drop 6 ?_
  exact kk _ _ _ (by omega) (by omega)
set_option maxHeartbeats 4000000 in
set_option maxRecDepth 100000 in
theorem lb_13 {p : Program} {e : Env} {s : State} {m : MethodId} {args : Array Value} {below : List Frame} {meth : Method} {c : Code} {Q : State → Prop} {z : Nat} (l : Launch) (hlt : l.stackTraces = false) (G : mq_G) (sb sn : Nat) (sx : Nat → Int32) (hG : pG G sb sn sx) (hA : pA G) (hn : sn = 4) (La : Nat → Nat) (hI : mq_inj La) (Mb : Nat → Nat) (hb : mb_inj Mb) (hLM : ∀ r, r < 275 → ∀ i, mbU i = true → Mb i ≠ La r) (M : mq_M) (hV : vF G M La) (hD : mdI G M Mb 0) (hO : lwO G M (Mb 39) none)
    (C : mq_C p m c cL_law 9 s args wsL_law RL G.1.1 (mq_tys G) z) (cells slots : Nat) (hc : cells ≤ 1000) (hs : slots ≤ 1000000)
    (kk : ∀ (M2 : mq_M) (cells2 slots2 : Nat), cells2 ≤ 2000 → slots2 ≤ 2000000 → mq_X p l e { frames := 12, cells := 600002, slots := 7302232, locals := 436 } s m args below meth c Q 9 G.1.1 z s.heap cells2 slots2 M2 2554 [some (.ref sb), some (.ref (La 0)), some (.ref (Mb 0)), some (.ref (Mb 39)), some (.int (zI 0)), none, none, none, none] []) : mq_X p l e { frames := 12, cells := 600002, slots := 7302232, locals := 436 } s m args below meth c Q 9 G.1.1 z s.heap cells slots M 958 [some (.ref sb), some (.ref (La 0)), some (.ref (Mb 0)), some (.ref (Mb 39)), some (.int (zI 0)), none, none, none, none] [] := by
  subst hn
  obtain ⟨i, ei, hir⟩ := zI_of (sx 1)
  refine xr_aload_n C dL_law_958 rfl ?_
  refine xr_aload_n C dL_law_959 rfl ?_
  refine xr_iload C dL_law_960 rfl ?_
  refine xr_iconst (n := 1) C dL_law_962 (by decide +kernel) ?_
  refine xr_iadd C dL_law_963 ?_
  refine xr_sldv C (hG.old C).1 (by omega) (by omega) (by omega) (by exact ei) dL_law_964 ?_
  refine xr_aload_n C dL_law_965 rfl ?_
  refine xr_callXH3i C (h_checkOf l hlt G sb 4 sx hG hA La hI M hV (Mb 39) (fun r9 hr9 => hLM r9 hr9 39 (by decide)) hO i hir) (vx_cwSW 3 C.1.2.2.2.2 gL_law_L_checkOf rfl rfl rfl (by decide +kernel) ⟨Nat.le_of_ble_eq_true rfl, Nat.le_of_ble_eq_true rfl⟩) (Nat.le_of_ble_eq_true rfl) ⟨by dsimp only; omega, by dsimp only; omega⟩ dL_law_966 (fun _ _ h9 => h9.elim) (fun k9 M9 hp9 => ?_)
  obtain ⟨rfl, hO9, hF9⟩ := hp9
  obtain ⟨g9, hg9, hv9⟩ := hO9
  have hD9 : mdI G M9 Mb 0 := (hD.frU (fun i9 hi9 h9 => hF9 (Mb i9) (fun h8 => absurd (hb _ _ hi9 (by decide) h8) h9) (fun r9 hr9 => hLM r9 hr9 i9 hi9)))
  refine xr_istore C dL_law_969 (by decide) rfl ?_
  refine xr_aload_n C dL_law_971 rfl ?_
  refine xr_aload_n C dL_law_972 rfl ?_
  refine xr_iload C dL_law_973 rfl ?_
  refine xr_iconst (n := 1) C dL_law_975 (by decide +kernel) ?_
  refine xr_iadd C dL_law_976 ?_
  refine xr_sldv C (hG.old C).1 (by omega) (by omega) (by omega) (by exact ei) dL_law_977 ?_
  refine xr_callV1i C (m_checkOf l G Mb hb 0 M9 hD9 i hir) (cwV 1 C.1.2.2.2.2 gL_law_X12_checkOf rfl rfl rfl (by decide +kernel) ⟨Nat.le_of_ble_eq_true rfl, Nat.le_of_ble_eq_true rfl⟩) hD9.1 rfl (Nat.le_of_ble_eq_true rfl) ⟨by dsimp only; omega, by dsimp only; omega⟩ dL_law_978 (fun r8 M8 hp8 => ?_)
  obtain ⟨hr8, hQ8⟩ := hp8
  obtain ⟨⟨vs8, hT8⟩, h39⟩ := hQ8
  refine xr_istore C dL_law_981 (by decide) rfl ?_
  refine xr_aload_n C dL_law_983 rfl ?_
  refine xr_callV0i C (m_thrown l G M8 (Mb 0) 1 vs8 hT8) (cwV 0 C.1.2.2.2.2 gL_law_X12_thrown rfl rfl rfl (by decide +kernel) ⟨Nat.le_of_ble_eq_true rfl, Nat.le_of_ble_eq_true rfl⟩) hT8 rfl (Nat.le_of_ble_eq_true rfl) ⟨by dsimp only; omega, by dsimp only; omega⟩ dL_law_984 (fun t8 M7 hp7 => ?_)
  obtain ⟨rfl, rfl⟩ := hp7
  refine xr_iload C dL_law_987 rfl ?_
  refine xr_icmp_eq C dL_law_989 rfl (by decide) (by decide) (fun _ => ?_) (fun hq => absurd hq (by omega))
  refine xr_iload C dL_law_994 rfl ?_
  refine xr_if_ne C dL_law_996 rfl (by decide) (fun _ => ?_) (fun hq => absurd hq (by decide))
  refine xr_goto C dL_law_1011 rfl ?_
  refine mq_drop 5 ?_
  refine mq_drop 6 ?_
  exact kk _ _ _ (by omega) (by omega)
set_option maxHeartbeats 4000000 in
set_option maxRecDepth 100000 in
theorem lb_14 {p : Program} {e : Env} {s : State} {m : MethodId} {args : Array Value} {below : List Frame} {meth : Method} {c : Code} {Q : State → Prop} {z : Nat} (l : Launch) (hlt : l.stackTraces = false) (G : mq_G) (sb sn : Nat) (sx : Nat → Int32) (hG : pG G sb sn sx) (hA : pA G) (hn : sn = 4) (La : Nat → Nat) (hI : mq_inj La) (Mb : Nat → Nat) (hb : mb_inj Mb) (hLM : ∀ r, r < 275 → ∀ i, mbU i = true → Mb i ≠ La r) (M : mq_M) (hV : vF G M La) (hD : mdI G M Mb 0) (hO : lwO G M (Mb 39) none)
    (C : mq_C p m c cL_law 9 s args wsL_law RL G.1.1 (mq_tys G) z) (cells slots : Nat) (hc : cells ≤ 1000) (hs : slots ≤ 1000000)
    (kk : ∀ (M2 : mq_M) (cells2 slots2 : Nat), cells2 ≤ 2000 → slots2 ≤ 2000000 → mq_X p l e { frames := 12, cells := 600002, slots := 7302232, locals := 436 } s m args below meth c Q 9 G.1.1 z s.heap cells2 slots2 M2 2554 [some (.ref sb), some (.ref (La 0)), some (.ref (Mb 0)), some (.ref (Mb 39)), some (.int (zI 0)), none, none, none, none] []) : mq_X p l e { frames := 12, cells := 600002, slots := 7302232, locals := 436 } s m args below meth c Q 9 G.1.1 z s.heap cells slots M 1014 [some (.ref sb), some (.ref (La 0)), some (.ref (Mb 0)), some (.ref (Mb 39)), some (.int (zI 0)), none, none, none, none] [] := by
  subst hn
  obtain ⟨i, ei, hir⟩ := zI_of (sx 1)
  refine xr_aload_n C dL_law_1014 rfl ?_
  refine xr_aload_n C dL_law_1015 rfl ?_
  refine xr_iload C dL_law_1016 rfl ?_
  refine xr_iconst (n := 1) C dL_law_1018 (by decide +kernel) ?_
  refine xr_iadd C dL_law_1019 ?_
  refine xr_sldv C (hG.old C).1 (by omega) (by omega) (by omega) (by exact ei) dL_law_1020 ?_
  refine xr_aload_n C dL_law_1021 rfl ?_
  refine xr_callXH3i C (h_packedLength l hlt G sb 4 sx hG hA La hI M hV (Mb 39) (fun r9 hr9 => hLM r9 hr9 39 (by decide)) hO i hir) (vx_cwSW 3 C.1.2.2.2.2 gL_law_L_packedLength rfl rfl rfl (by decide +kernel) ⟨Nat.le_of_ble_eq_true rfl, Nat.le_of_ble_eq_true rfl⟩) (Nat.le_of_ble_eq_true rfl) ⟨by dsimp only; omega, by dsimp only; omega⟩ dL_law_1022 (fun _ _ h9 => h9.elim) (fun k9 M9 hp9 => ?_)
  obtain ⟨rfl, hO9, hF9⟩ := hp9
  obtain ⟨g9, hg9, hv9⟩ := hO9
  have hD9 : mdI G M9 Mb 0 := (hD.frU (fun i9 hi9 h9 => hF9 (Mb i9) (fun h8 => absurd (hb _ _ hi9 (by decide) h8) h9) (fun r9 hr9 => hLM r9 hr9 i9 hi9)))
  refine xr_istore C dL_law_1025 (by decide) rfl ?_
  refine xr_aload_n C dL_law_1027 rfl ?_
  refine xr_aload_n C dL_law_1028 rfl ?_
  refine xr_iload C dL_law_1029 rfl ?_
  refine xr_iconst (n := 1) C dL_law_1031 (by decide +kernel) ?_
  refine xr_iadd C dL_law_1032 ?_
  refine xr_sldv C (hG.old C).1 (by omega) (by omega) (by omega) (by exact ei) dL_law_1033 ?_
  refine xr_callV1i C (m_packedLength l G Mb hb 0 M9 hD9 i hir) (cwV 1 C.1.2.2.2.2 gL_law_X12_packedLength rfl rfl rfl (by decide +kernel) ⟨Nat.le_of_ble_eq_true rfl, Nat.le_of_ble_eq_true rfl⟩) hD9.1 rfl (Nat.le_of_ble_eq_true rfl) ⟨by dsimp only; omega, by dsimp only; omega⟩ dL_law_1034 (fun r8 M8 hp8 => ?_)
  obtain ⟨hr8, hQ8⟩ := hp8
  obtain ⟨⟨vs8, hT8⟩, h39⟩ := hQ8
  refine xr_istore C dL_law_1037 (by decide) rfl ?_
  refine xr_aload_n C dL_law_1039 rfl ?_
  refine xr_callV0i C (m_thrown l G M8 (Mb 0) 1 vs8 hT8) (cwV 0 C.1.2.2.2.2 gL_law_X12_thrown rfl rfl rfl (by decide +kernel) ⟨Nat.le_of_ble_eq_true rfl, Nat.le_of_ble_eq_true rfl⟩) hT8 rfl (Nat.le_of_ble_eq_true rfl) ⟨by dsimp only; omega, by dsimp only; omega⟩ dL_law_1040 (fun t8 M7 hp7 => ?_)
  obtain ⟨rfl, rfl⟩ := hp7
  refine xr_iload C dL_law_1043 rfl ?_
  refine xr_icmp_eq C dL_law_1045 rfl (by decide) (by decide) (fun _ => ?_) (fun hq => absurd hq (by omega))
  refine xr_iload C dL_law_1050 rfl ?_
  refine xr_if_ne C dL_law_1052 rfl (by decide) (fun _ => ?_) (fun hq => absurd hq (by decide))
  refine xr_goto C dL_law_1067 rfl ?_
  refine mq_drop 5 ?_
  refine mq_drop 6 ?_
  exact kk _ _ _ (by omega) (by omega)
set_option maxHeartbeats 4000000 in
set_option maxRecDepth 100000 in
theorem lb_15 {p : Program} {e : Env} {s : State} {m : MethodId} {args : Array Value} {below : List Frame} {meth : Method} {c : Code} {Q : State → Prop} {z : Nat} (l : Launch) (hlt : l.stackTraces = false) (G : mq_G) (sb sn : Nat) (sx : Nat → Int32) (hG : pG G sb sn sx) (hA : pA G) (hn : sn = 4) (La : Nat → Nat) (hI : mq_inj La) (Mb : Nat → Nat) (hb : mb_inj Mb) (hLM : ∀ r, r < 275 → ∀ i, mbU i = true → Mb i ≠ La r) (M : mq_M) (hV : vF G M La) (hD : mdI G M Mb 0) (hO : lwO G M (Mb 39) none)
    (C : mq_C p m c cL_law 9 s args wsL_law RL G.1.1 (mq_tys G) z) (cells slots : Nat) (hc : cells ≤ 1000) (hs : slots ≤ 1000000)
    (kk : ∀ (M2 : mq_M) (cells2 slots2 : Nat), cells2 ≤ 2000 → slots2 ≤ 2000000 → mq_X p l e { frames := 12, cells := 600002, slots := 7302232, locals := 436 } s m args below meth c Q 9 G.1.1 z s.heap cells2 slots2 M2 2554 [some (.ref sb), some (.ref (La 0)), some (.ref (Mb 0)), some (.ref (Mb 39)), some (.int (zI 0)), none, none, none, none] []) : mq_X p l e { frames := 12, cells := 600002, slots := 7302232, locals := 436 } s m args below meth c Q 9 G.1.1 z s.heap cells slots M 1070 [some (.ref sb), some (.ref (La 0)), some (.ref (Mb 0)), some (.ref (Mb 39)), some (.int (zI 0)), none, none, none, none] [] := by
  subst hn
  obtain ⟨i, ei, hir⟩ := zI_of (sx 1)
  obtain ⟨q, eq, hqr⟩ := zI_of (sx 2)
  refine xr_aload_n C dL_law_1070 rfl ?_
  refine xr_aload_n C dL_law_1071 rfl ?_
  refine xr_iload C dL_law_1072 rfl ?_
  refine xr_iconst (n := 1) C dL_law_1074 (by decide +kernel) ?_
  refine xr_iadd C dL_law_1075 ?_
  refine xr_sldv C (hG.old C).1 (by omega) (by omega) (by omega) (by exact ei) dL_law_1076 ?_
  refine xr_aload_n C dL_law_1077 rfl ?_
  refine xr_iload C dL_law_1078 rfl ?_
  refine xr_iconst (n := 2) C dL_law_1080 (by decide +kernel) ?_
  refine xr_iadd C dL_law_1081 ?_
  refine xr_sldv C (hG.old C).1 (by omega) (by omega) (by omega) (by exact eq) dL_law_1082 ?_
  refine xr_aload_n C dL_law_1083 rfl ?_
  refine xr_callXH4i C (h_packedAt l hlt G sb 4 sx hG hA La hI M hV (Mb 39) (fun r9 hr9 => hLM r9 hr9 39 (by decide)) hO i hir q hqr) (vx_cwSW 4 C.1.2.2.2.2 gL_law_L_packedAt rfl rfl rfl (by decide +kernel) ⟨Nat.le_of_ble_eq_true rfl, Nat.le_of_ble_eq_true rfl⟩) (Nat.le_of_ble_eq_true rfl) ⟨by dsimp only; omega, by dsimp only; omega⟩ dL_law_1084 (fun _ _ h9 => h9.elim) (fun k9 M9 hp9 => ?_)
  obtain ⟨rfl, hO9, hF9⟩ := hp9
  obtain ⟨g9, hg9, hv9⟩ := hO9
  have hD9 : mdI G M9 Mb 0 := (hD.frU (fun i9 hi9 h9 => hF9 (Mb i9) (fun h8 => absurd (hb _ _ hi9 (by decide) h8) h9) (fun r9 hr9 => hLM r9 hr9 i9 hi9)))
  refine xr_istore C dL_law_1087 (by decide) rfl ?_
  refine xr_aload_n C dL_law_1089 rfl ?_
  refine xr_aload_n C dL_law_1090 rfl ?_
  refine xr_iload C dL_law_1091 rfl ?_
  refine xr_iconst (n := 1) C dL_law_1093 (by decide +kernel) ?_
  refine xr_iadd C dL_law_1094 ?_
  refine xr_sldv C (hG.old C).1 (by omega) (by omega) (by omega) (by exact ei) dL_law_1095 ?_
  refine xr_aload_n C dL_law_1096 rfl ?_
  refine xr_iload C dL_law_1097 rfl ?_
  refine xr_iconst (n := 2) C dL_law_1099 (by decide +kernel) ?_
  refine xr_iadd C dL_law_1100 ?_
  refine xr_sldv C (hG.old C).1 (by omega) (by omega) (by omega) (by exact eq) dL_law_1101 ?_
  refine xr_callV2i C (m_packedAt l G Mb hb 0 M9 hD9 i hir q hqr) (cwV 2 C.1.2.2.2.2 gL_law_X12_packedAt rfl rfl rfl (by decide +kernel) ⟨Nat.le_of_ble_eq_true rfl, Nat.le_of_ble_eq_true rfl⟩) hD9.1 rfl (Nat.le_of_ble_eq_true rfl) ⟨by dsimp only; omega, by dsimp only; omega⟩ dL_law_1102 (fun r8 M8 hp8 => ?_)
  obtain ⟨hr8, hQ8⟩ := hp8
  obtain ⟨⟨vs8, hT8⟩, h39⟩ := hQ8
  refine xr_istore C dL_law_1105 (by decide) rfl ?_
  refine xr_aload_n C dL_law_1107 rfl ?_
  refine xr_callV0i C (m_thrown l G M8 (Mb 0) 1 vs8 hT8) (cwV 0 C.1.2.2.2.2 gL_law_X12_thrown rfl rfl rfl (by decide +kernel) ⟨Nat.le_of_ble_eq_true rfl, Nat.le_of_ble_eq_true rfl⟩) hT8 rfl (Nat.le_of_ble_eq_true rfl) ⟨by dsimp only; omega, by dsimp only; omega⟩ dL_law_1108 (fun t8 M7 hp7 => ?_)
  obtain ⟨rfl, rfl⟩ := hp7
  refine xr_iload C dL_law_1111 rfl ?_
  refine xr_icmp_eq C dL_law_1113 rfl (by decide) (by decide) (fun _ => ?_) (fun hq => absurd hq (by omega))
  refine xr_iload C dL_law_1118 rfl ?_
  refine xr_if_ne C dL_law_1120 rfl (by decide) (fun _ => ?_) (fun hq => absurd hq (by decide))
  refine xr_goto C dL_law_1135 rfl ?_
  refine mq_drop 5 ?_
  refine mq_drop 6 ?_
  exact kk _ _ _ (by omega) (by omega)
