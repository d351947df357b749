set_option maxHeartbeats 4000000 in
set_option maxRecDepth 100000 in
theorem lb_24 {p : Program} {e : Env} {s : State} {m : MethodId} {args : Array Value} {below : List Frame} {meth : Method} {c : Code} {Q : State → Prop} {z : Nat} (l : Launch) (hlt : l.stackTraces = false) (G : mq_G) (sb sn : Nat) (sx : Nat → Int32) (hG : pG G sb sn sx) (hA : pA G) (hn : sn = 4) (La : Nat → Nat) (hI : mq_inj La) (Mb : Nat → Nat) (hb : mb_inj Mb) (hLM : ∀ r, r < 275 → ∀ i, mbU i = true → Mb i ≠ La r) (M : mq_M) (hV : vF G M La) (hD : mdI G M Mb 0) (hO : lwO G M (Mb 39) none)
    (C : mq_C p m c cL_law 9 s args wsL_law RL G.1.1 (mq_tys G) z) (cells slots : Nat) (hc : cells ≤ 1000) (hs : slots ≤ 1000000)
    (kk : ∀ (M2 : mq_M) (cells2 slots2 : Nat), cells2 ≤ 2000 → slots2 ≤ 2000000 → mq_X p l e { frames := 12, cells := 600002, slots := 7302232, locals := 436 } s m args below meth c Q 9 G.1.1 z s.heap cells2 slots2 M2 2554 [some (.ref sb), some (.ref (La 0)), some (.ref (Mb 0)), some (.ref (Mb 39)), some (.int (zI 0)), none, none, none, none] []) : mq_X p l e { frames := 12, cells := 600002, slots := 7302232, locals := 436 } s m args below meth c Q 9 G.1.1 z s.heap cells slots M 1610 [some (.ref sb), some (.ref (La 0)), some (.ref (Mb 0)), some (.ref (Mb 39)), some (.int (zI 0)), none, none, none, none] [] := by
  subst hn
  obtain ⟨i, ei, hir⟩ := zI_of (sx 1)
  obtain ⟨q, eq, hqr⟩ := zI_of (sx 2)
  by_cases hv : (0 ≤ i ∧ i ≤ 15) ∧ (0 ≤ q ∧ q ≤ 15)
  · refine xr_aload_n C dL_law_1610 rfl ?_
    refine xr_aload_n C dL_law_1611 rfl ?_
    refine xr_iload C dL_law_1612 rfl ?_
    refine xr_iconst (n := 1) C dL_law_1614 (by decide +kernel) ?_
    refine xr_iadd C dL_law_1615 ?_
    refine xr_sldv C (hG.old C).1 (by omega) (by omega) (by omega) (by exact ei) dL_law_1616 ?_
    refine xr_aload_n C dL_law_1617 rfl ?_
    refine xr_iload C dL_law_1618 rfl ?_
    refine xr_iconst (n := 2) C dL_law_1620 (by decide +kernel) ?_
    refine xr_iadd C dL_law_1621 ?_
    refine xr_sldv C (hG.old C).1 (by omega) (by omega) (by omega) (by exact eq) dL_law_1622 ?_
    refine xr_aload_n C dL_law_1623 rfl ?_
    refine xr_callXH4i C (h_exchange l hlt G sb 4 sx hG hA La hI M hV (Mb 39) (fun r9 hr9 => hLM r9 hr9 39 (by decide)) hO i hir q hqr) (vx_cwSW 4 C.1.2.2.2.2 gL_law_L_exchange rfl rfl rfl (by decide +kernel) ⟨Nat.le_of_ble_eq_true rfl, Nat.le_of_ble_eq_true rfl⟩) (Nat.le_of_ble_eq_true rfl) ⟨by dsimp only; omega, by dsimp only; omega⟩ dL_law_1624 (fun _ _ h9 => h9.elim) (fun k9 M9 hp9 => ?_)
    obtain ⟨hk9, hO9, hF9⟩ := hp9
    rw [if_pos hv] at hk9 hO9
    subst hk9
    obtain ⟨g9, hg9, hv9⟩ := hO9
    have hD9 : mdI G M9 Mb 0 := (hD.frU (fun i9 hi9 h9 => hF9 (Mb i9) (fun h8 => absurd (hb _ _ hi9 (by decide) h8) h9) (fun r9 hr9 => hLM r9 hr9 i9 hi9)))
    refine xr_istore C dL_law_1627 (by decide) rfl ?_
    refine xr_aload_n C dL_law_1629 rfl ?_
    refine xr_aload_n C dL_law_1630 rfl ?_
    refine xr_iload C dL_law_1631 rfl ?_
    refine xr_iconst (n := 1) C dL_law_1633 (by decide +kernel) ?_
    refine xr_iadd C dL_law_1634 ?_
    refine xr_sldv C (hG.old C).1 (by omega) (by omega) (by omega) (by exact ei) dL_law_1635 ?_
    refine xr_aload_n C dL_law_1636 rfl ?_
    refine xr_iload C dL_law_1637 rfl ?_
    refine xr_iconst (n := 2) C dL_law_1639 (by decide +kernel) ?_
    refine xr_iadd C dL_law_1640 ?_
    refine xr_sldv C (hG.old C).1 (by omega) (by omega) (by omega) (by exact eq) dL_law_1641 ?_
    refine xr_callV2i C (m_exchange l G hA Mb hb 0 M9 hD9 i hir q hqr) (cwV 2 C.1.2.2.2.2 gL_law_X12_exchange rfl rfl rfl (by decide +kernel) ⟨Nat.le_of_ble_eq_true rfl, Nat.le_of_ble_eq_true rfl⟩) hD9.1 rfl (Nat.le_of_ble_eq_true rfl) ⟨by dsimp only; omega, by dsimp only; omega⟩ dL_law_1642 (fun r8 M8 hp8 => ?_)
    obtain ⟨hr8, hQ8⟩ := hp8
    rw [if_pos hv] at hr8 hQ8
    obtain ⟨⟨vs8, hT8⟩, h39⟩ := hQ8
    have e8 := hr8 rfl
    subst e8
    refine xr_istore C dL_law_1645 (by decide) rfl ?_
    refine xr_aload_n C dL_law_1647 rfl ?_
    refine xr_callV0i C (m_thrown l G M8 (Mb 0) 0 vs8 hT8) (cwV 0 C.1.2.2.2.2 gL_law_X12_thrown rfl rfl rfl (by decide +kernel) ⟨Nat.le_of_ble_eq_true rfl, Nat.le_of_ble_eq_true rfl⟩) hT8 rfl (Nat.le_of_ble_eq_true rfl) ⟨by dsimp only; omega, by dsimp only; omega⟩ dL_law_1648 (fun t8 M7 hp7 => ?_)
    obtain ⟨rfl, rfl⟩ := hp7
    refine xr_iload C dL_law_1651 rfl ?_
    refine xr_icmp_eq C dL_law_1653 rfl (by decide) (by decide) (fun _ => ?_) (fun hq => absurd hq (by omega))
    refine xr_iload C dL_law_1658 rfl ?_
    refine xr_if_ne C dL_law_1660 rfl (by decide) (fun hq => absurd hq (by decide)) (fun _ => ?_)
    refine xr_aload_n C dL_law_1663 rfl ?_
    refine xr_iconst (n := 0) C dL_law_1664 (by decide +kernel) ?_
    have hg8 : M8 (Mb 39) = some (.inl (gJ G, 1, .inr (.inl g9))) := h39.trans hg9
    refine xr_lald C hg8 hA.J (by decide) (by decide) (by decide) dL_law_1665 ?_
    refine xr_iload C dL_law_1666 rfl ?_
    refine xr_i2l C dL_law_1668 ?_
    refine xr_lcmp (w := 0) C dL_law_1669 (by rw [show g9 (0 : Int).toNat = _ from hv9 _ rfl]; exact lg_cmp_rf _) ?_
    refine xr_if_eq C dL_law_1670 rfl (by decide) (fun _ => ?_) (fun hq => absurd hq (by decide))
    refine xr_goto C dL_law_1675 rfl ?_
    refine mq_drop 5 ?_
    refine mq_drop 6 ?_
    exact kk _ _ _ (by omega) (by omega)
  · refine xr_aload_n C dL_law_1610 rfl ?_
    refine xr_aload_n C dL_law_1611 rfl ?_
    refine xr_iload C dL_law_1612 rfl ?_
    refine xr_iconst (n := 1) C dL_law_1614 (by decide +kernel) ?_
    refine xr_iadd C dL_law_1615 ?_
    refine xr_sldv C (hG.old C).1 (by omega) (by omega) (by omega) (by exact ei) dL_law_1616 ?_
    refine xr_aload_n C dL_law_1617 rfl ?_
    refine xr_iload C dL_law_1618 rfl ?_
    refine xr_iconst (n := 2) C dL_law_1620 (by decide +kernel) ?_
    refine xr_iadd C dL_law_1621 ?_
    refine xr_sldv C (hG.old C).1 (by omega) (by omega) (by omega) (by exact eq) dL_law_1622 ?_
    refine xr_aload_n C dL_law_1623 rfl ?_
    refine xr_callXH4i C (h_exchange l hlt G sb 4 sx hG hA La hI M hV (Mb 39) (fun r9 hr9 => hLM r9 hr9 39 (by decide)) hO i hir q hqr) (vx_cwSW 4 C.1.2.2.2.2 gL_law_L_exchange rfl rfl rfl (by decide +kernel) ⟨Nat.le_of_ble_eq_true rfl, Nat.le_of_ble_eq_true rfl⟩) (Nat.le_of_ble_eq_true rfl) ⟨by dsimp only; omega, by dsimp only; omega⟩ dL_law_1624 (fun _ _ h9 => h9.elim) (fun k9 M9 hp9 => ?_)
    obtain ⟨hk9, hO9, hF9⟩ := hp9
    rw [if_neg hv] at hk9 hO9
    subst hk9
    obtain ⟨g9, hg9, hv9⟩ := hO9
    have hD9 : mdI G M9 Mb 0 := (hD.frU (fun i9 hi9 h9 => hF9 (Mb i9) (fun h8 => absurd (hb _ _ hi9 (by decide) h8) h9) (fun r9 hr9 => hLM r9 hr9 i9 hi9)))
    refine xr_istore C dL_law_1627 (by decide) rfl ?_
    refine xr_aload_n C dL_law_1629 rfl ?_
    refine xr_aload_n C dL_law_1630 rfl ?_
    refine xr_iload C dL_law_1631 rfl ?_
    refine xr_iconst (n := 1) C dL_law_1633 (by decide +kernel) ?_
    refine xr_iadd C dL_law_1634 ?_
    refine xr_sldv C (hG.old C).1 (by omega) (by omega) (by omega) (by exact ei) dL_law_1635 ?_
    refine xr_aload_n C dL_law_1636 rfl ?_
    refine xr_iload C dL_law_1637 rfl ?_
    refine xr_iconst (n := 2) C dL_law_1639 (by decide +kernel) ?_
    refine xr_iadd C dL_law_1640 ?_
    refine xr_sldv C (hG.old C).1 (by omega) (by omega) (by omega) (by exact eq) dL_law_1641 ?_
    refine xr_callV2i C (m_exchange l G hA Mb hb 0 M9 hD9 i hir q hqr) (cwV 2 C.1.2.2.2.2 gL_law_X12_exchange rfl rfl rfl (by decide +kernel) ⟨Nat.le_of_ble_eq_true rfl, Nat.le_of_ble_eq_true rfl⟩) hD9.1 rfl (Nat.le_of_ble_eq_true rfl) ⟨by dsimp only; omega, by dsimp only; omega⟩ dL_law_1642 (fun r8 M8 hp8 => ?_)
    obtain ⟨hr8, hQ8⟩ := hp8
    rw [if_neg hv] at hr8 hQ8
    obtain ⟨⟨vs8, hT8⟩, h39⟩ := hQ8
    refine xr_istore C dL_law_1645 (by decide) rfl ?_
    refine xr_aload_n C dL_law_1647 rfl ?_
    refine xr_callV0i C (m_thrown l G M8 (Mb 0) 1 vs8 hT8) (cwV 0 C.1.2.2.2.2 gL_law_X12_thrown rfl rfl rfl (by decide +kernel) ⟨Nat.le_of_ble_eq_true rfl, Nat.le_of_ble_eq_true rfl⟩) hT8 rfl (Nat.le_of_ble_eq_true rfl) ⟨by dsimp only; omega, by dsimp only; omega⟩ dL_law_1648 (fun t8 M7 hp7 => ?_)
    obtain ⟨rfl, rfl⟩ := hp7
    refine xr_iload C dL_law_1651 rfl ?_
    refine xr_icmp_eq C dL_law_1653 rfl (by decide) (by decide) (fun _ => ?_) (fun hq => absurd hq (by omega))
    refine xr_iload C dL_law_1658 rfl ?_
    refine xr_if_ne C dL_law_1660 rfl (by decide) (fun _ => ?_) (fun hq => absurd hq (by decide))
    refine xr_goto C dL_law_1675 rfl ?_
    refine mq_drop 5 ?_
    refine mq_drop 6 ?_
    exact kk _ _ _ (by omega) (by omega)
set_option maxHeartbeats 4000000 in
set_option maxRecDepth 100000 in
theorem lb_25 {p : Program} {e : Env} {s : State} {m : MethodId} {args : Array Value} {below : List Frame} {meth : Method} {c : Code} {Q : State → Prop} {z : Nat} (l : Launch) (hlt : l.stackTraces = false) (G : mq_G) (sb sn : Nat) (sx : Nat → Int32) (hG : pG G sb sn sx) (hA : pA G) (hn : sn = 4) (La : Nat → Nat) (hI : mq_inj La) (Mb : Nat → Nat) (hb : mb_inj Mb) (hLM : ∀ r, r < 275 → ∀ i, mbU i = true → Mb i ≠ La r) (M : mq_M) (hV : vF G M La) (hD : mdI G M Mb 0) (hO : lwO G M (Mb 39) none)
    (C : mq_C p m c cL_law 9 s args wsL_law RL G.1.1 (mq_tys G) z) (cells slots : Nat) (hc : cells ≤ 1000) (hs : slots ≤ 1000000)
    (kk : ∀ (M2 : mq_M) (cells2 slots2 : Nat), cells2 ≤ 2000 → slots2 ≤ 2000000 → mq_X p l e { frames := 12, cells := 600002, slots := 7302232, locals := 436 } s m args below meth c Q 9 G.1.1 z s.heap cells2 slots2 M2 2554 [some (.ref sb), some (.ref (La 0)), some (.ref (Mb 0)), some (.ref (Mb 39)), some (.int (zI 0)), none, none, none, none] []) : mq_X p l e { frames := 12, cells := 600002, slots := 7302232, locals := 436 } s m args below meth c Q 9 G.1.1 z s.heap cells slots M 1678 [some (.ref sb), some (.ref (La 0)), some (.ref (Mb 0)), some (.ref (Mb 39)), some (.int (zI 0)), none, none, none, none] [] := by
  subst hn
  obtain ⟨i, ei, hir⟩ := zI_of (sx 1)
  obtain ⟨q, eq, hqr⟩ := zI_of (sx 2)
  refine xr_aload_n C dL_law_1678 rfl ?_
  refine xr_aload_n C dL_law_1679 rfl ?_
  refine xr_iload C dL_law_1680 rfl ?_
  refine xr_iconst (n := 1) C dL_law_1682 (by decide +kernel) ?_
  refine xr_iadd C dL_law_1683 ?_
  refine xr_sldv C (hG.old C).1 (by omega) (by omega) (by omega) (by exact ei) dL_law_1684 ?_
  refine xr_aload_n C dL_law_1685 rfl ?_
  refine xr_iload C dL_law_1686 rfl ?_
  refine xr_iconst (n := 2) C dL_law_1688 (by decide +kernel) ?_
  refine xr_iadd C dL_law_1689 ?_
  refine xr_sldv C (hG.old C).1 (by omega) (by omega) (by omega) (by exact eq) dL_law_1690 ?_
  refine xr_aload_n C dL_law_1691 rfl ?_
  refine xr_callXH4i C (h_copy l hlt G sb 4 sx hG hA La hI M hV (Mb 39) (fun r9 hr9 => hLM r9 hr9 39 (by decide)) hO i hir q hqr) (vx_cwSW 4 C.1.2.2.2.2 gL_law_L_copy rfl rfl rfl (by decide +kernel) ⟨Nat.le_of_ble_eq_true rfl, Nat.le_of_ble_eq_true rfl⟩) (Nat.le_of_ble_eq_true rfl) ⟨by dsimp only; omega, by dsimp only; omega⟩ dL_law_1692 (fun _ _ h9 => h9.elim) (fun k9 M9 hp9 => ?_)
  obtain ⟨rfl, hO9, hF9⟩ := hp9
  obtain ⟨g9, hg9, hv9⟩ := hO9
  have hD9 : mdI G M9 Mb 0 := (hD.frU (fun i9 hi9 h9 => hF9 (Mb i9) (fun h8 => absurd (hb _ _ hi9 (by decide) h8) h9) (fun r9 hr9 => hLM r9 hr9 i9 hi9)))
  refine xr_istore C dL_law_1695 (by decide) rfl ?_
  refine xr_aload_n C dL_law_1697 rfl ?_
  refine xr_aload_n C dL_law_1698 rfl ?_
  refine xr_iload C dL_law_1699 rfl ?_
  refine xr_iconst (n := 1) C dL_law_1701 (by decide +kernel) ?_
  refine xr_iadd C dL_law_1702 ?_
  refine xr_sldv C (hG.old C).1 (by omega) (by omega) (by omega) (by exact ei) dL_law_1703 ?_
  refine xr_aload_n C dL_law_1704 rfl ?_
  refine xr_iload C dL_law_1705 rfl ?_
  refine xr_iconst (n := 2) C dL_law_1707 (by decide +kernel) ?_
  refine xr_iadd C dL_law_1708 ?_
  refine xr_sldv C (hG.old C).1 (by omega) (by omega) (by omega) (by exact eq) dL_law_1709 ?_
  refine xr_callV2i C (m_copy l G Mb hb 0 M9 hD9 i hir q hqr) (cwV 2 C.1.2.2.2.2 gL_law_X12_copy rfl rfl rfl (by decide +kernel) ⟨Nat.le_of_ble_eq_true rfl, Nat.le_of_ble_eq_true rfl⟩) hD9.1 rfl (Nat.le_of_ble_eq_true rfl) ⟨by dsimp only; omega, by dsimp only; omega⟩ dL_law_1710 (fun r8 M8 hp8 => ?_)
  obtain ⟨hr8, hQ8⟩ := hp8
  obtain ⟨⟨vs8, hT8⟩, h39⟩ := hQ8
  refine xr_istore C dL_law_1713 (by decide) rfl ?_
  refine xr_aload_n C dL_law_1715 rfl ?_
  refine xr_callV0i C (m_thrown l G M8 (Mb 0) 1 vs8 hT8) (cwV 0 C.1.2.2.2.2 gL_law_X12_thrown rfl rfl rfl (by decide +kernel) ⟨Nat.le_of_ble_eq_true rfl, Nat.le_of_ble_eq_true rfl⟩) hT8 rfl (Nat.le_of_ble_eq_true rfl) ⟨by dsimp only; omega, by dsimp only; omega⟩ dL_law_1716 (fun t8 M7 hp7 => ?_)
  obtain ⟨rfl, rfl⟩ := hp7
  refine xr_iload C dL_law_1719 rfl ?_
  refine xr_icmp_eq C dL_law_1721 rfl (by decide) (by decide) (fun _ => ?_) (fun hq => absurd hq (by omega))
  refine xr_iload C dL_law_1726 rfl ?_
  refine xr_if_ne C dL_law_1728 rfl (by decide) (fun _ => ?_) (fun hq => absurd hq (by decide))
  refine xr_goto C dL_law_1743 rfl ?_
  refine mq_drop 5 ?_
  refine mq_drop 6 ?_
  exact kk _ _ _ (by omega) (by omega)
set_option maxHeartbeats 4000000 in
set_option maxRecDepth 100000 in
theorem lb_26 {p : Program} {e : Env} {s : State} {m : MethodId} {args : Array Value} {below : List Frame} {meth : Method} {c : Code} {Q : State → Prop} {z : Nat} (l : Launch) (hlt : l.stackTraces = false) (G : mq_G) (sb sn : Nat) (sx : Nat → Int32) (hG : pG G sb sn sx) (hA : pA G) (hn : sn = 4) (La : Nat → Nat) (hI : mq_inj La) (Mb : Nat → Nat) (hb : mb_inj Mb) (hLM : ∀ r, r < 275 → ∀ i, mbU i = true → Mb i ≠ La r) (M : mq_M) (hV : vF G M La) (hD : mdI G M Mb 0) (hO : lwO G M (Mb 39) none)
    (C : mq_C p m c cL_law 9 s args wsL_law RL G.1.1 (mq_tys G) z) (cells slots : Nat) (hc : cells ≤ 1000) (hs : slots ≤ 1000000)
    (kk : ∀ (M2 : mq_M) (cells2 slots2 : Nat), cells2 ≤ 2000 → slots2 ≤ 2000000 → mq_X p l e { frames := 12, cells := 600002, slots := 7302232, locals := 436 } s m args below meth c Q 9 G.1.1 z s.heap cells2 slots2 M2 2554 [some (.ref sb), some (.ref (La 0)), some (.ref (Mb 0)), some (.ref (Mb 39)), some (.int (zI 0)), none, none, none, none] []) : mq_X p l e { frames := 12, cells := 600002, slots := 7302232, locals := 436 } s m args below meth c Q 9 G.1.1 z s.heap cells slots M 1746 [some (.ref sb), some (.ref (La 0)), some (.ref (Mb 0)), some (.ref (Mb 39)), some (.int (zI 0)), none, none, none, none] [] := by
  subst hn
  obtain ⟨i, ei, hir⟩ := zI_of (sx 1)
  by_cases hv : 0 ≤ i ∧ i ≤ 15
  · refine xr_aload_n C dL_law_1746 rfl ?_
    refine xr_aload_n C dL_law_1747 rfl ?_
    refine xr_iload C dL_law_1748 rfl ?_
    refine xr_iconst (n := 1) C dL_law_1750 (by decide +kernel) ?_
    refine xr_iadd C dL_law_1751 ?_
    refine xr_sldv C (hG.old C).1 (by omega) (by omega) (by omega) (by exact ei) dL_law_1752 ?_
    refine xr_aload_n C dL_law_1753 rfl ?_
    refine xr_callXH3i C (h_isSound l hlt G sb 4 sx hG hA La hI M hV (Mb 39) (fun r9 hr9 => hLM r9 hr9 39 (by decide)) hO i hir) (vx_cwSW 3 C.1.2.2.2.2 gL_law_L_isSound rfl rfl rfl (by decide +kernel) ⟨Nat.le_of_ble_eq_true rfl, Nat.le_of_ble_eq_true rfl⟩) (Nat.le_of_ble_eq_true rfl) ⟨by dsimp only; omega, by dsimp only; omega⟩ dL_law_1754 (fun _ _ h9 => h9.elim) (fun k9 M9 hp9 => ?_)
    obtain ⟨hk9, hO9, hF9⟩ := hp9
    rw [if_pos hv] at hk9 hO9
    subst hk9
    obtain ⟨g9, hg9, hv9⟩ := hO9
    have hD9 : mdI G M9 Mb 0 := (hD.frU (fun i9 hi9 h9 => hF9 (Mb i9) (fun h8 => absurd (hb _ _ hi9 (by decide) h8) h9) (fun r9 hr9 => hLM r9 hr9 i9 hi9)))
    refine xr_istore C dL_law_1757 (by decide) rfl ?_
    refine xr_aload_n C dL_law_1759 rfl ?_
    refine xr_aload_n C dL_law_1760 rfl ?_
    refine xr_iload C dL_law_1761 rfl ?_
    refine xr_iconst (n := 1) C dL_law_1763 (by decide +kernel) ?_
    refine xr_iadd C dL_law_1764 ?_
    refine xr_sldv C (hG.old C).1 (by omega) (by omega) (by omega) (by exact ei) dL_law_1765 ?_
    refine xr_callV1i C (m_isSound l G hA Mb hb 0 M9 hD9 i hir) (cwV 1 C.1.2.2.2.2 gL_law_X12_isSound rfl rfl rfl (by decide +kernel) ⟨Nat.le_of_ble_eq_true rfl, Nat.le_of_ble_eq_true rfl⟩) hD9.1 rfl (Nat.le_of_ble_eq_true rfl) ⟨by dsimp only; omega, by dsimp only; omega⟩ dL_law_1766 (fun r8 M8 hp8 => ?_)
    obtain ⟨hr8, hQ8⟩ := hp8
    rw [if_pos hv] at hr8 hQ8
    obtain ⟨⟨vs8, hT8⟩, h39⟩ := hQ8
    have e8 := hr8 rfl
    subst e8
    refine xr_istore C dL_law_1769 (by decide) rfl ?_
    refine xr_aload_n C dL_law_1771 rfl ?_
    refine xr_callV0i C (m_thrown l G M8 (Mb 0) 0 vs8 hT8) (cwV 0 C.1.2.2.2.2 gL_law_X12_thrown rfl rfl rfl (by decide +kernel) ⟨Nat.le_of_ble_eq_true rfl, Nat.le_of_ble_eq_true rfl⟩) hT8 rfl (Nat.le_of_ble_eq_true rfl) ⟨by dsimp only; omega, by dsimp only; omega⟩ dL_law_1772 (fun t8 M7 hp7 => ?_)
    obtain ⟨rfl, rfl⟩ := hp7
    refine xr_iload C dL_law_1775 rfl ?_
    refine xr_icmp_eq C dL_law_1777 rfl (by decide) (by decide) (fun _ => ?_) (fun hq => absurd hq (by omega))
    refine xr_iload C dL_law_1782 rfl ?_
    refine xr_if_ne C dL_law_1784 rfl (by decide) (fun hq => absurd hq (by decide)) (fun _ => ?_)
    refine xr_aload_n C dL_law_1787 rfl ?_
    refine xr_iconst (n := 0) C dL_law_1788 (by decide +kernel) ?_
    have hg8 : M8 (Mb 39) = some (.inl (gJ G, 1, .inr (.inl g9))) := h39.trans hg9
    refine xr_lald C hg8 hA.J (by decide) (by decide) (by decide) dL_law_1789 ?_
    refine xr_iload C dL_law_1790 rfl ?_
    refine xr_if_eq C dL_law_1792 rfl (by decide) (fun _ => ?_) (fun hq => absurd hq (by decide))
    refine xr_lconst C dL_law_1799 rfl ?_
    refine xr_lcmp (w := 0) C dL_law_1800 (by rw [show g9 (0 : Int).toNat = _ from hv9 _ rfl]; exact lg_cmp_rf _) ?_
    refine xr_if_eq C dL_law_1801 rfl (by decide) (fun _ => ?_) (fun hq => absurd hq (by decide))
    refine xr_goto C dL_law_1806 rfl ?_
    refine mq_drop 5 ?_
    refine mq_drop 6 ?_
    exact kk _ _ _ (by omega) (by omega)
  · refine xr_aload_n C dL_law_1746 rfl ?_
    refine xr_aload_n C dL_law_1747 rfl ?_
    refine xr_iload C dL_law_1748 rfl ?_
    refine xr_iconst (n := 1) C dL_law_1750 (by decide +kernel) ?_
    refine xr_iadd C dL_law_1751 ?_
    refine xr_sldv C (hG.old C).1 (by omega) (by omega) (by omega) (by exact ei) dL_law_1752 ?_
    refine xr_aload_n C dL_law_1753 rfl ?_
    refine xr_callXH3i C (h_isSound l hlt G sb 4 sx hG hA La hI M hV (Mb 39) (fun r9 hr9 => hLM r9 hr9 39 (by decide)) hO i hir) (vx_cwSW 3 C.1.2.2.2.2 gL_law_L_isSound rfl rfl rfl (by decide +kernel) ⟨Nat.le_of_ble_eq_true rfl, Nat.le_of_ble_eq_true rfl⟩) (Nat.le_of_ble_eq_true rfl) ⟨by dsimp only; omega, by dsimp only; omega⟩ dL_law_1754 (fun _ _ h9 => h9.elim) (fun k9 M9 hp9 => ?_)
    obtain ⟨hk9, hO9, hF9⟩ := hp9
    rw [if_neg hv] at hk9 hO9
    subst hk9
    obtain ⟨g9, hg9, hv9⟩ := hO9
    have hD9 : mdI G M9 Mb 0 := (hD.frU (fun i9 hi9 h9 => hF9 (Mb i9) (fun h8 => absurd (hb _ _ hi9 (by decide) h8) h9) (fun r9 hr9 => hLM r9 hr9 i9 hi9)))
    refine xr_istore C dL_law_1757 (by decide) rfl ?_
    refine xr_aload_n C dL_law_1759 rfl ?_
    refine xr_aload_n C dL_law_1760 rfl ?_
    refine xr_iload C dL_law_1761 rfl ?_
    refine xr_iconst (n := 1) C dL_law_1763 (by decide +kernel) ?_
    refine xr_iadd C dL_law_1764 ?_
    refine xr_sldv C (hG.old C).1 (by omega) (by omega) (by omega) (by exact ei) dL_law_1765 ?_
    refine xr_callV1i C (m_isSound l G hA Mb hb 0 M9 hD9 i hir) (cwV 1 C.1.2.2.2.2 gL_law_X12_isSound rfl rfl rfl (by decide +kernel) ⟨Nat.le_of_ble_eq_true rfl, Nat.le_of_ble_eq_true rfl⟩) hD9.1 rfl (Nat.le_of_ble_eq_true rfl) ⟨by dsimp only; omega, by dsimp only; omega⟩ dL_law_1766 (fun r8 M8 hp8 => ?_)
    obtain ⟨hr8, hQ8⟩ := hp8
    rw [if_neg hv] at hr8 hQ8
    obtain ⟨⟨vs8, hT8⟩, h39⟩ := hQ8
    refine xr_istore C dL_law_1769 (by decide) rfl ?_
    refine xr_aload_n C dL_law_1771 rfl ?_
    refine xr_callV0i C (m_thrown l G M8 (Mb 0) 1 vs8 hT8) (cwV 0 C.1.2.2.2.2 gL_law_X12_thrown rfl rfl rfl (by decide +kernel) ⟨Nat.le_of_ble_eq_true rfl, Nat.le_of_ble_eq_true rfl⟩) hT8 rfl (Nat.le_of_ble_eq_true rfl) ⟨by dsimp only; omega, by dsimp only; omega⟩ dL_law_1772 (fun t8 M7 hp7 => ?_)
    obtain ⟨rfl, rfl⟩ := hp7
    refine xr_iload C dL_law_1775 rfl ?_
    refine xr_icmp_eq C dL_law_1777 rfl (by decide) (by decide) (fun _ => ?_) (fun hq => absurd hq (by omega))
    refine xr_iload C dL_law_1782 rfl ?_
    refine xr_if_ne C dL_law_1784 rfl (by decide) (fun _ => ?_) (fun hq => absurd hq (by decide))
    refine xr_goto C dL_law_1806 rfl ?_
    refine mq_drop 5 ?_
    refine mq_drop 6 ?_
    exact kk _ _ _ (by omega) (by omega)
set_option maxHeartbeats 4000000 in
set_option maxRecDepth 100000 in
theorem lb_27 {p : Program} {e : Env} {s : State} {m : MethodId} {args : Array Value} {below : List Frame} {meth : Method} {c : Code} {Q : State → Prop} {z : Nat} (l : Launch) (hlt : l.stackTraces = false) (G : mq_G) (sb sn : Nat) (sx : Nat → Int32) (hG : pG G sb sn sx) (hA : pA G) (hn : sn = 4) (La : Nat → Nat) (hI : mq_inj La) (Mb : Nat → Nat) (hb : mb_inj Mb) (hLM : ∀ r, r < 275 → ∀ i, mbU i = true → Mb i ≠ La r) (M : mq_M) (hV : vF G M La) (hD : mdI G M Mb 0) (hO : lwO G M (Mb 39) none)
    (C : mq_C p m c cL_law 9 s args wsL_law RL G.1.1 (mq_tys G) z) (cells slots : Nat) (hc : cells ≤ 1000) (hs : slots ≤ 1000000)
    (kk : ∀ (M2 : mq_M) (cells2 slots2 : Nat), cells2 ≤ 2000 → slots2 ≤ 2000000 → mq_X p l e { frames := 12, cells := 600002, slots := 7302232, locals := 436 } s m args below meth c Q 9 G.1.1 z s.heap cells2 slots2 M2 2554 [some (.ref sb), some (.ref (La 0)), some (.ref (Mb 0)), some (.ref (Mb 39)), some (.int (zI 0)), none, none, none, none] []) : mq_X p l e { frames := 12, cells := 600002, slots := 7302232, locals := 436 } s m args below meth c Q 9 G.1.1 z s.heap cells slots M 1809 [some (.ref sb), some (.ref (La 0)), some (.ref (Mb 0)), some (.ref (Mb 39)), some (.int (zI 0)), none, none, none, none] [] := by
  subst hn
  refine xr_aload_n C dL_law_1809 rfl ?_
  refine xr_callV0i C (c_leader l G La hI [] vk0 (fun _ => false) (fun _ => []) vr0 M hV) (cwV 0 C.1.2.2.2.2 gL_law_X11_leader rfl rfl rfl (by decide +kernel) ⟨Nat.le_of_ble_eq_true rfl, Nat.le_of_ble_eq_true rfl⟩) hV.1 rfl (Nat.le_of_ble_eq_true rfl) ⟨by dsimp only; omega, by dsimp only; omega⟩ dL_law_1810 (fun r9 M9 hp9 => ?_)
  obtain ⟨hr9, -, hF9⟩ := hp9
  rw [show (svS (fun _ => false) (fun _ => []) 16).1 = -1 by decide +kernel] at hr9
  subst hr9
  have hD9 : mdI G M9 Mb 0 := (hD.frU (fun i9 hi9 h9 => hF9 (Mb i9) (fun hm => by obtain ⟨r, hr, e⟩ := List.mem_map.mp hm; exact hLM r (vtA_l r hr) i9 hi9 e.symm)))
  refine xr_aload_n C dL_law_1813 rfl ?_
  refine xr_callV0i C (m_leader l G hA Mb hb 0 M9 hD9) (cwV 0 C.1.2.2.2.2 gL_law_X12_leader rfl rfl rfl (by decide +kernel) ⟨Nat.le_of_ble_eq_true rfl, Nat.le_of_ble_eq_true rfl⟩) hD9.1 rfl (Nat.le_of_ble_eq_true rfl) ⟨by dsimp only; omega, by dsimp only; omega⟩ dL_law_1814 (fun r8 M8 hp8 => ?_)
  obtain ⟨hr8, -⟩ := hp8
  have e8 := hr8 rfl
  subst e8
  refine xr_icmp_eq C dL_law_1817 rfl (by decide) (by decide) (fun _ => ?_) (fun hq => absurd hq (by omega))
  exact kk _ _ _ (by omega) (by omega)
set_option maxHeartbeats 4000000 in
set_option maxRecDepth 100000 in
theorem lb_28 {p : Program} {e : Env} {s : State} {m : MethodId} {args : Array Value} {below : List Frame} {meth : Method} {c : Code} {Q : State → Prop} {z : Nat} (l : Launch) (hlt : l.stackTraces = false) (G : mq_G) (sb sn : Nat) (sx : Nat → Int32) (hG : pG G sb sn sx) (hA : pA G) (hn : sn = 4) (La : Nat → Nat) (hI : mq_inj La) (Mb : Nat → Nat) (hb : mb_inj Mb) (hLM : ∀ r, r < 275 → ∀ i, mbU i = true → Mb i ≠ La r) (M : mq_M) (hV : vF G M La) (hD : mdI G M Mb 0) (hO : lwO G M (Mb 39) none)
    (C : mq_C p m c cL_law 9 s args wsL_law RL G.1.1 (mq_tys G) z) (cells slots : Nat) (hc : cells ≤ 1000) (hs : slots ≤ 1000000)
    (kk : ∀ (M2 : mq_M) (cells2 slots2 : Nat), cells2 ≤ 2000 → slots2 ≤ 2000000 → mq_X p l e { frames := 12, cells := 600002, slots := 7302232, locals := 436 } s m args below meth c Q 9 G.1.1 z s.heap cells2 slots2 M2 2554 [some (.ref sb), some (.ref (La 0)), some (.ref (Mb 0)), some (.ref (Mb 39)), some (.int (zI 0)), none, none, none, none] []) : mq_X p l e { frames := 12, cells := 600002, slots := 7302232, locals := 436 } s m args below meth c Q 9 G.1.1 z s.heap cells slots M 1822 [some (.ref sb), some (.ref (La 0)), some (.ref (Mb 0)), some (.ref (Mb 39)), some (.int (zI 0)), none, none, none, none] [] := by
  subst hn
  refine xr_aload_n C dL_law_1822 rfl ?_
  refine xr_callV0i C (c_present l G La hI [] vk0 (fun _ => false) (fun _ => []) vr0 M hV) (cwV 0 C.1.2.2.2.2 gL_law_X11_present rfl rfl rfl (by decide +kernel) ⟨Nat.le_of_ble_eq_true rfl, Nat.le_of_ble_eq_true rfl⟩) hV.1 rfl (Nat.le_of_ble_eq_true rfl) ⟨by dsimp only; omega, by dsimp only; omega⟩ dL_law_1823 (fun r9 M9 hp9 => ?_)
  obtain ⟨hr9, -, hF9⟩ := hp9
  rw [show ((svS (fun _ => false) (fun _ => []) 16).2.1 : Int) = 0 by decide +kernel] at hr9
  subst hr9
  have hD9 : mdI G M9 Mb 0 := (hD.frU (fun i9 hi9 h9 => hF9 (Mb i9) (fun hm => by obtain ⟨r, hr, e⟩ := List.mem_map.mp hm; exact hLM r (vtA_l r hr) i9 hi9 e.symm)))
  refine xr_aload_n C dL_law_1826 rfl ?_
  refine xr_callV0i C (m_present l G hA Mb hb 0 M9 hD9) (cwV 0 C.1.2.2.2.2 gL_law_X12_present rfl rfl rfl (by decide +kernel) ⟨Nat.le_of_ble_eq_true rfl, Nat.le_of_ble_eq_true rfl⟩) hD9.1 rfl (Nat.le_of_ble_eq_true rfl) ⟨by dsimp only; omega, by dsimp only; omega⟩ dL_law_1827 (fun r8 M8 hp8 => ?_)
  obtain ⟨hr8, -⟩ := hp8
  have e8 := hr8 rfl
  subst e8
  refine xr_icmp_eq C dL_law_1830 rfl (by decide) (by decide) (fun _ => ?_) (fun hq => absurd hq (by omega))
  exact kk _ _ _ (by omega) (by omega)
set_option maxHeartbeats 4000000 in
set_option maxRecDepth 100000 in
theorem lb_29 {p : Program} {e : Env} {s : State} {m : MethodId} {args : Array Value} {below : List Frame} {meth : Method} {c : Code} {Q : State → Prop} {z : Nat} (l : Launch) (hlt : l.stackTraces = false) (G : mq_G) (sb sn : Nat) (sx : Nat → Int32) (hG : pG G sb sn sx) (hA : pA G) (hn : sn = 4) (La : Nat → Nat) (hI : mq_inj La) (Mb : Nat → Nat) (hb : mb_inj Mb) (hLM : ∀ r, r < 275 → ∀ i, mbU i = true → Mb i ≠ La r) (M : mq_M) (hV : vF G M La) (hD : mdI G M Mb 0) (hO : lwO G M (Mb 39) none)
    (C : mq_C p m c cL_law 9 s args wsL_law RL G.1.1 (mq_tys G) z) (cells slots : Nat) (hc : cells ≤ 1000) (hs : slots ≤ 1000000)
    (kk : ∀ (M2 : mq_M) (cells2 slots2 : Nat), cells2 ≤ 2000 → slots2 ≤ 2000000 → mq_X p l e { frames := 12, cells := 600002, slots := 7302232, locals := 436 } s m args below meth c Q 9 G.1.1 z s.heap cells2 slots2 M2 2554 [some (.ref sb), some (.ref (La 0)), some (.ref (Mb 0)), some (.ref (Mb 39)), some (.int (zI 0)), none, none, none, none] []) : mq_X p l e { frames := 12, cells := 600002, slots := 7302232, locals := 436 } s m args below meth c Q 9 G.1.1 z s.heap cells slots M 1835 [some (.ref sb), some (.ref (La 0)), some (.ref (Mb 0)), some (.ref (Mb 39)), some (.int (zI 0)), none, none, none, none] [] := by
  subst hn
  obtain ⟨i, ei, hir⟩ := zI_of (sx 1)
  by_cases hv : 0 ≤ i ∧ i ≤ 15
  · refine xr_aload_n C dL_law_1835 rfl ?_
    refine xr_aload_n C dL_law_1836 rfl ?_
    refine xr_iload C dL_law_1837 rfl ?_
    refine xr_iconst (n := 1) C dL_law_1839 (by decide +kernel) ?_
    refine xr_iadd C dL_law_1840 ?_
    refine xr_sldv C (hG.old C).1 (by omega) (by omega) (by omega) (by exact ei) dL_law_1841 ?_
    refine xr_aload_n C dL_law_1842 rfl ?_
    refine xr_callXH3i C (h_numberOf l hlt G sb 4 sx hG hA La hI M hV (Mb 39) (fun r9 hr9 => hLM r9 hr9 39 (by decide)) hO i hir) (vx_cwSW 3 C.1.2.2.2.2 gL_law_L_numberOf rfl rfl rfl (by decide +kernel) ⟨Nat.le_of_ble_eq_true rfl, Nat.le_of_ble_eq_true rfl⟩) (Nat.le_of_ble_eq_true rfl) ⟨by dsimp only; omega, by dsimp only; omega⟩ dL_law_1843 (fun _ _ h9 => h9.elim) (fun k9 M9 hp9 => ?_)
    obtain ⟨hk9, hO9, hF9⟩ := hp9
    rw [if_pos hv] at hk9 hO9
    subst hk9
    obtain ⟨g9, hg9, hv9⟩ := hO9
    have hD9 : mdI G M9 Mb 0 := (hD.frU (fun i9 hi9 h9 => hF9 (Mb i9) (fun h8 => absurd (hb _ _ hi9 (by decide) h8) h9) (fun r9 hr9 => hLM r9 hr9 i9 hi9)))
    refine xr_istore C dL_law_1846 (by decide) rfl ?_
    refine xr_aload_n C dL_law_1848 rfl ?_
    refine xr_aload_n C dL_law_1849 rfl ?_
    refine xr_iload C dL_law_1850 rfl ?_
    refine xr_iconst (n := 1) C dL_law_1852 (by decide +kernel) ?_
    refine xr_iadd C dL_law_1853 ?_
    refine xr_sldv C (hG.old C).1 (by omega) (by omega) (by omega) (by exact ei) dL_law_1854 ?_
    refine xr_callV1i C (m_numberOf l G hA Mb hb 0 M9 hD9 i hir) (cwV 1 C.1.2.2.2.2 gL_law_X12_numberOf rfl rfl rfl (by decide +kernel) ⟨Nat.le_of_ble_eq_true rfl, Nat.le_of_ble_eq_true rfl⟩) hD9.1 rfl (Nat.le_of_ble_eq_true rfl) ⟨by dsimp only; omega, by dsimp only; omega⟩ dL_law_1855 (fun r8 M8 hp8 => ?_)
    obtain ⟨hr8, hQ8⟩ := hp8
    rw [if_pos hv] at hr8 hQ8
    obtain ⟨⟨vs8, hT8⟩, h39⟩ := hQ8
    have e8 := hr8 rfl
    subst e8
    refine xr_istore C dL_law_1858 (by decide) rfl ?_
    refine xr_aload_n C dL_law_1860 rfl ?_
    refine xr_callV0i C (m_thrown l G M8 (Mb 0) 0 vs8 hT8) (cwV 0 C.1.2.2.2.2 gL_law_X12_thrown rfl rfl rfl (by decide +kernel) ⟨Nat.le_of_ble_eq_true rfl, Nat.le_of_ble_eq_true rfl⟩) hT8 rfl (Nat.le_of_ble_eq_true rfl) ⟨by dsimp only; omega, by dsimp only; omega⟩ dL_law_1861 (fun t8 M7 hp7 => ?_)
    obtain ⟨rfl, rfl⟩ := hp7
    refine xr_iload C dL_law_1864 rfl ?_
    refine xr_icmp_eq C dL_law_1866 rfl (by decide) (by decide) (fun _ => ?_) (fun hq => absurd hq (by omega))
    refine xr_iload C dL_law_1871 rfl ?_
    refine xr_if_ne C dL_law_1873 rfl (by decide) (fun hq => absurd hq (by decide)) (fun _ => ?_)
    refine xr_aload_n C dL_law_1876 rfl ?_
    refine xr_iconst (n := 0) C dL_law_1877 (by decide +kernel) ?_
    have hg8 : M8 (Mb 39) = some (.inl (gJ G, 1, .inr (.inl g9))) := h39.trans hg9
    refine xr_lald C hg8 hA.J (by decide) (by decide) (by decide) dL_law_1878 ?_
    refine xr_iload C dL_law_1879 rfl ?_
    refine xr_i2l C dL_law_1881 ?_
    refine xr_lcmp (w := 0) C dL_law_1882 (by rw [show g9 (0 : Int).toNat = _ from hv9 _ rfl]; exact lg_cmp_rf _) ?_
    refine xr_if_eq C dL_law_1883 rfl (by decide) (fun _ => ?_) (fun hq => absurd hq (by decide))
    refine xr_goto C dL_law_1888 rfl ?_
    refine mq_drop 5 ?_
    refine mq_drop 6 ?_
    exact kk _ _ _ (by omega) (by omega)
  · refine xr_aload_n C dL_law_1835 rfl ?_
    refine xr_aload_n C dL_law_1836 rfl ?_
    refine xr_iload C dL_law_1837 rfl ?_
    refine xr_iconst (n := 1) C dL_law_1839 (by decide +kernel) ?_
    refine xr_iadd C dL_law_1840 ?_
    refine xr_sldv C (hG.old C).1 (by omega) (by omega) (by omega) (by exact ei) dL_law_1841 ?_
    refine xr_aload_n C dL_law_1842 rfl ?_
    refine xr_callXH3i C (h_numberOf l hlt G sb 4 sx hG hA La hI M hV (Mb 39) (fun r9 hr9 => hLM r9 hr9 39 (by decide)) hO i hir) (vx_cwSW 3 C.1.2.2.2.2 gL_law_L_numberOf rfl rfl rfl (by decide +kernel) ⟨Nat.le_of_ble_eq_true rfl, Nat.le_of_ble_eq_true rfl⟩) (Nat.le_of_ble_eq_true rfl) ⟨by dsimp only; omega, by dsimp only; omega⟩ dL_law_1843 (fun _ _ h9 => h9.elim) (fun k9 M9 hp9 => ?_)
    obtain ⟨hk9, hO9, hF9⟩ := hp9
    rw [if_neg hv] at hk9 hO9
    subst hk9
    obtain ⟨g9, hg9, hv9⟩ := hO9
    have hD9 : mdI G M9 Mb 0 := (hD.frU (fun i9 hi9 h9 => hF9 (Mb i9) (fun h8 => absurd (hb _ _ hi9 (by decide) h8) h9) (fun r9 hr9 => hLM r9 hr9 i9 hi9)))
    refine xr_istore C dL_law_1846 (by decide) rfl ?_
    refine xr_aload_n C dL_law_1848 rfl ?_
    refine xr_aload_n C dL_law_1849 rfl ?_
    refine xr_iload C dL_law_1850 rfl ?_
    refine xr_iconst (n := 1) C dL_law_1852 (by decide +kernel) ?_
    refine xr_iadd C dL_law_1853 ?_
    refine xr_sldv C (hG.old C).1 (by omega) (by omega) (by omega) (by exact ei) dL_law_1854 ?_
    refine xr_callV1i C (m_numberOf l G hA Mb hb 0 M9 hD9 i hir) (cwV 1 C.1.2.2.2.2 gL_law_X12_numberOf rfl rfl rfl (by decide +kernel) ⟨Nat.le_of_ble_eq_true rfl, Nat.le_of_ble_eq_true rfl⟩) hD9.1 rfl (Nat.le_of_ble_eq_true rfl) ⟨by dsimp only; omega, by dsimp only; omega⟩ dL_law_1855 (fun r8 M8 hp8 => ?_)
    obtain ⟨hr8, hQ8⟩ := hp8
    rw [if_neg hv] at hr8 hQ8
    obtain ⟨⟨vs8, hT8⟩, h39⟩ := hQ8
    refine xr_istore C dL_law_1858 (by decide) rfl ?_
    refine xr_aload_n C dL_law_1860 rfl ?_
    refine xr_callV0i C (m_thrown l G M8 (Mb 0) 1 vs8 hT8) (cwV 0 C.1.2.2.2.2 gL_law_X12_thrown rfl rfl rfl (by decide +kernel) ⟨Nat.le_of_ble_eq_true rfl, Nat.le_of_ble_eq_true rfl⟩) hT8 rfl (Nat.le_of_ble_eq_true rfl) ⟨by dsimp only; omega, by dsimp only; omega⟩ dL_law_1861 (fun t8 M7 hp7 => ?_)
    obtain ⟨rfl, rfl⟩ := hp7
    refine xr_iload C dL_law_1864 rfl ?_
    refine xr_icmp_eq C dL_law_1866 rfl (by decide) (by decide) (fun _ => ?_) (fun hq => absurd hq (by omega))
    refine xr_iload C dL_law_1871 rfl ?_
    refine xr_if_ne C dL_law_1873 rfl (by decide) (fun _ => ?_) (fun hq => absurd hq (by decide))
    refine xr_goto C dL_law_1888 rfl ?_
    refine mq_drop 5 ?_
    refine mq_drop 6 ?_
    exact kk _ _ _ (by omega) (by omega)
set_option maxHeartbeats 4000000 in
set_option maxRecDepth 100000 in
theorem lb_30 {p : Program} {e : Env} {s : State} {m : MethodId} {args : Array Value} {below : List Frame} {meth : Method} {c : Code} {Q : State → Prop} {z : Nat} (l : Launch) (hlt : l.stackTraces = false) (G : mq_G) (sb sn : Nat) (sx : Nat → Int32) (hG : pG G sb sn sx) (hA : pA G) (hn : sn = 4) (La : Nat → Nat) (hI : mq_inj La) (Mb : Nat → Nat) (hb : mb_inj Mb) (hLM : ∀ r, r < 275 → ∀ i, mbU i = true → Mb i ≠ La r) (M : mq_M) (hV : vF G M La) (hD : mdI G M Mb 0) (hO : lwO G M (Mb 39) none)
    (C : mq_C p m c cL_law 9 s args wsL_law RL G.1.1 (mq_tys G) z) (cells slots : Nat) (hc : cells ≤ 1000) (hs : slots ≤ 1000000)
    (kk : ∀ (M2 : mq_M) (cells2 slots2 : Nat), cells2 ≤ 2000 → slots2 ≤ 2000000 → mq_X p l e { frames := 12, cells := 600002, slots := 7302232, locals := 436 } s m args below meth c Q 9 G.1.1 z s.heap cells2 slots2 M2 2554 [some (.ref sb), some (.ref (La 0)), some (.ref (Mb 0)), some (.ref (Mb 39)), some (.int (zI 0)), none, none, none, none] []) : mq_X p l e { frames := 12, cells := 600002, slots := 7302232, locals := 436 } s m args below meth c Q 9 G.1.1 z s.heap cells slots M 1891 [some (.ref sb), some (.ref (La 0)), some (.ref (Mb 0)), some (.ref (Mb 39)), some (.int (zI 0)), none, none, none, none] [] := by
  subst hn
  refine xr_aload_n C dL_law_1891 rfl ?_
  refine xr_callV0i C (c_spare l G La hI [] vk0 (fun _ => false) (fun _ => []) vr0 M hV) (cwV 0 C.1.2.2.2.2 gL_law_X11_spare rfl rfl rfl (by decide +kernel) ⟨Nat.le_of_ble_eq_true rfl, Nat.le_of_ble_eq_true rfl⟩) hV.1 rfl (Nat.le_of_ble_eq_true rfl) ⟨by dsimp only; omega, by dsimp only; omega⟩ dL_law_1892 (fun r9 M9 hp9 => ?_)
  obtain ⟨hr9, -, hF9⟩ := hp9
  rw [show spF (fun _ => false) (fun _ => []) = -1 by decide +kernel] at hr9
  subst hr9
  have hD9 : mdI G M9 Mb 0 := (hD.frU (fun i9 hi9 h9 => hF9 (Mb i9) (fun hm => by obtain ⟨r, hr, e⟩ := List.mem_map.mp hm; exact hLM r (vtA_l r hr) i9 hi9 e.symm)))
  refine xr_aload_n C dL_law_1895 rfl ?_
  refine xr_callV0i C (m_spare l G hA Mb hb 0 M9 hD9) (cwV 0 C.1.2.2.2.2 gL_law_X12_spare rfl rfl rfl (by decide +kernel) ⟨Nat.le_of_ble_eq_true rfl, Nat.le_of_ble_eq_true rfl⟩) hD9.1 rfl (Nat.le_of_ble_eq_true rfl) ⟨by dsimp only; omega, by dsimp only; omega⟩ dL_law_1896 (fun r8 M8 hp8 => ?_)
  obtain ⟨hr8, -⟩ := hp8
  have e8 := hr8 rfl
  subst e8
  refine xr_icmp_eq C dL_law_1899 rfl (by decide) (by decide) (fun _ => ?_) (fun hq => absurd hq (by omega))
  exact kk _ _ _ (by omega) (by omega)
