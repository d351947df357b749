set_option maxHeartbeats 4000000 in
set_option maxRecDepth 100000 in
theorem lb_16 {p : Program} {e : Env} {s : State} {m : MethodId} {args : Array Value} {below : List Frame} {meth : Method} {c : Code} {Q : State → Prop} {z : Nat} (l : Launch) (hlt : l.stackTraces = false) (G : mq_G) (sb sn : Nat) (sx : Nat → Int32) (hG : pG G sb sn sx) (hA : pA G) (hn : sn = 4) (La : Nat → Nat) (hI : mq_inj La) (Mb : Nat → Nat) (hb : mb_inj Mb) (hLM : ∀ r, r < 275 → ∀ i, mbU i = true → Mb i ≠ La r) (M : mq_M) (hV : vF G M La) (hD : mdI G M Mb 0) (hO : lwO G M (Mb 39) none)
    (C : mq_C p m c cL_law 9 s args wsL_law RL G.1.1 (mq_tys G) z) (cells slots : Nat) (hc : cells ≤ 1000) (hs : slots ≤ 1000000)
    (kk : ∀ (M2 : mq_M) (cells2 slots2 : Nat), cells2 ≤ 2000 → slots2 ≤ 2000000 → mq_X p l e { frames := 12, cells := 600002, slots := 7302232, locals := 436 } s m args below meth c Q 9 G.1.1 z s.heap cells2 slots2 M2 2554 [some (.ref sb), some (.ref (La 0)), some (.ref (Mb 0)), some (.ref (Mb 39)), some (.int (zI 0)), none, none, none, none] []) : mq_X p l e { frames := 12, cells := 600002, slots := 7302232, locals := 436 } s m args below meth c Q 9 G.1.1 z s.heap cells slots M 1138 [some (.ref sb), some (.ref (La 0)), some (.ref (Mb 0)), some (.ref (Mb 39)), some (.int (zI 0)), none, none, none, none] [] := by
  subst hn
  refine xr_aload_n C dL_law_1138 rfl ?_
  refine xr_callV0i C (c_streamLength l G La hI M hV) (cwV 0 C.1.2.2.2.2 gL_law_X11_streamLength rfl rfl rfl (by decide +kernel) ⟨Nat.le_of_ble_eq_true rfl, Nat.le_of_ble_eq_true rfl⟩) hV.1 rfl (Nat.le_of_ble_eq_true rfl) ⟨by dsimp only; omega, by dsimp only; omega⟩ dL_law_1139 (fun r9 M9 hp9 => ?_)
  obtain ⟨rfl, rfl⟩ := hp9
  refine xr_aload_n C dL_law_1142 rfl ?_
  refine xr_callV0i C (m_streamLength l G Mb hb 0 M hD) (cwV 0 C.1.2.2.2.2 gL_law_X12_streamLength rfl rfl rfl (by decide +kernel) ⟨Nat.le_of_ble_eq_true rfl, Nat.le_of_ble_eq_true rfl⟩) hD.1 rfl (Nat.le_of_ble_eq_true rfl) ⟨by dsimp only; omega, by dsimp only; omega⟩ dL_law_1143 (fun r8 M8 hp8 => ?_)
  obtain ⟨hr8, -⟩ := hp8
  have e8 := hr8 rfl
  subst e8
  refine xr_icmp_eq C dL_law_1146 rfl (by decide) (by decide) (fun _ => ?_) (fun hq => absurd hq (by omega))
  exact kk _ _ _ (by omega) (by omega)
set_option maxHeartbeats 4000000 in
set_option maxRecDepth 100000 in
theorem lb_17 {p : Program} {e : Env} {s : State} {m : MethodId} {args : Array Value} {below : List Frame} {meth : Method} {c : Code} {Q : State → Prop} {z : Nat} (l : Launch) (hlt : l.stackTraces = false) (G : mq_G) (sb sn : Nat) (sx : Nat → Int32) (hG : pG G sb sn sx) (hA : pA G) (hn : sn = 4) (La : Nat → Nat) (hI : mq_inj La) (Mb : Nat → Nat) (hb : mb_inj Mb) (hLM : ∀ r, r < 275 → ∀ i, mbU i = true → Mb i ≠ La r) (M : mq_M) (hV : vF G M La) (hD : mdI G M Mb 0) (hO : lwO G M (Mb 39) none)
    (C : mq_C p m c cL_law 9 s args wsL_law RL G.1.1 (mq_tys G) z) (cells slots : Nat) (hc : cells ≤ 1000) (hs : slots ≤ 1000000)
    (kk : ∀ (M2 : mq_M) (cells2 slots2 : Nat), cells2 ≤ 2000 → slots2 ≤ 2000000 → mq_X p l e { frames := 12, cells := 600002, slots := 7302232, locals := 436 } s m args below meth c Q 9 G.1.1 z s.heap cells2 slots2 M2 2554 [some (.ref sb), some (.ref (La 0)), some (.ref (Mb 0)), some (.ref (Mb 39)), some (.int (zI 0)), none, none, none, none] []) : mq_X p l e { frames := 12, cells := 600002, slots := 7302232, locals := 436 } s m args below meth c Q 9 G.1.1 z s.heap cells slots M 1151 [some (.ref sb), some (.ref (La 0)), some (.ref (Mb 0)), some (.ref (Mb 39)), some (.int (zI 0)), none, none, none, none] [] := by
  subst hn
  obtain ⟨x, ex, hxr⟩ := zI_of (sx 1)
  obtain ⟨y, ey, hyr⟩ := zI_of (sx 2)
  by_cases hv : (1 ≤ x ∧ x ≤ 10) ∧ (0 ≤ y ∧ y ≤ 6)
  · refine xr_aload_n C dL_law_1151 rfl ?_
    refine xr_aload_n C dL_law_1152 rfl ?_
    refine xr_iload C dL_law_1153 rfl ?_
    refine xr_iconst (n := 1) C dL_law_1155 (by decide +kernel) ?_
    refine xr_iadd C dL_law_1156 ?_
    refine xr_sldv C (hG.old C).1 (by omega) (by omega) (by omega) (by exact ex) dL_law_1157 ?_
    refine xr_aload_n C dL_law_1158 rfl ?_
    refine xr_iload C dL_law_1159 rfl ?_
    refine xr_iconst (n := 2) C dL_law_1161 (by decide +kernel) ?_
    refine xr_iadd C dL_law_1162 ?_
    refine xr_sldv C (hG.old C).1 (by omega) (by omega) (by omega) (by exact ey) dL_law_1163 ?_
    refine xr_aload_n C dL_law_1164 rfl ?_
    refine xr_callXH4i C (h_build l hlt G sb 4 sx hG hA La hI M hV (Mb 39) (fun r9 hr9 => hLM r9 hr9 39 (by decide)) hO x hxr y hyr) (vx_cwSW 4 C.1.2.2.2.2 gL_law_L_build rfl rfl rfl (by decide +kernel) ⟨Nat.le_of_ble_eq_true rfl, Nat.le_of_ble_eq_true rfl⟩) (Nat.le_of_ble_eq_true rfl) ⟨by dsimp only; omega, by dsimp only; omega⟩ dL_law_1165 (fun _ _ h9 => h9.elim) (fun k9 M9 hp9 => ?_)
    obtain ⟨hk9, hO9, hF9⟩ := hp9
    rw [if_pos hv] at hk9 hO9
    subst hk9
    obtain ⟨g9, hg9, hv9⟩ := hO9
    have hD9 : mdI G M9 Mb 0 := (hD.frU (fun i9 hi9 h9 => hF9 (Mb i9) (fun h8 => absurd (hb _ _ hi9 (by decide) h8) h9) (fun r9 hr9 => hLM r9 hr9 i9 hi9)))
    refine xr_istore C dL_law_1168 (by decide) rfl ?_
    refine xr_aload_n C dL_law_1170 rfl ?_
    refine xr_aload_n C dL_law_1171 rfl ?_
    refine xr_iload C dL_law_1172 rfl ?_
    refine xr_iconst (n := 1) C dL_law_1174 (by decide +kernel) ?_
    refine xr_iadd C dL_law_1175 ?_
    refine xr_sldv C (hG.old C).1 (by omega) (by omega) (by omega) (by exact ex) dL_law_1176 ?_
    refine xr_aload_n C dL_law_1177 rfl ?_
    refine xr_iload C dL_law_1178 rfl ?_
    refine xr_iconst (n := 2) C dL_law_1180 (by decide +kernel) ?_
    refine xr_iadd C dL_law_1181 ?_
    refine xr_sldv C (hG.old C).1 (by omega) (by omega) (by omega) (by exact ey) dL_law_1182 ?_
    refine xr_callV2i C (m_build l G sb 4 sx hG hA Mb hb 0 M9 hD9 (by rw [hg9]; exact nofun) x hxr y hyr) (cwV 2 C.1.2.2.2.2 gL_law_X12_build rfl rfl rfl (by decide +kernel) ⟨Nat.le_of_ble_eq_true rfl, Nat.le_of_ble_eq_true rfl⟩) hD9.1 rfl (Nat.le_of_ble_eq_true rfl) ⟨by dsimp only; omega, by dsimp only; omega⟩ dL_law_1183 (fun r8 M8 hp8 => ?_)
    obtain ⟨hr8, hQ8⟩ := hp8
    rw [if_pos hv] at hr8 hQ8
    obtain ⟨⟨vs8, hT8⟩, h39⟩ := hQ8
    have e8 := hr8 rfl
    subst e8
    refine xr_istore C dL_law_1186 (by decide) rfl ?_
    refine xr_aload_n C dL_law_1188 rfl ?_
    refine xr_callV0i C (m_thrown l G M8 (Mb 0) 0 vs8 hT8) (cwV 0 C.1.2.2.2.2 gL_law_X12_thrown rfl rfl rfl (by decide +kernel) ⟨Nat.le_of_ble_eq_true rfl, Nat.le_of_ble_eq_true rfl⟩) hT8 rfl (Nat.le_of_ble_eq_true rfl) ⟨by dsimp only; omega, by dsimp only; omega⟩ dL_law_1189 (fun t8 M7 hp7 => ?_)
    obtain ⟨rfl, rfl⟩ := hp7
    refine xr_iload C dL_law_1192 rfl ?_
    refine xr_icmp_eq C dL_law_1194 rfl (by decide) (by decide) (fun _ => ?_) (fun hq => absurd hq (by omega))
    refine xr_iload C dL_law_1199 rfl ?_
    refine xr_if_ne C dL_law_1201 rfl (by decide) (fun hq => absurd hq (by decide)) (fun _ => ?_)
    refine xr_aload_n C dL_law_1204 rfl ?_
    refine xr_iconst (n := 0) C dL_law_1205 (by decide +kernel) ?_
    have hg8 : M8 (Mb 39) = some (.inl (gJ G, 1, .inr (.inl g9))) := h39.trans hg9
    refine xr_lald C hg8 hA.J (by decide) (by decide) (by decide) dL_law_1206 ?_
    refine xr_iload C dL_law_1207 rfl ?_
    refine xr_i2l C dL_law_1209 ?_
    refine xr_lcmp (w := 0) C dL_law_1210 (by rw [show g9 (0 : Int).toNat = _ from hv9 _ rfl]; exact lg_cmp_rf _) ?_
    refine xr_if_eq C dL_law_1211 rfl (by decide) (fun _ => ?_) (fun hq => absurd hq (by decide))
    refine xr_goto C dL_law_1216 rfl ?_
    refine mq_drop 5 ?_
    refine mq_drop 6 ?_
    exact kk _ _ _ (by omega) (by omega)
  · refine xr_aload_n C dL_law_1151 rfl ?_
    refine xr_aload_n C dL_law_1152 rfl ?_
    refine xr_iload C dL_law_1153 rfl ?_
    refine xr_iconst (n := 1) C dL_law_1155 (by decide +kernel) ?_
    refine xr_iadd C dL_law_1156 ?_
    refine xr_sldv C (hG.old C).1 (by omega) (by omega) (by omega) (by exact ex) dL_law_1157 ?_
    refine xr_aload_n C dL_law_1158 rfl ?_
    refine xr_iload C dL_law_1159 rfl ?_
    refine xr_iconst (n := 2) C dL_law_1161 (by decide +kernel) ?_
    refine xr_iadd C dL_law_1162 ?_
    refine xr_sldv C (hG.old C).1 (by omega) (by omega) (by omega) (by exact ey) dL_law_1163 ?_
    refine xr_aload_n C dL_law_1164 rfl ?_
    refine xr_callXH4i C (h_build l hlt G sb 4 sx hG hA La hI M hV (Mb 39) (fun r9 hr9 => hLM r9 hr9 39 (by decide)) hO x hxr y hyr) (vx_cwSW 4 C.1.2.2.2.2 gL_law_L_build rfl rfl rfl (by decide +kernel) ⟨Nat.le_of_ble_eq_true rfl, Nat.le_of_ble_eq_true rfl⟩) (Nat.le_of_ble_eq_true rfl) ⟨by dsimp only; omega, by dsimp only; omega⟩ dL_law_1165 (fun _ _ h9 => h9.elim) (fun k9 M9 hp9 => ?_)
    obtain ⟨hk9, hO9, hF9⟩ := hp9
    rw [if_neg hv] at hk9 hO9
    subst hk9
    obtain ⟨g9, hg9, hv9⟩ := hO9
    have hD9 : mdI G M9 Mb 0 := (hD.frU (fun i9 hi9 h9 => hF9 (Mb i9) (fun h8 => absurd (hb _ _ hi9 (by decide) h8) h9) (fun r9 hr9 => hLM r9 hr9 i9 hi9)))
    refine xr_istore C dL_law_1168 (by decide) rfl ?_
    refine xr_aload_n C dL_law_1170 rfl ?_
    refine xr_aload_n C dL_law_1171 rfl ?_
    refine xr_iload C dL_law_1172 rfl ?_
    refine xr_iconst (n := 1) C dL_law_1174 (by decide +kernel) ?_
    refine xr_iadd C dL_law_1175 ?_
    refine xr_sldv C (hG.old C).1 (by omega) (by omega) (by omega) (by exact ex) dL_law_1176 ?_
    refine xr_aload_n C dL_law_1177 rfl ?_
    refine xr_iload C dL_law_1178 rfl ?_
    refine xr_iconst (n := 2) C dL_law_1180 (by decide +kernel) ?_
    refine xr_iadd C dL_law_1181 ?_
    refine xr_sldv C (hG.old C).1 (by omega) (by omega) (by omega) (by exact ey) dL_law_1182 ?_
    refine xr_callV2i C (m_build l G sb 4 sx hG hA Mb hb 0 M9 hD9 (by rw [hg9]; exact nofun) x hxr y hyr) (cwV 2 C.1.2.2.2.2 gL_law_X12_build rfl rfl rfl (by decide +kernel) ⟨Nat.le_of_ble_eq_true rfl, Nat.le_of_ble_eq_true rfl⟩) hD9.1 rfl (Nat.le_of_ble_eq_true rfl) ⟨by dsimp only; omega, by dsimp only; omega⟩ dL_law_1183 (fun r8 M8 hp8 => ?_)
    obtain ⟨hr8, hQ8⟩ := hp8
    rw [if_neg hv] at hr8 hQ8
    obtain ⟨⟨vs8, hT8⟩, h39⟩ := hQ8
    refine xr_istore C dL_law_1186 (by decide) rfl ?_
    refine xr_aload_n C dL_law_1188 rfl ?_
    refine xr_callV0i C (m_thrown l G M8 (Mb 0) 1 vs8 hT8) (cwV 0 C.1.2.2.2.2 gL_law_X12_thrown rfl rfl rfl (by decide +kernel) ⟨Nat.le_of_ble_eq_true rfl, Nat.le_of_ble_eq_true rfl⟩) hT8 rfl (Nat.le_of_ble_eq_true rfl) ⟨by dsimp only; omega, by dsimp only; omega⟩ dL_law_1189 (fun t8 M7 hp7 => ?_)
    obtain ⟨rfl, rfl⟩ := hp7
    refine xr_iload C dL_law_1192 rfl ?_
    refine xr_icmp_eq C dL_law_1194 rfl (by decide) (by decide) (fun _ => ?_) (fun hq => absurd hq (by omega))
    refine xr_iload C dL_law_1199 rfl ?_
    refine xr_if_ne C dL_law_1201 rfl (by decide) (fun _ => ?_) (fun hq => absurd hq (by decide))
    refine xr_goto C dL_law_1216 rfl ?_
    refine mq_drop 5 ?_
    refine mq_drop 6 ?_
    exact kk _ _ _ (by omega) (by omega)
set_option maxHeartbeats 4000000 in
set_option maxRecDepth 100000 in
theorem lb_18 {p : Program} {e : Env} {s : State} {m : MethodId} {args : Array Value} {below : List Frame} {meth : Method} {c : Code} {Q : State → Prop} {z : Nat} (l : Launch) (hlt : l.stackTraces = false) (G : mq_G) (sb sn : Nat) (sx : Nat → Int32) (hG : pG G sb sn sx) (hA : pA G) (hn : sn = 4) (La : Nat → Nat) (hI : mq_inj La) (Mb : Nat → Nat) (hb : mb_inj Mb) (hLM : ∀ r, r < 275 → ∀ i, mbU i = true → Mb i ≠ La r) (M : mq_M) (hV : vF G M La) (hD : mdI G M Mb 0) (hO : lwO G M (Mb 39) none)
    (C : mq_C p m c cL_law 9 s args wsL_law RL G.1.1 (mq_tys G) z) (cells slots : Nat) (hc : cells ≤ 1000) (hs : slots ≤ 1000000)
    (kk : ∀ (M2 : mq_M) (cells2 slots2 : Nat), cells2 ≤ 2000 → slots2 ≤ 2000000 → mq_X p l e { frames := 12, cells := 600002, slots := 7302232, locals := 436 } s m args below meth c Q 9 G.1.1 z s.heap cells2 slots2 M2 2554 [some (.ref sb), some (.ref (La 0)), some (.ref (Mb 0)), some (.ref (Mb 39)), some (.int (zI 0)), none, none, none, none] []) : mq_X p l e { frames := 12, cells := 600002, slots := 7302232, locals := 436 } s m args below meth c Q 9 G.1.1 z s.heap cells slots M 1219 [some (.ref sb), some (.ref (La 0)), some (.ref (Mb 0)), some (.ref (Mb 39)), some (.int (zI 0)), none, none, none, none] [] := by
  subst hn
  obtain ⟨i, ei, hir⟩ := zI_of (sx 1)
  by_cases hv : 0 ≤ i ∧ i ≤ 15
  · refine xr_aload_n C dL_law_1219 rfl ?_
    refine xr_aload_n C dL_law_1220 rfl ?_
    refine xr_iload C dL_law_1221 rfl ?_
    refine xr_iconst (n := 1) C dL_law_1223 (by decide +kernel) ?_
    refine xr_iadd C dL_law_1224 ?_
    refine xr_sldv C (hG.old C).1 (by omega) (by omega) (by omega) (by exact ei) dL_law_1225 ?_
    refine xr_aload_n C dL_law_1226 rfl ?_
    refine xr_callXH3i C (h_sizeOf l hlt G sb 4 sx hG hA La hI M hV (Mb 39) (fun r9 hr9 => hLM r9 hr9 39 (by decide)) hO i hir) (vx_cwSW 3 C.1.2.2.2.2 gL_law_L_sizeOf rfl rfl rfl (by decide +kernel) ⟨Nat.le_of_ble_eq_true rfl, Nat.le_of_ble_eq_true rfl⟩) (Nat.le_of_ble_eq_true rfl) ⟨by dsimp only; omega, by dsimp only; omega⟩ dL_law_1227 (fun _ _ h9 => h9.elim) (fun k9 M9 hp9 => ?_)
    obtain ⟨hk9, hO9, hF9⟩ := hp9
    rw [if_pos hv] at hk9 hO9
    subst hk9
    obtain ⟨g9, hg9, hv9⟩ := hO9
    have hD9 : mdI G M9 Mb 0 := (hD.frU (fun i9 hi9 h9 => hF9 (Mb i9) (fun h8 => absurd (hb _ _ hi9 (by decide) h8) h9) (fun r9 hr9 => hLM r9 hr9 i9 hi9)))
    refine xr_istore C dL_law_1230 (by decide) rfl ?_
    refine xr_aload_n C dL_law_1232 rfl ?_
    refine xr_aload_n C dL_law_1233 rfl ?_
    refine xr_iload C dL_law_1234 rfl ?_
    refine xr_iconst (n := 1) C dL_law_1236 (by decide +kernel) ?_
    refine xr_iadd C dL_law_1237 ?_
    refine xr_sldv C (hG.old C).1 (by omega) (by omega) (by omega) (by exact ei) dL_law_1238 ?_
    refine xr_callV1i C (m_sizeOf l G Mb hb 0 M9 hD9 i hir) (cwV 1 C.1.2.2.2.2 gL_law_X12_sizeOf rfl rfl rfl (by decide +kernel) ⟨Nat.le_of_ble_eq_true rfl, Nat.le_of_ble_eq_true rfl⟩) hD9.1 rfl (Nat.le_of_ble_eq_true rfl) ⟨by dsimp only; omega, by dsimp only; omega⟩ dL_law_1239 (fun r8 M8 hp8 => ?_)
    obtain ⟨hr8, hQ8⟩ := hp8
    rw [if_pos hv] at hr8 hQ8
    obtain ⟨⟨vs8, hT8⟩, h39⟩ := hQ8
    have e8 := hr8 rfl
    subst e8
    refine xr_istore C dL_law_1242 (by decide) rfl ?_
    refine xr_aload_n C dL_law_1244 rfl ?_
    refine xr_callV0i C (m_thrown l G M8 (Mb 0) 0 vs8 hT8) (cwV 0 C.1.2.2.2.2 gL_law_X12_thrown rfl rfl rfl (by decide +kernel) ⟨Nat.le_of_ble_eq_true rfl, Nat.le_of_ble_eq_true rfl⟩) hT8 rfl (Nat.le_of_ble_eq_true rfl) ⟨by dsimp only; omega, by dsimp only; omega⟩ dL_law_1245 (fun t8 M7 hp7 => ?_)
    obtain ⟨rfl, rfl⟩ := hp7
    refine xr_iload C dL_law_1248 rfl ?_
    refine xr_icmp_eq C dL_law_1250 rfl (by decide) (by decide) (fun _ => ?_) (fun hq => absurd hq (by omega))
    refine xr_iload C dL_law_1255 rfl ?_
    refine xr_if_ne C dL_law_1257 rfl (by decide) (fun hq => absurd hq (by decide)) (fun _ => ?_)
    refine xr_aload_n C dL_law_1260 rfl ?_
    refine xr_iconst (n := 0) C dL_law_1261 (by decide +kernel) ?_
    have hg8 : M8 (Mb 39) = some (.inl (gJ G, 1, .inr (.inl g9))) := h39.trans hg9
    refine xr_lald C hg8 hA.J (by decide) (by decide) (by decide) dL_law_1262 ?_
    refine xr_iload C dL_law_1263 rfl ?_
    refine xr_i2l C dL_law_1265 ?_
    refine xr_lcmp (w := 0) C dL_law_1266 (by rw [show g9 (0 : Int).toNat = _ from hv9 _ rfl]; exact lg_cmp_rf _) ?_
    refine xr_if_eq C dL_law_1267 rfl (by decide) (fun _ => ?_) (fun hq => absurd hq (by decide))
    refine xr_goto C dL_law_1272 rfl ?_
    refine mq_drop 5 ?_
    refine mq_drop 6 ?_
    exact kk _ _ _ (by omega) (by omega)
  · refine xr_aload_n C dL_law_1219 rfl ?_
    refine xr_aload_n C dL_law_1220 rfl ?_
    refine xr_iload C dL_law_1221 rfl ?_
    refine xr_iconst (n := 1) C dL_law_1223 (by decide +kernel) ?_
    refine xr_iadd C dL_law_1224 ?_
    refine xr_sldv C (hG.old C).1 (by omega) (by omega) (by omega) (by exact ei) dL_law_1225 ?_
    refine xr_aload_n C dL_law_1226 rfl ?_
    refine xr_callXH3i C (h_sizeOf l hlt G sb 4 sx hG hA La hI M hV (Mb 39) (fun r9 hr9 => hLM r9 hr9 39 (by decide)) hO i hir) (vx_cwSW 3 C.1.2.2.2.2 gL_law_L_sizeOf rfl rfl rfl (by decide +kernel) ⟨Nat.le_of_ble_eq_true rfl, Nat.le_of_ble_eq_true rfl⟩) (Nat.le_of_ble_eq_true rfl) ⟨by dsimp only; omega, by dsimp only; omega⟩ dL_law_1227 (fun _ _ h9 => h9.elim) (fun k9 M9 hp9 => ?_)
    obtain ⟨hk9, hO9, hF9⟩ := hp9
    rw [if_neg hv] at hk9 hO9
    subst hk9
    obtain ⟨g9, hg9, hv9⟩ := hO9
    have hD9 : mdI G M9 Mb 0 := (hD.frU (fun i9 hi9 h9 => hF9 (Mb i9) (fun h8 => absurd (hb _ _ hi9 (by decide) h8) h9) (fun r9 hr9 => hLM r9 hr9 i9 hi9)))
    refine xr_istore C dL_law_1230 (by decide) rfl ?_
    refine xr_aload_n C dL_law_1232 rfl ?_
    refine xr_aload_n C dL_law_1233 rfl ?_
    refine xr_iload C dL_law_1234 rfl ?_
    refine xr_iconst (n := 1) C dL_law_1236 (by decide +kernel) ?_
    refine xr_iadd C dL_law_1237 ?_
    refine xr_sldv C (hG.old C).1 (by omega) (by omega) (by omega) (by exact ei) dL_law_1238 ?_
    refine xr_callV1i C (m_sizeOf l G Mb hb 0 M9 hD9 i hir) (cwV 1 C.1.2.2.2.2 gL_law_X12_sizeOf rfl rfl rfl (by decide +kernel) ⟨Nat.le_of_ble_eq_true rfl, Nat.le_of_ble_eq_true rfl⟩) hD9.1 rfl (Nat.le_of_ble_eq_true rfl) ⟨by dsimp only; omega, by dsimp only; omega⟩ dL_law_1239 (fun r8 M8 hp8 => ?_)
    obtain ⟨hr8, hQ8⟩ := hp8
    rw [if_neg hv] at hr8 hQ8
    obtain ⟨⟨vs8, hT8⟩, h39⟩ := hQ8
    refine xr_istore C dL_law_1242 (by decide) rfl ?_
    refine xr_aload_n C dL_law_1244 rfl ?_
    refine xr_callV0i C (m_thrown l G M8 (Mb 0) 1 vs8 hT8) (cwV 0 C.1.2.2.2.2 gL_law_X12_thrown rfl rfl rfl (by decide +kernel) ⟨Nat.le_of_ble_eq_true rfl, Nat.le_of_ble_eq_true rfl⟩) hT8 rfl (Nat.le_of_ble_eq_true rfl) ⟨by dsimp only; omega, by dsimp only; omega⟩ dL_law_1245 (fun t8 M7 hp7 => ?_)
    obtain ⟨rfl, rfl⟩ := hp7
    refine xr_iload C dL_law_1248 rfl ?_
    refine xr_icmp_eq C dL_law_1250 rfl (by decide) (by decide) (fun _ => ?_) (fun hq => absurd hq (by omega))
    refine xr_iload C dL_law_1255 rfl ?_
    refine xr_if_ne C dL_law_1257 rfl (by decide) (fun _ => ?_) (fun hq => absurd hq (by decide))
    refine xr_goto C dL_law_1272 rfl ?_
    refine mq_drop 5 ?_
    refine mq_drop 6 ?_
    exact kk _ _ _ (by omega) (by omega)
set_option maxHeartbeats 4000000 in
set_option maxRecDepth 100000 in
theorem lb_19 {p : Program} {e : Env} {s : State} {m : MethodId} {args : Array Value} {below : List Frame} {meth : Method} {c : Code} {Q : State → Prop} {z : Nat} (l : Launch) (hlt : l.stackTraces = false) (G : mq_G) (sb sn : Nat) (sx : Nat → Int32) (hG : pG G sb sn sx) (hA : pA G) (hn : sn = 4) (La : Nat → Nat) (hI : mq_inj La) (Mb : Nat → Nat) (hb : mb_inj Mb) (hLM : ∀ r, r < 275 → ∀ i, mbU i = true → Mb i ≠ La r) (M : mq_M) (hV : vF G M La) (hD : mdI G M Mb 0) (hO : lwO G M (Mb 39) none)
    (C : mq_C p m c cL_law 9 s args wsL_law RL G.1.1 (mq_tys G) z) (cells slots : Nat) (hc : cells ≤ 1000) (hs : slots ≤ 1000000)
    (kk : ∀ (M2 : mq_M) (cells2 slots2 : Nat), cells2 ≤ 2000 → slots2 ≤ 2000000 → mq_X p l e { frames := 12, cells := 600002, slots := 7302232, locals := 436 } s m args below meth c Q 9 G.1.1 z s.heap cells2 slots2 M2 2554 [some (.ref sb), some (.ref (La 0)), some (.ref (Mb 0)), some (.ref (Mb 39)), some (.int (zI 0)), none, none, none, none] []) : mq_X p l e { frames := 12, cells := 600002, slots := 7302232, locals := 436 } s m args below meth c Q 9 G.1.1 z s.heap cells slots M 1275 [some (.ref sb), some (.ref (La 0)), some (.ref (Mb 0)), some (.ref (Mb 39)), some (.int (zI 0)), none, none, none, none] [] := by
  subst hn
  obtain ⟨i, ei, hir⟩ := zI_of (sx 1)
  obtain ⟨q, eq, hqr⟩ := zI_of (sx 2)
  refine xr_aload_n C dL_law_1275 rfl ?_
  refine xr_aload_n C dL_law_1276 rfl ?_
  refine xr_iload C dL_law_1277 rfl ?_
  refine xr_iconst (n := 1) C dL_law_1279 (by decide +kernel) ?_
  refine xr_iadd C dL_law_1280 ?_
  refine xr_sldv C (hG.old C).1 (by omega) (by omega) (by omega) (by exact ei) dL_law_1281 ?_
  refine xr_aload_n C dL_law_1282 rfl ?_
  refine xr_iload C dL_law_1283 rfl ?_
  refine xr_iconst (n := 2) C dL_law_1285 (by decide +kernel) ?_
  refine xr_iadd C dL_law_1286 ?_
  refine xr_sldv C (hG.old C).1 (by omega) (by omega) (by omega) (by exact eq) dL_law_1287 ?_
  refine xr_aload_n C dL_law_1288 rfl ?_
  refine xr_callXH4i C (h_byteAt l hlt G sb 4 sx hG hA La hI M hV (Mb 39) (fun r9 hr9 => hLM r9 hr9 39 (by decide)) hO i hir q hqr) (vx_cwSW 4 C.1.2.2.2.2 gL_law_L_byteAt rfl rfl rfl (by decide +kernel) ⟨Nat.le_of_ble_eq_true rfl, Nat.le_of_ble_eq_true rfl⟩) (Nat.le_of_ble_eq_true rfl) ⟨by dsimp only; omega, by dsimp only; omega⟩ dL_law_1289 (fun _ _ h9 => h9.elim) (fun k9 M9 hp9 => ?_)
  obtain ⟨rfl, hO9, hF9⟩ := hp9
  obtain ⟨g9, hg9, hv9⟩ := hO9
  have hD9 : mdI G M9 Mb 0 := (hD.frU (fun i9 hi9 h9 => hF9 (Mb i9) (fun h8 => absurd (hb _ _ hi9 (by decide) h8) h9) (fun r9 hr9 => hLM r9 hr9 i9 hi9)))
  refine xr_istore C dL_law_1292 (by decide) rfl ?_
  refine xr_aload_n C dL_law_1294 rfl ?_
  refine xr_aload_n C dL_law_1295 rfl ?_
  refine xr_iload C dL_law_1296 rfl ?_
  refine xr_iconst (n := 1) C dL_law_1298 (by decide +kernel) ?_
  refine xr_iadd C dL_law_1299 ?_
  refine xr_sldv C (hG.old C).1 (by omega) (by omega) (by omega) (by exact ei) dL_law_1300 ?_
  refine xr_aload_n C dL_law_1301 rfl ?_
  refine xr_iload C dL_law_1302 rfl ?_
  refine xr_iconst (n := 2) C dL_law_1304 (by decide +kernel) ?_
  refine xr_iadd C dL_law_1305 ?_
  refine xr_sldv C (hG.old C).1 (by omega) (by omega) (by omega) (by exact eq) dL_law_1306 ?_
  refine xr_callV2i C (m_byteAt l G Mb hb 0 M9 hD9 i hir q hqr) (cwV 2 C.1.2.2.2.2 gL_law_X12_byteAt rfl rfl rfl (by decide +kernel) ⟨Nat.le_of_ble_eq_true rfl, Nat.le_of_ble_eq_true rfl⟩) hD9.1 rfl (Nat.le_of_ble_eq_true rfl) ⟨by dsimp only; omega, by dsimp only; omega⟩ dL_law_1307 (fun r8 M8 hp8 => ?_)
  obtain ⟨hr8, hQ8⟩ := hp8
  obtain ⟨⟨vs8, hT8⟩, h39⟩ := hQ8
  refine xr_istore C dL_law_1310 (by decide) rfl ?_
  refine xr_aload_n C dL_law_1312 rfl ?_
  refine xr_callV0i C (m_thrown l G M8 (Mb 0) 1 vs8 hT8) (cwV 0 C.1.2.2.2.2 gL_law_X12_thrown rfl rfl rfl (by decide +kernel) ⟨Nat.le_of_ble_eq_true rfl, Nat.le_of_ble_eq_true rfl⟩) hT8 rfl (Nat.le_of_ble_eq_true rfl) ⟨by dsimp only; omega, by dsimp only; omega⟩ dL_law_1313 (fun t8 M7 hp7 => ?_)
  obtain ⟨rfl, rfl⟩ := hp7
  refine xr_iload C dL_law_1316 rfl ?_
  refine xr_icmp_eq C dL_law_1318 rfl (by decide) (by decide) (fun _ => ?_) (fun hq => absurd hq (by omega))
  refine xr_iload C dL_law_1323 rfl ?_
  refine xr_if_ne C dL_law_1325 rfl (by decide) (fun _ => ?_) (fun hq => absurd hq (by decide))
  refine xr_goto C dL_law_1340 rfl ?_
  refine mq_drop 5 ?_
  refine mq_drop 6 ?_
  exact kk _ _ _ (by omega) (by omega)
set_option maxHeartbeats 4000000 in
set_option maxRecDepth 100000 in
theorem lb_20 {p : Program} {e : Env} {s : State} {m : MethodId} {args : Array Value} {below : List Frame} {meth : Method} {c : Code} {Q : State → Prop} {z : Nat} (l : Launch) (hlt : l.stackTraces = false) (G : mq_G) (sb sn : Nat) (sx : Nat → Int32) (hG : pG G sb sn sx) (hA : pA G) (hn : sn = 4) (La : Nat → Nat) (hI : mq_inj La) (Mb : Nat → Nat) (hb : mb_inj Mb) (hLM : ∀ r, r < 275 → ∀ i, mbU i = true → Mb i ≠ La r) (M : mq_M) (hV : vF G M La) (hD : mdI G M Mb 0) (hO : lwO G M (Mb 39) none)
    (C : mq_C p m c cL_law 9 s args wsL_law RL G.1.1 (mq_tys G) z) (cells slots : Nat) (hc : cells ≤ 1000) (hs : slots ≤ 1000000)
    (kk : ∀ (M2 : mq_M) (cells2 slots2 : Nat), cells2 ≤ 2000 → slots2 ≤ 2000000 → mq_X p l e { frames := 12, cells := 600002, slots := 7302232, locals := 436 } s m args below meth c Q 9 G.1.1 z s.heap cells2 slots2 M2 2554 [some (.ref sb), some (.ref (La 0)), some (.ref (Mb 0)), some (.ref (Mb 39)), some (.int (zI 0)), none, none, none, none] []) : mq_X p l e { frames := 12, cells := 600002, slots := 7302232, locals := 436 } s m args below meth c Q 9 G.1.1 z s.heap cells slots M 1343 [some (.ref sb), some (.ref (La 0)), some (.ref (Mb 0)), some (.ref (Mb 39)), some (.int (zI 0)), none, none, none, none] [] := by
  subst hn
  obtain ⟨i, ei, hir⟩ := zI_of (sx 1)
  obtain ⟨q, eq, hqr⟩ := zI_of (sx 2)
  obtain ⟨b, eb, hbr⟩ := zI_of (sx 3)
  refine xr_aload_n C dL_law_1343 rfl ?_
  refine xr_aload_n C dL_law_1344 rfl ?_
  refine xr_iload C dL_law_1345 rfl ?_
  refine xr_iconst (n := 1) C dL_law_1347 (by decide +kernel) ?_
  refine xr_iadd C dL_law_1348 ?_
  refine xr_sldv C (hG.old C).1 (by omega) (by omega) (by omega) (by exact ei) dL_law_1349 ?_
  refine xr_aload_n C dL_law_1350 rfl ?_
  refine xr_iload C dL_law_1351 rfl ?_
  refine xr_iconst (n := 2) C dL_law_1353 (by decide +kernel) ?_
  refine xr_iadd C dL_law_1354 ?_
  refine xr_sldv C (hG.old C).1 (by omega) (by omega) (by omega) (by exact eq) dL_law_1355 ?_
  refine xr_aload_n C dL_law_1356 rfl ?_
  refine xr_iload C dL_law_1357 rfl ?_
  refine xr_iconst (n := 3) C dL_law_1359 (by decide +kernel) ?_
  refine xr_iadd C dL_law_1360 ?_
  refine xr_sldv C (hG.old C).1 (by omega) (by omega) (by omega) (by exact eb) dL_law_1361 ?_
  refine xr_aload_n C dL_law_1362 rfl ?_
  refine xr_callXH5i C (h_spoil l hlt G sb 4 sx hG hA La hI M hV (Mb 39) (fun r9 hr9 => hLM r9 hr9 39 (by decide)) hO i hir q hqr b hbr) (vx_cwSW 5 C.1.2.2.2.2 gL_law_L_spoil rfl rfl rfl (by decide +kernel) ⟨Nat.le_of_ble_eq_true rfl, Nat.le_of_ble_eq_true rfl⟩) (Nat.le_of_ble_eq_true rfl) ⟨by dsimp only; omega, by dsimp only; omega⟩ dL_law_1363 (fun _ _ h9 => h9.elim) (fun k9 M9 hp9 => ?_)
  obtain ⟨rfl, hO9, hF9⟩ := hp9
  obtain ⟨g9, hg9, hv9⟩ := hO9
  have hD9 : mdI G M9 Mb 0 := (hD.frU (fun i9 hi9 h9 => hF9 (Mb i9) (fun h8 => absurd (hb _ _ hi9 (by decide) h8) h9) (fun r9 hr9 => hLM r9 hr9 i9 hi9)))
  refine xr_istore C dL_law_1366 (by decide) rfl ?_
  refine xr_aload_n C dL_law_1368 rfl ?_
  refine xr_aload_n C dL_law_1369 rfl ?_
  refine xr_iload C dL_law_1370 rfl ?_
  refine xr_iconst (n := 1) C dL_law_1372 (by decide +kernel) ?_
  refine xr_iadd C dL_law_1373 ?_
  refine xr_sldv C (hG.old C).1 (by omega) (by omega) (by omega) (by exact ei) dL_law_1374 ?_
  refine xr_aload_n C dL_law_1375 rfl ?_
  refine xr_iload C dL_law_1376 rfl ?_
  refine xr_iconst (n := 2) C dL_law_1378 (by decide +kernel) ?_
  refine xr_iadd C dL_law_1379 ?_
  refine xr_sldv C (hG.old C).1 (by omega) (by omega) (by omega) (by exact eq) dL_law_1380 ?_
  refine xr_aload_n C dL_law_1381 rfl ?_
  refine xr_iload C dL_law_1382 rfl ?_
  refine xr_iconst (n := 3) C dL_law_1384 (by decide +kernel) ?_
  refine xr_iadd C dL_law_1385 ?_
  refine xr_sldv C (hG.old C).1 (by omega) (by omega) (by omega) (by exact eb) dL_law_1386 ?_
  refine xr_callV3i C (m_spoil l G Mb hb 0 M9 hD9 i hir q hqr b hbr) (cwV 3 C.1.2.2.2.2 gL_law_X12_spoil rfl rfl rfl (by decide +kernel) ⟨Nat.le_of_ble_eq_true rfl, Nat.le_of_ble_eq_true rfl⟩) hD9.1 rfl (Nat.le_of_ble_eq_true rfl) ⟨by dsimp only; omega, by dsimp only; omega⟩ dL_law_1387 (fun r8 M8 hp8 => ?_)
  obtain ⟨hr8, hQ8⟩ := hp8
  obtain ⟨⟨vs8, hT8⟩, h39⟩ := hQ8
  refine xr_istore C dL_law_1390 (by decide) rfl ?_
  refine xr_aload_n C dL_law_1392 rfl ?_
  refine xr_callV0i C (m_thrown l G M8 (Mb 0) 1 vs8 hT8) (cwV 0 C.1.2.2.2.2 gL_law_X12_thrown rfl rfl rfl (by decide +kernel) ⟨Nat.le_of_ble_eq_true rfl, Nat.le_of_ble_eq_true rfl⟩) hT8 rfl (Nat.le_of_ble_eq_true rfl) ⟨by dsimp only; omega, by dsimp only; omega⟩ dL_law_1393 (fun t8 M7 hp7 => ?_)
  obtain ⟨rfl, rfl⟩ := hp7
  refine xr_iload C dL_law_1396 rfl ?_
  refine xr_icmp_eq C dL_law_1398 rfl (by decide) (by decide) (fun _ => ?_) (fun hq => absurd hq (by omega))
  refine xr_iload C dL_law_1403 rfl ?_
  refine xr_if_ne C dL_law_1405 rfl (by decide) (fun _ => ?_) (fun hq => absurd hq (by decide))
  refine xr_goto C dL_law_1420 rfl ?_
  refine mq_drop 5 ?_
  refine mq_drop 6 ?_
  exact kk _ _ _ (by omega) (by omega)
set_option maxHeartbeats 4000000 in
set_option maxRecDepth 100000 in
theorem lb_21 {p : Program} {e : Env} {s : State} {m : MethodId} {args : Array Value} {below : List Frame} {meth : Method} {c : Code} {Q : State → Prop} {z : Nat} (l : Launch) (hlt : l.stackTraces = false) (G : mq_G) (sb sn : Nat) (sx : Nat → Int32) (hG : pG G sb sn sx) (hA : pA G) (hn : sn = 4) (La : Nat → Nat) (hI : mq_inj La) (Mb : Nat → Nat) (hb : mb_inj Mb) (hLM : ∀ r, r < 275 → ∀ i, mbU i = true → Mb i ≠ La r) (M : mq_M) (hV : vF G M La) (hD : mdI G M Mb 0) (hO : lwO G M (Mb 39) none)
    (C : mq_C p m c cL_law 9 s args wsL_law RL G.1.1 (mq_tys G) z) (cells slots : Nat) (hc : cells ≤ 1000) (hs : slots ≤ 1000000)
    (kk : ∀ (M2 : mq_M) (cells2 slots2 : Nat), cells2 ≤ 2000 → slots2 ≤ 2000000 → mq_X p l e { frames := 12, cells := 600002, slots := 7302232, locals := 436 } s m args below meth c Q 9 G.1.1 z s.heap cells2 slots2 M2 2554 [some (.ref sb), some (.ref (La 0)), some (.ref (Mb 0)), some (.ref (Mb 39)), some (.int (zI 0)), none, none, none, none] []) : mq_X p l e { frames := 12, cells := 600002, slots := 7302232, locals := 436 } s m args below meth c Q 9 G.1.1 z s.heap cells slots M 1423 [some (.ref sb), some (.ref (La 0)), some (.ref (Mb 0)), some (.ref (Mb 39)), some (.int (zI 0)), none, none, none, none] [] := by
  subst hn
  obtain ⟨i, ei, hir⟩ := zI_of (sx 1)
  refine xr_aload_n C dL_law_1423 rfl ?_
  refine xr_aload_n C dL_law_1424 rfl ?_
  refine xr_iload C dL_law_1425 rfl ?_
  refine xr_iconst (n := 1) C dL_law_1427 (by decide +kernel) ?_
  refine xr_iadd C dL_law_1428 ?_
  refine xr_sldv C (hG.old C).1 (by omega) (by omega) (by omega) (by exact ei) dL_law_1429 ?_
  refine xr_aload_n C dL_law_1430 rfl ?_
  refine xr_callXH3i C (h_sign l hlt G sb 4 sx hG hA La hI M hV (Mb 39) (fun r9 hr9 => hLM r9 hr9 39 (by decide)) hO i hir) (vx_cwSW 3 C.1.2.2.2.2 gL_law_L_sign rfl rfl rfl (by decide +kernel) ⟨Nat.le_of_ble_eq_true rfl, Nat.le_of_ble_eq_true rfl⟩) (Nat.le_of_ble_eq_true rfl) ⟨by dsimp only; omega, by dsimp only; omega⟩ dL_law_1431 (fun _ _ h9 => h9.elim) (fun k9 M9 hp9 => ?_)
  obtain ⟨rfl, hO9, hF9⟩ := hp9
  obtain ⟨g9, hg9, hv9⟩ := hO9
  have hD9 : mdI G M9 Mb 0 := (hD.frU (fun i9 hi9 h9 => hF9 (Mb i9) (fun h8 => absurd (hb _ _ hi9 (by decide) h8) h9) (fun r9 hr9 => hLM r9 hr9 i9 hi9)))
  refine xr_istore C dL_law_1434 (by decide) rfl ?_
  refine xr_aload_n C dL_law_1436 rfl ?_
  refine xr_aload_n C dL_law_1437 rfl ?_
  refine xr_iload C dL_law_1438 rfl ?_
  refine xr_iconst (n := 1) C dL_law_1440 (by decide +kernel) ?_
  refine xr_iadd C dL_law_1441 ?_
  refine xr_sldv C (hG.old C).1 (by omega) (by omega) (by omega) (by exact ei) dL_law_1442 ?_
  refine xr_callV1i C (m_sign l G Mb hb 0 M9 hD9 i hir) (cwV 1 C.1.2.2.2.2 gL_law_X12_sign rfl rfl rfl (by decide +kernel) ⟨Nat.le_of_ble_eq_true rfl, Nat.le_of_ble_eq_true rfl⟩) hD9.1 rfl (Nat.le_of_ble_eq_true rfl) ⟨by dsimp only; omega, by dsimp only; omega⟩ dL_law_1443 (fun r8 M8 hp8 => ?_)
  obtain ⟨hr8, hQ8⟩ := hp8
  obtain ⟨⟨vs8, hT8⟩, h39⟩ := hQ8
  refine xr_istore C dL_law_1446 (by decide) rfl ?_
  refine xr_aload_n C dL_law_1448 rfl ?_
  refine xr_callV0i C (m_thrown l G M8 (Mb 0) 1 vs8 hT8) (cwV 0 C.1.2.2.2.2 gL_law_X12_thrown rfl rfl rfl (by decide +kernel) ⟨Nat.le_of_ble_eq_true rfl, Nat.le_of_ble_eq_true rfl⟩) hT8 rfl (Nat.le_of_ble_eq_true rfl) ⟨by dsimp only; omega, by dsimp only; omega⟩ dL_law_1449 (fun t8 M7 hp7 => ?_)
  obtain ⟨rfl, rfl⟩ := hp7
  refine xr_iload C dL_law_1452 rfl ?_
  refine xr_icmp_eq C dL_law_1454 rfl (by decide) (by decide) (fun _ => ?_) (fun hq => absurd hq (by omega))
  refine xr_iload C dL_law_1459 rfl ?_
  refine xr_if_ne C dL_law_1461 rfl (by decide) (fun _ => ?_) (fun hq => absurd hq (by decide))
  refine xr_goto C dL_law_1476 rfl ?_
  refine mq_drop 5 ?_
  refine mq_drop 6 ?_
  exact kk _ _ _ (by omega) (by omega)
set_option maxHeartbeats 4000000 in
set_option maxRecDepth 100000 in
theorem lb_22 {p : Program} {e : Env} {s : State} {m : MethodId} {args : Array Value} {below : List Frame} {meth : Method} {c : Code} {Q : State → Prop} {z : Nat} (l : Launch) (hlt : l.stackTraces = false) (G : mq_G) (sb sn : Nat) (sx : Nat → Int32) (hG : pG G sb sn sx) (hA : pA G) (hn : sn = 4) (La : Nat → Nat) (hI : mq_inj La) (Mb : Nat → Nat) (hb : mb_inj Mb) (hLM : ∀ r, r < 275 → ∀ i, mbU i = true → Mb i ≠ La r) (M : mq_M) (hV : vF G M La) (hD : mdI G M Mb 0) (hO : lwO G M (Mb 39) none)
    (C : mq_C p m c cL_law 9 s args wsL_law RL G.1.1 (mq_tys G) z) (cells slots : Nat) (hc : cells ≤ 1000) (hs : slots ≤ 1000000)
    (kk : ∀ (M2 : mq_M) (cells2 slots2 : Nat), cells2 ≤ 2000 → slots2 ≤ 2000000 → mq_X p l e { frames := 12, cells := 600002, slots := 7302232, locals := 436 } s m args below meth c Q 9 G.1.1 z s.heap cells2 slots2 M2 2554 [some (.ref sb), some (.ref (La 0)), some (.ref (Mb 0)), some (.ref (Mb 39)), some (.int (zI 0)), none, none, none, none] []) : mq_X p l e { frames := 12, cells := 600002, slots := 7302232, locals := 436 } s m args below meth c Q 9 G.1.1 z s.heap cells slots M 1479 [some (.ref sb), some (.ref (La 0)), some (.ref (Mb 0)), some (.ref (Mb 39)), some (.int (zI 0)), none, none, none, none] [] := by
  subst hn
  obtain ⟨i, ei, hir⟩ := zI_of (sx 1)
  obtain ⟨q, eq, hqr⟩ := zI_of (sx 2)
  refine xr_aload_n C dL_law_1479 rfl ?_
  refine xr_aload_n C dL_law_1480 rfl ?_
  refine xr_iload C dL_law_1481 rfl ?_
  refine xr_iconst (n := 1) C dL_law_1483 (by decide +kernel) ?_
  refine xr_iadd C dL_law_1484 ?_
  refine xr_sldv C (hG.old C).1 (by omega) (by omega) (by omega) (by exact ei) dL_law_1485 ?_
  refine xr_aload_n C dL_law_1486 rfl ?_
  refine xr_iload C dL_law_1487 rfl ?_
  refine xr_iconst (n := 2) C dL_law_1489 (by decide +kernel) ?_
  refine xr_iadd C dL_law_1490 ?_
  refine xr_sldv C (hG.old C).1 (by omega) (by omega) (by omega) (by exact eq) dL_law_1491 ?_
  refine xr_aload_n C dL_law_1492 rfl ?_
  refine xr_callXH4i C (h_cut l hlt G sb 4 sx hG hA La hI M hV (Mb 39) (fun r9 hr9 => hLM r9 hr9 39 (by decide)) hO i hir q hqr) (vx_cwSW 4 C.1.2.2.2.2 gL_law_L_cut rfl rfl rfl (by decide +kernel) ⟨Nat.le_of_ble_eq_true rfl, Nat.le_of_ble_eq_true rfl⟩) (Nat.le_of_ble_eq_true rfl) ⟨by dsimp only; omega, by dsimp only; omega⟩ dL_law_1493 (fun _ _ h9 => h9.elim) (fun k9 M9 hp9 => ?_)
  obtain ⟨rfl, hO9, hF9⟩ := hp9
  obtain ⟨g9, hg9, hv9⟩ := hO9
  have hD9 : mdI G M9 Mb 0 := (hD.frU (fun i9 hi9 h9 => hF9 (Mb i9) (fun h8 => absurd (hb _ _ hi9 (by decide) h8) h9) (fun r9 hr9 => hLM r9 hr9 i9 hi9)))
  refine xr_istore C dL_law_1496 (by decide) rfl ?_
  refine xr_aload_n C dL_law_1498 rfl ?_
  refine xr_aload_n C dL_law_1499 rfl ?_
  refine xr_iload C dL_law_1500 rfl ?_
  refine xr_iconst (n := 1) C dL_law_1502 (by decide +kernel) ?_
  refine xr_iadd C dL_law_1503 ?_
  refine xr_sldv C (hG.old C).1 (by omega) (by omega) (by omega) (by exact ei) dL_law_1504 ?_
  refine xr_aload_n C dL_law_1505 rfl ?_
  refine xr_iload C dL_law_1506 rfl ?_
  refine xr_iconst (n := 2) C dL_law_1508 (by decide +kernel) ?_
  refine xr_iadd C dL_law_1509 ?_
  refine xr_sldv C (hG.old C).1 (by omega) (by omega) (by omega) (by exact eq) dL_law_1510 ?_
  refine xr_callV2i C (m_cut l G Mb hb 0 M9 hD9 i hir q hqr) (cwV 2 C.1.2.2.2.2 gL_law_X12_cut rfl rfl rfl (by decide +kernel) ⟨Nat.le_of_ble_eq_true rfl, Nat.le_of_ble_eq_true rfl⟩) hD9.1 rfl (Nat.le_of_ble_eq_true rfl) ⟨by dsimp only; omega, by dsimp only; omega⟩ dL_law_1511 (fun r8 M8 hp8 => ?_)
  obtain ⟨hr8, hQ8⟩ := hp8
  obtain ⟨⟨vs8, hT8⟩, h39⟩ := hQ8
  refine xr_istore C dL_law_1514 (by decide) rfl ?_
  refine xr_aload_n C dL_law_1516 rfl ?_
  refine xr_callV0i C (m_thrown l G M8 (Mb 0) 1 vs8 hT8) (cwV 0 C.1.2.2.2.2 gL_law_X12_thrown rfl rfl rfl (by decide +kernel) ⟨Nat.le_of_ble_eq_true rfl, Nat.le_of_ble_eq_true rfl⟩) hT8 rfl (Nat.le_of_ble_eq_true rfl) ⟨by dsimp only; omega, by dsimp only; omega⟩ dL_law_1517 (fun t8 M7 hp7 => ?_)
  obtain ⟨rfl, rfl⟩ := hp7
  refine xr_iload C dL_law_1520 rfl ?_
  refine xr_icmp_eq C dL_law_1522 rfl (by decide) (by decide) (fun _ => ?_) (fun hq => absurd hq (by omega))
  refine xr_iload C dL_law_1527 rfl ?_
  refine xr_if_ne C dL_law_1529 rfl (by decide) (fun _ => ?_) (fun hq => absurd hq (by decide))
  refine xr_goto C dL_law_1544 rfl ?_
  refine mq_drop 5 ?_
  refine mq_drop 6 ?_
  exact kk _ _ _ (by omega) (by omega)
