set_option maxHeartbeats 4000000 in
set_option maxRecDepth 100000 in
theorem c_dkPut (l : Launch) (G : mq_G) (La : Nat → Nat) (hI : mq_inj La) (pf : Nat → Nat) (n : Nat) (ky : Nat → Nat) (c pk : Nat → List Nat) (ck : Nat → Nat) (M : mq_M) (hP : dkP pf n ky c ck) (hS : dkI G M La pf n ky c pk ck) (hC : ckI G M (La 1) (La 2)) (rb nb : Nat) (d3 : List Nat) (hrb : 7 ≤ rb ∧ rb < 274) (hrb2 : rb < 10 ∨ 104 ≤ rb) (hB : bI G M (La rb) (La (rb + 1)) nb d3) (hd3 : d3.length ≤ 240) (k2 : Nat) (hk2 : k2 < 65536) (hroom : n < 16 ∨ 0 ≤ dkOf n ky k2) : mq_T l yX2_put wsX2_put { frames := 5, cells := 0, slots := 0, locals := 112 } G [.ref (La 6), .int (zI (k2 : Int)), .ref (La rb)] M (mq_pv (fun M2 => (∃ (pf2 : Nat → Nat) (n2 : Nat) (ky2 : Nat → Nat) (c2 pk2 : Nat → List Nat) (ck2 : Nat → Nat), dkP pf2 n2 ky2 c2 ck2 ∧ dkI G M2 La pf2 n2 ky2 c2 pk2 ck2 ∧ n2 = (if 0 ≤ dkOf n ky k2 then n else n + 1) ∧ (if 0 ≤ dkOf n ky k2 then ky2 = ky else ∀ j, j < n + 1 → ky2 j = fnI ky (dkPl n ky k2) k2 j)) ∧ mq_FR La mq_TD M M2)) 0 0 := by
  refine mq_Met.of (cc := cX2_put) (maxL := 5) (ret := none) (by decide) rfl (Nat.le_of_ble_eq_true rfl) rfl rfl ?_
  intro p_ e_ s_ m_ args_ below_ meth_ c_ z_ C hr hlk hname
  have hS0 := hS
  obtain ⟨g1, ⟨fp, g2, g3⟩, g4⟩ := hS
  have hn := hP.2.2.1
  have hpl := dkPl_le n ky k2
  obtain ⟨hs1, hs2⟩ := @dkPl_spec n ky k2
  have hof := dkOf_rng n ky k2
  have hofd : dkOf n ky k2 = (if dkPl n ky k2 < n ∧ ky (dkPl n ky k2) = k2 then (dkPl n ky k2 : Int) else -1) := rfl
  have hcr : crF 65535 d3 < 65536 := crF_lt (by decide) _
  refine xr_aload_n C dX2_put_0 rfl ?_
  refine xr_iload_n C dX2_put_1 rfl ?_
  refine xr_callV1i C (c_hasRoomFor l G La hI pf n ky c pk ck M hP hS0 k2 hk2) (cwV 1 C.1.2.2.2.2 gX2_put_X2_hasRoomFor rfl rfl rfl (by decide +kernel) ⟨Nat.le_of_ble_eq_true rfl, Nat.le_of_ble_eq_true rfl⟩) g1 rfl (Nat.le_of_ble_eq_true rfl) ⟨by dsimp only; omega, by dsimp only; omega⟩ dX2_put_2 (fun r1 M9 hp9 => ?_)
  obtain ⟨rfl, rfl⟩ := hp9
  rw [if_pos hroom]
  refine xr_if_ne C dX2_put_5 rfl (by decide) (fun _ => ?_) (fun hq => absurd hq (by decide))
  refine xr_aload_n C dX2_put_9 rfl ?_
  refine xr_iload_n C dX2_put_10 rfl ?_
  refine xr_callV1i C (c_placeFor l G La hI pf n ky c pk ck M hP hS0 k2 hk2) (cwV 1 C.1.2.2.2.2 gX2_put_X2_placeFor rfl rfl rfl (by decide +kernel) ⟨Nat.le_of_ble_eq_true rfl, Nat.le_of_ble_eq_true rfl⟩) g1 rfl (Nat.le_of_ble_eq_true rfl) ⟨by dsimp only; omega, by dsimp only; omega⟩ dX2_put_11 (fun r2 M9 hp9 => ?_)
  obtain ⟨rfl, rfl⟩ := hp9
  generalize hpe : dkPl n ky k2 = pl at hpl hs1 hs2 hofd ⊢
  refine xr_istore_n C dX2_put_14 (by decide) rfl ?_
  refine xr_aload_n C dX2_put_15 rfl ?_
  refine xr_iload_n C dX2_put_16 rfl ?_
  refine xr_callV1i C (c_placeOf l G La hI pf n ky c pk ck M hP hS0 k2 hk2) (cwV 1 C.1.2.2.2.2 gX2_put_X2_placeOf rfl rfl rfl (by decide +kernel) ⟨Nat.le_of_ble_eq_true rfl, Nat.le_of_ble_eq_true rfl⟩) g1 rfl (Nat.le_of_ble_eq_true rfl) ⟨by dsimp only; omega, by dsimp only; omega⟩ dX2_put_17 (fun r3 M9 hp9 => ?_)
  obtain ⟨rfl, rfl⟩ := hp9
  refine xr_if_ge C dX2_put_20 rfl (by first | omega | (dsimp only; omega)) (fun hq4 => ?_) (fun hq4 => ?_)
  · have hH : 0 ≤ dkOf n ky k2 := hq4
    have hin : pl < n ∧ ky pl = k2 := Classical.byContradiction (fun q => by rw [if_neg q] at hofd; omega)
    have hq := hP.1 pl (by omega)
    have hX := g4 pl (by omega)
    refine xr_aload_n C dX2_put_61 rfl ?_
    refine xr_iload_n C dX2_put_62 rfl ?_
    refine xr_callV1a C (c_dkAt l G La hI pf n ky c pk ck M hP hS0 pl hin.1) (cwV 1 C.1.2.2.2.2 gX2_put_X2_at rfl rfl rfl (by decide +kernel) ⟨Nat.le_of_ble_eq_true rfl, Nat.le_of_ble_eq_true rfl⟩) g1 rfl (Nat.le_of_ble_eq_true rfl) ⟨by dsimp only; omega, by dsimp only; omega⟩ dX2_put_63 (fun r9 M9 hp9 => ?_)
    obtain ⟨hr9, rfl⟩ := hp9
    subst hr9
    refine xr_astore C dX2_put_66 (by decide) rfl ?_
    refine xr_aload C dX2_put_68 rfl ?_
    refine xr_ifnull_s C dX2_put_70 ?_
    refine xr_aload C dX2_put_73 rfl ?_
    refine xr_iload_n C dX2_put_75 rfl ?_
    refine xr_aload_n C dX2_put_76 rfl ?_
    refine xr_aload_n C dX2_put_77 rfl ?_
    refine xr_get C (Cn := RX2) (T := TX2) (N := 5) (by decide +kernel) g1 rfl 0 (by decide) (C.1.2.2.2.2 (.fieldLink RX2 29 "OssuaryVault$Desk" "check" "LOssuaryVault$Check;") (by decide +kernel)) (fun _ h => h) rfl dX2_put_78 ?_
    refine xr_callV3v C (c_fill l G _ _ _ _ _ _ _ _ _ M hX _ _ _ _ hB _ _ hC (mq_rnd hI (l := [24 + 5 * pf pl, 25 + 5 * pf pl, 26 + 5 * pf pl, 27 + 5 * pf pl, 28 + 5 * pf pl, rb, rb + 1, 1, 2]) (by simp; omega) (by intro r hr; simp at hr; omega)) k2 hk2 hd3) (cwV 3 C.1.2.2.2.2 gX2_put_X3_fill rfl rfl rfl (by decide +kernel) ⟨Nat.le_of_ble_eq_true rfl, Nat.le_of_ble_eq_true rfl⟩) hX.1 rfl (Nat.le_of_ble_eq_true rfl) ⟨by dsimp only; omega, by dsimp only; omega⟩ dX2_put_81 (fun M9 hp9 => ?_)
    obtain ⟨⟨pk9, hV9⟩, hF9⟩ := hp9
    change mq_FR La [24 + 5 * pf pl, 25 + 5 * pf pl, 26 + 5 * pf pl, 27 + 5 * pf pl, 28 + 5 * pf pl] M M9 at hF9
    have hT9 : ∀ r ∈ [24 + 5 * pf pl, 25 + 5 * pf pl, 26 + 5 * pf pl, 27 + 5 * pf pl, 28 + 5 * pf pl], r < 275 := by intro r hr; simp at hr; omega
    have hPn : dkP pf n ky (fnU c pl d3) (fnU ck pl (crF 65535 d3)) := ⟨hP.1, hP.2.1, hn, fun i hi => ⟨(hP.2.2.2.1 i hi).1, by unfold fnU; split; exact hcr; exact (hP.2.2.2.1 i hi).2⟩, hP.2.2.2.2⟩
    have hSn : dkI G M9 La pf n ky (fnU c pl d3) (fnU pk pl pk9) (fnU ck pl (crF 65535 d3)) := by
      refine ⟨(hF9 _ (mq_ni hI (by decide) hT9 (by simp; omega))).trans g1, ⟨fp, (hF9 _ (mq_ni hI (by decide) hT9 (by simp; omega))).trans g2, g3⟩, fun i hi => ?_⟩
      by_cases hip : i = pl
      · subst hip
        rw [fnU_s, fnU_s, fnU_s, hin.2]
        exact hV9
      · rw [fnU_n hip, fnU_n hip, fnU_n hip]
        have hqi := hP.1 i hi
        have hne : pf i ≠ pf pl := fun e => hip (hP.2.1 i pl hi (by omega) e)
        exact (g4 i hi).fr hI hF9 hqi hT9 (fun r h1 h2 => by simp; omega)
    have hFn : mq_FR La mq_TD M M9 := hF9.sub (fun r hr => mq_TDm.mpr (by simp at hr; omega))
    exact xr_vret C hr hlk ⟨rfl, ⟨_, _, _, _, _, _, hPn, hSn, (if_pos hH).symm, by rw [if_pos hH]⟩, hFn⟩ (by omega) (by omega) dX2_put_84
  · have hH : ¬ 0 ≤ dkOf n ky k2 := by omega
    have hn16 : n < 16 := by omega
    have hs3 : pl < n → k2 < ky pl := fun q => by
      have q1 := hs2 q
      by_cases q2 : ky pl = k2
      · rw [if_pos ⟨q, q2⟩] at hofd; omega
      · omega
    have hpq : ∀ y, y ≤ n → ∀ i, i < 16 → fnM pf y n i < 16 := fun y hy i hi => by
      unfold fnM
      split
      · exact hP.1 i hi
      · split
        · exact hP.1 n hn16
        · split
          · exact hP.1 (i - 1) (by omega)
          · exact hP.1 i hi
    refine xr_aload_n C dX2_put_23 rfl ?_
    refine xr_get C (Cn := RX2) (T := TX2) (N := 5) (by decide +kernel) g1 rfl 4 (by decide) (C.1.2.2.2.2 (.fieldLink RX2 34 "OssuaryVault$Desk" "count" "I") (by decide +kernel)) (fun _ h => h) rfl dX2_put_24 ?_
    refine xr_istore C dX2_put_27 (by decide) rfl ?_
    refine mq_loop (σ := Nat × mq_M) (fun y => pl ≤ y.1 ∧ y.1 ≤ n ∧ dkI G y.2 La (fnM pf y.1 n) n (fnM ky y.1 n) (fnM c y.1 n) (fnM pk y.1 n) (fnM ck y.1 n) ∧ mq_FR La [11] M y.2) (fun y => y.1) (fun y => y.2) (fun y => [some (.ref (La 6)), some (.int (zI (k2 : Int))), some (.ref (La rb)), some (.int (zI (pl : Int))), some (.int (zI (y.1 : Int)))]) (fun y => []) ?_ (n, M) ⟨hpl, Nat.le_refl _, by dsimp only; rw [fnM_n, fnM_n, fnM_n, fnM_n, fnM_n]; exact hS0, mq_F.rf⟩
    rintro ⟨i, M3⟩ ⟨hi1, hi2, q3, q4⟩ ih
    dsimp only at hi1 hi2 q3 q4 ih ⊢
    have q1b := q3.1
    have hT1 : ∀ r ∈ [11], r < 275 := by decide
    refine xr_iload C dX2_put_29 rfl ?_
    refine xr_iload_n C dX2_put_31 rfl ?_
    refine xr_icmp_le C dX2_put_32 rfl (by first | omega | (dsimp only; omega)) (by first | omega | (dsimp only; omega)) (fun hq5 => ?_) (fun hq5 => ?_)
    · have hip : i = pl := by omega
      subst hip
      refine xr_aload_n C dX2_put_51 rfl ?_
      refine xr_dup C dX2_put_52 rfl ?_
      refine xr_get C (Cn := RX2) (T := TX2) (N := 5) (by decide +kernel) q1b rfl 4 (by decide) (C.1.2.2.2.2 (.fieldLink RX2 34 "OssuaryVault$Desk" "count" "I") (by decide +kernel)) (fun _ h => h) rfl dX2_put_53 ?_
      refine xr_iconst (n := 1) C dX2_put_56 (by decide +kernel) ?_
      refine xr_iadd C dX2_put_57 ?_
      refine xr_put C (Cn := RX2) (T := TX2) (N := 5) (by decide +kernel) q1b rfl 4 (by decide) tyX2 tyX2_ok nmX2 (C.1.2.2.2.2 (.fieldLink RX2 34 "OssuaryVault$Desk" "count" "I") (by decide +kernel)) (fun _ h => h) rfl (tyX2_ok 4 (by decide)) rfl rfl (Nat.le_of_ble_eq_true rfl) dX2_put_58 ?_
      refine mq_ren (fun M6 hM6 => ?_)
      have F6 : mq_FR La [6, 11] M M6 := (q4.sub (by decide)).tr (mq_F.up hM6 (by simp))
      have F6b : mq_FR La [6] M3 M6 := mq_F.up hM6 (by simp)
      have hT6 : ∀ r ∈ [6, 11], r < 275 := by decide
      have hT6b : ∀ r ∈ [6], r < 275 := by decide
      have u1 : M6 (La 6) = some (.inr (2, [.ref (La 1), .ref (La 7), .ref (La 9), .ref (La 11), .int (zI ((n + 1 : Nat) : Int))])) := by rw [hM6, mq_up_s]; rfl
      have hpm := hpq i hi2
      have u0 : dkI G M6 La (fnM pf i n) (n + 1) (fnM ky i n) (fnM c i n) (fnM pk i n) (fnM ck i n) := by
        obtain ⟨-, ⟨fq, v2, v3⟩, v4⟩ := q3
        exact ⟨u1, ⟨fq, (F6b (La 11) (mq_ni hI (by decide) hT6b (by decide))).trans v2, v3⟩, fun j hj => (v4 j hj).fr hI F6b (hpm j hj) hT6b (fun r h1 h2 => by have := hpm j hj; simp; omega)⟩
      have epl : fnM pf i n i = pf n := by unfold fnM; rw [if_neg (by omega), if_pos rfl]
      have uB := hB.fr F6 (mq_ni hI (by omega) hT6 (by simp; omega)) (mq_ni hI (by omega) hT6 (by simp; omega))
      have uC := hC.fr F6 (mq_ni hI (by decide) hT6 (by decide)) (mq_ni hI (by decide) hT6 (by decide))
      have hq := hP.1 n hn16
      have hX : dkV G M6 La (pf n) (fnM ky i n i) (fnM c i n i) (fnM pk i n i) (fnM ck i n i) := by
        have := u0.2.2 i (by omega)
        rw [epl] at this
        exact this
      obtain ⟨fq, u2, u3⟩ := u0.2.1
      refine xr_aload_n C dX2_put_61 rfl ?_
      refine xr_iload_n C dX2_put_62 rfl ?_
      refine xr_callV1a C (c_dkAtW l G La hI (fnM pf i n) (n + 1) (fnM ky i n) (fnM c i n) (fnM pk i n) (fnM ck i n) M6 (by omega) u0 i (by omega)) (cwV 1 C.1.2.2.2.2 gX2_put_X2_at rfl rfl rfl (by decide +kernel) ⟨Nat.le_of_ble_eq_true rfl, Nat.le_of_ble_eq_true rfl⟩) u1 rfl (Nat.le_of_ble_eq_true rfl) ⟨by dsimp only; omega, by dsimp only; omega⟩ dX2_put_63 (fun r9 M9 hp9 => ?_)
      obtain ⟨hr9, rfl⟩ := hp9
      rw [epl] at hr9
      subst hr9
      refine xr_astore C dX2_put_66 (by decide) rfl ?_
      refine xr_aload C dX2_put_68 rfl ?_
      refine xr_ifnull_s C dX2_put_70 ?_
      refine xr_aload C dX2_put_73 rfl ?_
      refine xr_iload_n C dX2_put_75 rfl ?_
      refine xr_aload_n C dX2_put_76 rfl ?_
      refine xr_aload_n C dX2_put_77 rfl ?_
      refine xr_get C (Cn := RX2) (T := TX2) (N := 5) (by decide +kernel) u1 rfl 0 (by decide) (C.1.2.2.2.2 (.fieldLink RX2 29 "OssuaryVault$Desk" "check" "LOssuaryVault$Check;") (by decide +kernel)) (fun _ h => h) rfl dX2_put_78 ?_
      refine xr_callV3v C (c_fill l G _ _ _ _ _ _ _ _ _ M6 hX _ _ _ _ uB _ _ uC (mq_rnd hI (l := [24 + 5 * pf n, 25 + 5 * pf n, 26 + 5 * pf n, 27 + 5 * pf n, 28 + 5 * pf n, rb, rb + 1, 1, 2]) (by simp; omega) (by intro r hr; simp at hr; omega)) k2 hk2 hd3) (cwV 3 C.1.2.2.2.2 gX2_put_X3_fill rfl rfl rfl (by decide +kernel) ⟨Nat.le_of_ble_eq_true rfl, Nat.le_of_ble_eq_true rfl⟩) hX.1 rfl (Nat.le_of_ble_eq_true rfl) ⟨by dsimp only; omega, by dsimp only; omega⟩ dX2_put_81 (fun M9 hp9 => ?_)
      obtain ⟨⟨pk9, hV9⟩, hF9⟩ := hp9
      change mq_FR La [24 + 5 * pf n, 25 + 5 * pf n, 26 + 5 * pf n, 27 + 5 * pf n, 28 + 5 * pf n] M6 M9 at hF9
      have hT9 : ∀ r ∈ [24 + 5 * pf n, 25 + 5 * pf n, 26 + 5 * pf n, 27 + 5 * pf n, 28 + 5 * pf n], r < 275 := by intro r hr; simp at hr; omega
      have hPn : dkP (fnM pf i n) (n + 1) (fnI ky i k2) (fnU (fnM c i n) i d3) (fnI ck i (crF 65535 d3)) := dkP_mv hP hn16 hpl hk2 hs1 hs3 hcr
      have eky : ∀ j, j < n + 1 → fnU (fnM ky i n) i k2 j = fnI ky i k2 j := fun j hj => fnM_I hj
      have eck : ∀ j, j < n + 1 → fnU (fnM ck i n) i (crF 65535 d3) j = fnI ck i (crF 65535 d3) j := fun j hj => fnM_I hj
      have hPn2 : dkP (fnM pf i n) (n + 1) (fnU (fnM ky i n) i k2) (fnU (fnM c i n) i d3) (fnU (fnM ck i n) i (crF 65535 d3)) := by
        obtain ⟨b1, b2, b3, b4, b5⟩ := hPn
        refine ⟨b1, b2, b3, fun j hj => ?_, fun j k hjk hk => ?_⟩
        · rw [eky j hj, eck j hj]; exact b4 j hj
        · rw [eky j (by omega), eky k hk]; exact b5 j k hjk hk
      have hSn : dkI G M9 La (fnM pf i n) (n + 1) (fnU (fnM ky i n) i k2) (fnU (fnM c i n) i d3) (fnU (fnM pk i n) i pk9) (fnU (fnM ck i n) i (crF 65535 d3)) := by
        refine ⟨(hF9 _ (mq_ni hI (by decide) hT9 (by simp; omega))).trans u1, ⟨_, (hF9 _ (mq_ni hI (by decide) hT9 (by simp; omega))).trans u2, u3⟩, fun j hj => ?_⟩
        by_cases hji : j = i
        · subst hji
          rw [fnU_s, fnU_s, fnU_s, fnU_s, epl]
          exact hV9
        · rw [fnU_n hji, fnU_n hji, fnU_n hji, fnU_n hji]
          have hne : fnM pf i n j ≠ pf n := fun e => hji (hPn.2.1 j i hj (by omega) (by rw [e, epl]))
          have := hpm j hj
          exact (u0.2.2 j hj).fr hI hF9 this hT9 (fun r h1 h2 => by simp; omega)
      have hFn : mq_FR La mq_TD M M9 := (F6.sub (fun r hr => mq_TDm.mpr (by simp at hr; omega))).tr (hF9.sub (fun r hr => mq_TDm.mpr (by simp at hr; omega)))
      exact xr_vret C hr hlk ⟨rfl, ⟨_, _, _, _, _, _, hPn2, hSn, (if_neg hH).symm, by rw [if_neg hH]; exact eky⟩, hFn⟩ (by omega) (by omega) dX2_put_84
    · refine xr_aload_n C dX2_put_35 rfl ?_
      refine xr_iload C dX2_put_36 rfl ?_
      refine xr_iconst (n := 1) C dX2_put_38 (by decide +kernel) ?_
      refine xr_isub C dX2_put_39 ?_
      refine xr_iload C dX2_put_40 rfl ?_
      rw [show (i : Int) - 1 = ((i - 1 : Nat) : Int) by omega]
      refine xr_callV2v C (c_dkSwap l G La hI (fnM pf i n) n (fnM ky i n) (fnM c i n) (fnM pk i n) (fnM ck i n) M3 (hpq i hi2) q3 (i - 1) i (by omega) (by omega)) (cwV 2 C.1.2.2.2.2 gX2_put_X2_swap rfl rfl rfl (by decide +kernel) ⟨Nat.le_of_ble_eq_true rfl, Nat.le_of_ble_eq_true rfl⟩) q1b rfl (Nat.le_of_ble_eq_true rfl) ⟨by dsimp only; omega, by dsimp only; omega⟩ dX2_put_42 (fun M4 hp4 => ?_)
      obtain ⟨hS4, hF4⟩ := hp4
      rw [fnM_sw (by omega) hi2, fnM_sw (by omega) hi2, fnM_sw (by omega) hi2, fnM_sw (by omega) hi2, fnM_sw (by omega) hi2] at hS4
      refine xr_iinc C dX2_put_45 rfl (by decide) rfl ?_
      refine xr_goto C dX2_put_48 rfl ?_
      rw [show (i : Int) + (-1) = ((i - 1 : Nat) : Int) by omega]
      exact ih (i - 1, M4) ⟨by dsimp only; omega, by dsimp only; omega, hS4, q4.tr hF4⟩ (by dsimp only; omega)
