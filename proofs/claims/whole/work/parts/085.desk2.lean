set_option maxHeartbeats 4000000 in
set_option maxRecDepth 100000 in
theorem c_dkPut (l : Launch) (G : mq_G) (La : Nat → Nat) (hI : mq_inj La) (pf : Nat → Nat) (n : Nat) (ky : Nat → Nat) (c pk : Nat → List Nat) (ck : Nat → Nat) (M : mq_M) (hP : dkP pf n ky c ck) (hS : dkI G M La pf n ky c pk ck) (hC : ckI G M (La 1) (La 2)) (rb nb : Nat) (d3 : List Nat) (hrb : 7 ≤ rb ∧ rb < 274) (hrb2 : rb < 10 ∨ 104 ≤ rb) (hB : bI G M (La rb) (La (rb + 1)) nb d3) (hd3 : d3.length ≤ 240) (k2 : Nat) (hk2 : k2 < 65536) (hroom : n < 16 ∨ 0 ≤ dkOf n ky k2) : mq_T l yX2_put wsX2_put { frames := 5, cells := 0, slots := 0, locals := 112 } G [.ref (La 6), .int (zI (k2 : Int)), .ref (La rb)] M (mq_pv (fun M2 => (∃ (pf2 : Nat → Nat) (n2 : Nat) (ky2 : Nat → Nat) (c2 pk2 : Nat → List Nat) (ck2 : Nat → Nat), dkP pf2 n2 ky2 c2 ck2 ∧ dkI G M2 La pf2 n2 ky2 c2 pk2 ck2 ∧ n2 = (if 0 ≤ dkOf n ky k2 then n else n + 1) ∧ (if 0 ≤ dkOf n ky k2 then ky2 = ky else ∀ j, j < n + 1 → ky2 j = fnI ky (dkPl n ky k2) k2 j)) ∧ mq_FR La mq_TD M M2)) 0 0 := by
  refine mq_Met.of (cc := cX2_put) (maxL := 6) (ret := none) (by decide) rfl (Nat.le_of_ble_eq_true rfl) rfl rfl ?_
  intro p_ e_ s_ m_ args_ below_ meth_ c_ z_ C hr hlk hname
  have hS0 := hS
  obtain ⟨g1, ⟨fp, g2, g3⟩, g4⟩ := hS
  have hn := hP.2.2.1
  have hpl := dkPl_le n ky k2
  obtain ⟨hs1, hs2⟩ := @dkPl_spec n ky k2
  have hof := dkOf_rng n ky k2
  have hofd : dkOf n ky k2 = (if dkPl n ky k2 < n ∧ ky (dkPl n ky k2) = k2 then (dkPl n ky k2 : Int) else -1) := rfl
  have hcr : crF 65535 d3 < 65536 := crF_lt (by decide) _
  refine xr_aload_n C dX2_put_0 rfl ?_
  refine xr_iload_n C dX2_put_1 rfl ?_
  refine xr_callV1i C (c_placeFor l G La hI pf n ky c pk ck M hP hS0 k2 hk2) (cwV 1 C.1.2.2.2.2 gX2_put_X2_placeFor rfl rfl rfl (by decide +kernel) ⟨Nat.le_of_ble_eq_true rfl, Nat.le_of_ble_eq_true rfl⟩) g1 rfl (Nat.le_of_ble_eq_true rfl) ⟨by dsimp only; omega, by dsimp only; omega⟩ dX2_put_2 (fun r1 M9 hp9 => ?_)
  obtain ⟨rfl, rfl⟩ := hp9
  generalize hpe : dkPl n ky k2 = pl at hpl hs1 hs2 hofd ⊢
  refine xr_istore_n C dX2_put_5 (by decide) rfl ?_
  refine xr_aload_n C dX2_put_6 rfl ?_
  refine xr_iload_n C dX2_put_7 rfl ?_
  refine xr_callV1i C (c_placeOf l G La hI pf n ky c pk ck M hP hS0 k2 hk2) (cwV 1 C.1.2.2.2.2 gX2_put_X2_placeOf rfl rfl rfl (by decide +kernel) ⟨Nat.le_of_ble_eq_true rfl, Nat.le_of_ble_eq_true rfl⟩) g1 rfl (Nat.le_of_ble_eq_true rfl) ⟨by dsimp only; omega, by dsimp only; omega⟩ dX2_put_8 (fun r2 M9 hp9 => ?_)
  obtain ⟨rfl, rfl⟩ := hp9
  refine xr_if_ge C dX2_put_11 rfl (by first | omega | (dsimp only; omega)) (fun hq3 => ?_) (fun hq3 => ?_)
  · have hH : 0 ≤ dkOf n ky k2 := hq3
    have hin : pl < n ∧ ky pl = k2 := Classical.byContradiction (fun q => by rw [if_neg q] at hofd; omega)
    have hq := hP.1 pl (by omega)
    have hX := g4 pl (by omega)
    refine xr_aload_n C dX2_put_90 rfl ?_
    refine xr_get C (Cn := RX2) (T := TX2) (N := 5) (by decide +kernel) g1 rfl 3 (by decide) (C.1.2.2.2.2 (.fieldLink RX2 25 "OssuaryVault$Desk" "slots" "[LOssuaryVault$DeskFile;") (by decide +kernel)) (fun _ h => h) rfl dX2_put_91 ?_
    refine xr_iload_n C dX2_put_94 rfl ?_
    refine xr_aald C g2 mq_tF (by first | omega | (dsimp only; omega)) (by first | omega | (dsimp only; omega)) (by first | omega | (dsimp only; omega)) dX2_put_95 ?_
    rw [Int.toNat_natCast, g3 pl (by omega)]
    refine mq_rfs ?_
    refine xr_iload_n C dX2_put_96 rfl ?_
    refine xr_aload_n C dX2_put_97 rfl ?_
    refine xr_aload_n C dX2_put_98 rfl ?_
    refine xr_get C (Cn := RX2) (T := TX2) (N := 5) (by decide +kernel) g1 rfl 0 (by decide) (C.1.2.2.2.2 (.fieldLink RX2 29 "OssuaryVault$Desk" "check" "LOssuaryVault$Check;") (by decide +kernel)) (fun _ h => h) rfl dX2_put_99 ?_
    refine xr_callV3v C (c_fill l G _ _ _ _ _ _ _ _ _ M hX _ _ _ _ hB _ _ hC (mq_rnd hI (l := [24 + 5 * pf pl, 25 + 5 * pf pl, 26 + 5 * pf pl, 27 + 5 * pf pl, 28 + 5 * pf pl, rb, rb + 1, 1, 2]) (by simp; omega) (by intro r hr; simp at hr; omega)) k2 hk2 hd3) (cwV 3 C.1.2.2.2.2 gX2_put_X3_fill rfl rfl rfl (by decide +kernel) ⟨Nat.le_of_ble_eq_true rfl, Nat.le_of_ble_eq_true rfl⟩) hX.1 rfl (Nat.le_of_ble_eq_true rfl) ⟨by dsimp only; omega, by dsimp only; omega⟩ dX2_put_102 (fun M9 hp9 => ?_)
    obtain ⟨⟨pk9, hV9⟩, hF9⟩ := hp9
    change mq_FR La [24 + 5 * pf pl, 25 + 5 * pf pl, 26 + 5 * pf pl, 27 + 5 * pf pl, 28 + 5 * pf pl] M M9 at hF9
    have hT9 : ∀ r ∈ [24 + 5 * pf pl, 25 + 5 * pf pl, 26 + 5 * pf pl, 27 + 5 * pf pl, 28 + 5 * pf pl], r < 275 := by intro r hr; simp at hr; omega
    have hPn : dkP pf n ky (fnU c pl d3) (fnU ck pl (crF 65535 d3)) := ⟨hP.1, hP.2.1, hn, fun i hi => ⟨(hP.2.2.2.1 i hi).1, by unfold fnU; split; exact hcr; exact (hP.2.2.2.1 i hi).2⟩, hP.2.2.2.2⟩
    have hSn : dkI G M9 La pf n ky (fnU c pl d3) (fnU pk pl pk9) (fnU ck pl (crF 65535 d3)) := by
      refine ⟨(hF9 _ (mq_ni hI (by decide) hT9 (by simp; omega))).trans g1, ⟨fp, (hF9 _ (mq_ni hI (by decide) hT9 (by simp; omega))).trans g2, g3⟩, fun i hi => ?_⟩
      by_cases hip : i = pl
      · subst hip
        rw [fnU_s, fnU_s, fnU_s, hin.2]
        exact hV9
      · rw [fnU_n hip, fnU_n hip, fnU_n hip]
        have hqi := hP.1 i hi
        have hne : pf i ≠ pf pl := fun e => hip (hP.2.1 i pl hi (by omega) e)
        exact (g4 i hi).fr hI hF9 hqi hT9 (fun r h1 h2 => by simp; omega)
    have hFn : mq_FR La mq_TD M M9 := hF9.sub (fun r hr => mq_TDm.mpr (by simp at hr; omega))
    exact xr_vret C hr hlk ⟨rfl, ⟨_, _, _, _, _, _, hPn, hSn, (if_pos hH).symm, by rw [if_pos hH]⟩, hFn⟩ (by omega) (by omega) dX2_put_105
  · have hH : ¬ 0 ≤ dkOf n ky k2 := by omega
    have hn16 : n < 16 := by omega
    have hs3 : pl < n → k2 < ky pl := fun q => by
      have q1 := hs2 q
      by_cases q2 : ky pl = k2
      · rw [if_pos ⟨q, q2⟩] at hofd; omega
      · omega
    refine xr_aload_n C dX2_put_14 rfl ?_
    refine xr_get C (Cn := RX2) (T := TX2) (N := 5) (by decide +kernel) g1 rfl 4 (by decide) (C.1.2.2.2.2 (.fieldLink RX2 34 "OssuaryVault$Desk" "count" "I") (by decide +kernel)) (fun _ h => h) rfl dX2_put_15 ?_
    refine xr_aload_n C dX2_put_18 rfl ?_
    refine xr_get C (Cn := RX2) (T := TX2) (N := 5) (by decide +kernel) g1 rfl 3 (by decide) (C.1.2.2.2.2 (.fieldLink RX2 25 "OssuaryVault$Desk" "slots" "[LOssuaryVault$DeskFile;") (by decide +kernel)) (fun _ h => h) rfl dX2_put_19 ?_
    refine xr_alen C g2 mq_tF dX2_put_22 ?_
    refine xr_icmp_lt C dX2_put_23 rfl (by first | omega | (dsimp only; omega)) (by first | omega | (dsimp only; omega)) (fun _ => ?_) (fun hq => absurd hq (by dsimp only; omega))
    refine xr_aload_n C dX2_put_27 rfl ?_
    refine xr_get C (Cn := RX2) (T := TX2) (N := 5) (by decide +kernel) g1 rfl 3 (by decide) (C.1.2.2.2.2 (.fieldLink RX2 25 "OssuaryVault$Desk" "slots" "[LOssuaryVault$DeskFile;") (by decide +kernel)) (fun _ h => h) rfl dX2_put_28 ?_
    refine xr_aload_n C dX2_put_31 rfl ?_
    refine xr_get C (Cn := RX2) (T := TX2) (N := 5) (by decide +kernel) g1 rfl 4 (by decide) (C.1.2.2.2.2 (.fieldLink RX2 34 "OssuaryVault$Desk" "count" "I") (by decide +kernel)) (fun _ h => h) rfl dX2_put_32 ?_
    refine xr_aald C g2 mq_tF (by first | omega | (dsimp only; omega)) (by first | omega | (dsimp only; omega)) (by first | omega | (dsimp only; omega)) dX2_put_35 ?_
    rw [Int.toNat_natCast, g3 n hn16]
    refine mq_rfs ?_
    refine xr_astore C dX2_put_36 (by decide) rfl ?_
    refine xr_aload_n C dX2_put_38 rfl ?_
    refine xr_get C (Cn := RX2) (T := TX2) (N := 5) (by decide +kernel) g1 rfl 4 (by decide) (C.1.2.2.2.2 (.fieldLink RX2 34 "OssuaryVault$Desk" "count" "I") (by decide +kernel)) (fun _ h => h) rfl dX2_put_39 ?_
    refine xr_istore C dX2_put_42 (by decide) rfl ?_
    have hBk : fp n = some (La (24 + 5 * pf n)) := g3 n hn16
    refine mq_loop (σ := Nat × mq_M × (Nat → Option Nat)) (fun y => pl ≤ y.1 ∧ y.1 ≤ n ∧ y.2.1 (La 6) = M (La 6) ∧ y.2.1 (La 11) = some (.inl (G.2.2.1, 16, .inr (.inr (.inr (.inr y.2.2))))) ∧ (∀ j, j < 16 → y.2.2 j = (if y.1 < j ∧ j ≤ n then fp (j - 1) else fp j)) ∧ mq_FR La [11] M y.2.1) (fun y => y.1) (fun y => y.2.1) (fun y => [some (.ref (La 6)), some (.int (zI (k2 : Int))), some (.ref (La rb)), some (.int (zI (pl : Int))), some (.ref (La (24 + 5 * pf n))), some (.int (zI (y.1 : Int)))]) (fun y => []) ?_ (n, M, fp) ⟨hpl, Nat.le_refl _, rfl, g2, (fun j hj => by dsimp only; rw [if_neg (by omega)]), mq_F.rf⟩
    rintro ⟨i, M3, f3⟩ ⟨hi1, hi2, q1, q2, q3, q4⟩ ih
    dsimp only at hi1 hi2 q1 q2 q3 q4 ih ⊢
    have q1b := q1.trans g1
    have hT1 : ∀ r ∈ [11], r < 275 := by decide
    refine xr_iload C dX2_put_44 rfl ?_
    refine xr_iload_n C dX2_put_46 rfl ?_
    refine xr_icmp_le C dX2_put_47 rfl (by first | omega | (dsimp only; omega)) (by first | omega | (dsimp only; omega)) (fun hq4 => ?_) (fun hq4 => ?_)
    · have hip : i = pl := by omega
      subst hip
      have hXn := (g4 n hn16).fr hI q4 (hP.1 n hn16) hT1 (fun r h1 h2 => by simp; omega)
      refine xr_aload_n C dX2_put_72 rfl ?_
      refine xr_get C (Cn := RX2) (T := TX2) (N := 5) (by decide +kernel) q1b rfl 3 (by decide) (C.1.2.2.2.2 (.fieldLink RX2 25 "OssuaryVault$Desk" "slots" "[LOssuaryVault$DeskFile;") (by decide +kernel)) (fun _ h => h) rfl dX2_put_73 ?_
      refine xr_iload_n C dX2_put_76 rfl ?_
      refine xr_aload C dX2_put_77 rfl ?_
      refine xr_aast C (r := (RX3, TX3, 4)) q2 mq_tF hXn.1 rfl (by first | omega | (dsimp only; omega)) (by first | omega | (dsimp only; omega)) (by first | omega | (dsimp only; omega)) dX2_put_79 ?_
      refine mq_ren (fun M5 hM5 => ?_)
      rw [Int.toNat_natCast] at hM5
      have F5 : mq_FR La [11] M M5 := q4.tr (mq_F.up hM5 (by simp))
      have v1 := (F5 (La 6) (mq_ni hI (by decide) hT1 (by decide))).trans g1
      have v2 : M5 (La 11) = some (.inl (G.2.2.1, 16, .inr (.inr (.inr (.inr (va_up f3 i (some (La (24 + 5 * pf n)))))))) ) := by rw [hM5, mq_up_s]
      have v3 : ∀ j, j < 16 → va_up f3 i (some (La (24 + 5 * pf n))) j = some (La (24 + 5 * fnM pf i n j)) := by
        intro j hj
        unfold va_up fnM
        by_cases hji : j = i
        · rw [if_pos hji, if_neg (by omega), if_pos hji]
        · rw [if_neg hji, q3 j hj]
          by_cases hlt : j < i
          · rw [if_neg (by omega), if_pos hlt]; exact g3 j hj
          · rw [if_neg hlt, if_neg hji]
            by_cases hjn : j ≤ n
            · rw [if_pos (by omega), if_pos hjn]; exact g3 (j - 1) (by omega)
            · rw [if_neg (by omega), if_neg hjn]; exact g3 j hj
      refine xr_aload_n C dX2_put_80 rfl ?_
      refine xr_dup C dX2_put_81 rfl ?_
      refine xr_get C (Cn := RX2) (T := TX2) (N := 5) (by decide +kernel) v1 rfl 4 (by decide) (C.1.2.2.2.2 (.fieldLink RX2 34 "OssuaryVault$Desk" "count" "I") (by decide +kernel)) (fun _ h => h) rfl dX2_put_82 ?_
      refine xr_iconst (n := 1) C dX2_put_85 (by decide +kernel) ?_
      refine xr_iadd C dX2_put_86 ?_
      refine xr_put C (Cn := RX2) (T := TX2) (N := 5) (by decide +kernel) v1 rfl 4 (by decide) tyX2 tyX2_ok nmX2 (C.1.2.2.2.2 (.fieldLink RX2 34 "OssuaryVault$Desk" "count" "I") (by decide +kernel)) (fun _ h => h) rfl (tyX2_ok 4 (by decide)) rfl rfl (Nat.le_of_ble_eq_true rfl) dX2_put_87 ?_
      refine mq_ren (fun M6 hM6 => ?_)
      have F6 : mq_FR La [6, 11] M M6 := (F5.sub (by decide)).tr (mq_F.up hM6 (by simp))
      have hT6 : ∀ r ∈ [6, 11], r < 275 := by decide
      have u1 : M6 (La 6) = some (.inr (2, [.ref (La 1), .ref (La 7), .ref (La 9), .ref (La 11), .int (zI ((n + 1 : Nat) : Int))])) := by rw [hM6, mq_up_s]; rfl
      have u2 := (mq_F.up hM6 (List.mem_singleton.mpr rfl) (La 11) (by simp; exact mq_ne hI (by decide) (by decide) (by decide))).trans v2
      have uX : ∀ j, j < 16 → dkV G M6 La (pf j) (ky j) (c j) (pk j) (ck j) := fun j hj => (g4 j hj).fr hI F6 (hP.1 j hj) hT6 (fun r h1 h2 => by have := hP.1 j hj; simp; omega)
      have uB := hB.fr F6 (mq_ni hI (by omega) hT6 (by simp; omega)) (mq_ni hI (by omega) hT6 (by simp; omega))
      have uC := hC.fr F6 (mq_ni hI (by decide) hT6 (by decide)) (mq_ni hI (by decide) hT6 (by decide))
      have hq := hP.1 n hn16
      refine xr_aload_n C dX2_put_90 rfl ?_
      refine xr_get C (Cn := RX2) (T := TX2) (N := 5) (by decide +kernel) u1 rfl 3 (by decide) (C.1.2.2.2.2 (.fieldLink RX2 25 "OssuaryVault$Desk" "slots" "[LOssuaryVault$DeskFile;") (by decide +kernel)) (fun _ h => h) rfl dX2_put_91 ?_
      refine xr_iload_n C dX2_put_94 rfl ?_
      refine xr_aald C u2 mq_tF (by first | omega | (dsimp only; omega)) (by first | omega | (dsimp only; omega)) (by first | omega | (dsimp only; omega)) dX2_put_95 ?_
      rw [Int.toNat_natCast, v3 i (by omega), show fnM pf i n i = pf n by unfold fnM; rw [if_neg (by omega), if_pos rfl]]
      refine mq_rfs ?_
      refine xr_iload_n C dX2_put_96 rfl ?_
      refine xr_aload_n C dX2_put_97 rfl ?_
      refine xr_aload_n C dX2_put_98 rfl ?_
      refine xr_get C (Cn := RX2) (T := TX2) (N := 5) (by decide +kernel) u1 rfl 0 (by decide) (C.1.2.2.2.2 (.fieldLink RX2 29 "OssuaryVault$Desk" "check" "LOssuaryVault$Check;") (by decide +kernel)) (fun _ h => h) rfl dX2_put_99 ?_
      refine xr_callV3v C (c_fill l G _ _ _ _ _ _ _ _ _ M6 (uX n hn16) _ _ _ _ uB _ _ uC (mq_rnd hI (l := [24 + 5 * pf n, 25 + 5 * pf n, 26 + 5 * pf n, 27 + 5 * pf n, 28 + 5 * pf n, rb, rb + 1, 1, 2]) (by simp; omega) (by intro r hr; simp at hr; omega)) k2 hk2 hd3) (cwV 3 C.1.2.2.2.2 gX2_put_X3_fill rfl rfl rfl (by decide +kernel) ⟨Nat.le_of_ble_eq_true rfl, Nat.le_of_ble_eq_true rfl⟩) (uX n hn16).1 rfl (Nat.le_of_ble_eq_true rfl) ⟨by dsimp only; omega, by dsimp only; omega⟩ dX2_put_102 (fun M9 hp9 => ?_)
      obtain ⟨⟨pk9, hV9⟩, hF9⟩ := hp9
      change mq_FR La [24 + 5 * pf n, 25 + 5 * pf n, 26 + 5 * pf n, 27 + 5 * pf n, 28 + 5 * pf n] M6 M9 at hF9
      have hT9 : ∀ r ∈ [24 + 5 * pf n, 25 + 5 * pf n, 26 + 5 * pf n, 27 + 5 * pf n, 28 + 5 * pf n], r < 275 := by intro r hr; simp at hr; omega
      have hPn : dkP (fnM pf i n) (n + 1) (fnI ky i k2) (fnI c i d3) (fnI ck i (crF 65535 d3)) := dkP_mv hP hn16 hpl hk2 hs1 hs3 hcr
      have hSn : dkI G M9 La (fnM pf i n) (n + 1) (fun j => if j ≤ n then fnI ky i k2 j else ky j) (fun j => if j ≤ n then fnI c i d3 j else c j) (fun j => if j ≤ n then fnI pk i pk9 j else pk j) (fun j => if j ≤ n then fnI ck i (crF 65535 d3) j else ck j) := by
        refine ⟨(hF9 _ (mq_ni hI (by decide) hT9 (by simp; omega))).trans u1, ⟨_, (hF9 _ (mq_ni hI (by decide) hT9 (by simp; omega))).trans u2, v3⟩, fun j hj => ?_⟩
        have keep : ∀ m, m < 16 → m ≠ n → dkV G M9 La (pf m) (ky m) (c m) (pk m) (ck m) := fun m hm hmn => by
          have hqm := hP.1 m hm
          have hne : pf m ≠ pf n := fun e => hmn (hP.2.1 m n hm hn16 e)
          exact (uX m hm).fr hI hF9 hqm hT9 (fun r h1 h2 => by simp; omega)
        dsimp only
        unfold fnM fnI
        by_cases hjn : j ≤ n
        · simp only [if_pos hjn]
          by_cases h1 : j < i
          · simp only [if_pos h1]
            exact keep j hj (by omega)
          · simp only [if_neg h1]
            by_cases h2 : j = i
            · simp only [if_pos h2]
              exact hV9
            · simp only [if_neg h2]
              exact keep (j - 1) (by omega) (by omega)
        · simp only [if_neg hjn, if_neg (show ¬ j < i by omega), if_neg (show ¬ j = i by omega)]
          exact keep j hj (by omega)
      have hPn2 : dkP (fnM pf i n) (n + 1) (fun j => if j ≤ n then fnI ky i k2 j else ky j) (fun j => if j ≤ n then fnI c i d3 j else c j) (fun j => if j ≤ n then fnI ck i (crF 65535 d3) j else ck j) := by
        obtain ⟨b1, b2, b3, b4, b5⟩ := hPn
        refine ⟨b1, b2, b3, fun j hj => ?_, fun j k hjk hk => ?_⟩
        · dsimp only; rw [if_pos (by omega), if_pos (by omega)]; exact b4 j hj
        · dsimp only; rw [if_pos (by omega), if_pos (by omega)]; exact b5 j k hjk hk
      have hFn : mq_FR La mq_TD M M9 := (F6.sub (fun r hr => mq_TDm.mpr (by simp at hr; omega))).tr (hF9.sub (fun r hr => mq_TDm.mpr (by simp at hr; omega)))
      exact xr_vret C hr hlk ⟨rfl, ⟨_, _, _, _, _, _, hPn2, hSn, (if_neg hH).symm, by rw [if_neg hH]; exact fun j hj => if_pos (by omega)⟩, hFn⟩ (by omega) (by omega) dX2_put_105
    · refine xr_aload_n C dX2_put_50 rfl ?_
      refine xr_get C (Cn := RX2) (T := TX2) (N := 5) (by decide +kernel) q1b rfl 3 (by decide) (C.1.2.2.2.2 (.fieldLink RX2 25 "OssuaryVault$Desk" "slots" "[LOssuaryVault$DeskFile;") (by decide +kernel)) (fun _ h => h) rfl dX2_put_51 ?_
      refine xr_iload C dX2_put_54 rfl ?_
      refine xr_aload_n C dX2_put_56 rfl ?_
      refine xr_get C (Cn := RX2) (T := TX2) (N := 5) (by decide +kernel) q1b rfl 3 (by decide) (C.1.2.2.2.2 (.fieldLink RX2 25 "OssuaryVault$Desk" "slots" "[LOssuaryVault$DeskFile;") (by decide +kernel)) (fun _ h => h) rfl dX2_put_57 ?_
      refine xr_iload C dX2_put_60 rfl ?_
      refine xr_iconst (n := 1) C dX2_put_62 (by decide +kernel) ?_
      refine xr_isub C dX2_put_63 ?_
      refine xr_aald C q2 mq_tF (by first | omega | (dsimp only; omega)) (by first | omega | (dsimp only; omega)) (by first | omega | (dsimp only; omega)) dX2_put_64 ?_
      rw [show ((i : Int) - 1).toNat = i - 1 by omega, q3 (i - 1) (by omega), if_neg (show ¬ (i < i - 1 ∧ i - 1 ≤ n) by omega), g3 (i - 1) (by omega)]
      refine mq_rfs ?_
      have hXi := (g4 (i - 1) (by omega)).fr hI q4 (hP.1 (i - 1) (by omega)) hT1 (fun r h1 h2 => by simp; omega)
      refine xr_aast C (r := (RX3, TX3, 4)) q2 mq_tF hXi.1 rfl (by first | omega | (dsimp only; omega)) (by first | omega | (dsimp only; omega)) (by first | omega | (dsimp only; omega)) dX2_put_65 ?_
      refine mq_ren (fun M7 hM7 => ?_)
      rw [Int.toNat_natCast] at hM7
      refine xr_iinc C dX2_put_66 rfl (by decide) rfl ?_
      refine xr_goto C dX2_put_69 rfl ?_
      rw [show (i : Int) + (-1) = ((i - 1 : Nat) : Int) by omega]
      exact ih (i - 1, M7, va_up f3 i (some (La (24 + 5 * pf (i - 1))))) ⟨by dsimp only; omega, by dsimp only; omega, (mq_F.up hM7 (List.mem_singleton.mpr rfl) (La 6) (by simp; exact mq_ne hI (by decide) (by decide) (by decide))).trans q1, by dsimp only; rw [hM7, mq_up_s], fun j hj => by
        dsimp only
        unfold va_up
        by_cases hji : j = i
        · rw [if_pos hji, if_pos (by omega), hji]; exact (g3 (i - 1) (by omega)).symm
        · rw [if_neg hji, q3 j hj]
          by_cases h1 : i < j ∧ j ≤ n
          · rw [if_pos h1, if_pos (by omega)]
          · rw [if_neg h1, if_neg (by omega)], q4.tr (mq_F.up hM7 (by simp))⟩ (by dsimp only; omega)
