set_option maxHeartbeats 4000000 in
set_option maxRecDepth 100000 in
theorem c_takeIndexed (l : Launch) (G : mq_G) (La : Nat → Nat) (hI : mq_inj La) (op : Bool) (da pa : Int) (ix : Bool) (n : Nat) (S : List Nat) (fc : Nat → List Nat) (fk fp ft : Nat → Int) (fg : Nat → Bool) (M : mq_M) (hS : rdI G M La op da pa ix n S fc fk fp ft fg) (hR : rdR fk fp ft) : mq_T l yX7_takeIndexed wsX7_takeIndexed { frames := 2, cells := 0, slots := 0, locals := 42 } G [.ref (La 20)] M (mq_pv (fun M2 => (∃ fk2 fp2 ft2 : Nat → Int, rdR fk2 fp2 ft2 ∧ rdI G M2 La op da pa ix (min (mq_gd S (rdTail S + 1)) 40) S fc fk2 fp2 ft2 fg ∧ ∀ k, k < min (mq_gd S (rdTail S + 1)) 40 → fk2 k = (mq_wd S ((mq_wd S (rdTail S + 2) : Int) + (k : Int) * 6) : Int) ∧ fp2 k = (mq_wd S ((mq_wd S (rdTail S + 2) : Int) + (k : Int) * 6 + 2) : Int) ∧ ft2 k = (mq_wd S ((mq_wd S (rdTail S + 2) : Int) + (k : Int) * 6 + 4) : Int)) ∧ mq_FR La mq_TR M M2)) 0 0 := by
  refine mq_Met.of (cc := cX7_takeIndexed) (maxL := 6) (ret := none) (by decide) rfl (Nat.le_of_ble_eq_true rfl) rfl rfl ?_
  intro p_ e_ s_ m_ args_ below_ meth_ c_ z_ C hr hlk hname
  have hS0 := hS
  obtain ⟨g1, g2, ⟨ff, g3, g4⟩, g5⟩ := hS
  have hSl : S.length ≤ 40700 := g2.2.2.1
  have hSb := g2.2.2.2.2.1
  have htd : rdTail S = (S.length : Int) - 6 := rfl
  have b1 := mq_gd_lt hSb (rdTail S + 1)
  have b2 := mq_wd_lt hSb (rdTail S + 2)
  refine xr_aload_n C dX7_takeIndexed_0 rfl ?_
  refine xr_callV0i C (c_tailPlace l G La hI op da pa ix n S fc fk fp ft fg M hS0) (cwV 0 C.1.2.2.2.2 gX7_takeIndexed_X7_tailPlace rfl rfl rfl (by decide +kernel) ⟨Nat.le_of_ble_eq_true rfl, Nat.le_of_ble_eq_true rfl⟩) g1 rfl (Nat.le_of_ble_eq_true rfl) ⟨by dsimp only; omega, by dsimp only; omega⟩ dX7_takeIndexed_1 (fun r1 M9 hp9 => ?_)
  obtain ⟨rfl, rfl⟩ := hp9
  refine xr_istore_n C dX7_takeIndexed_4 (by decide) rfl ?_
  refine xr_aload_n C dX7_takeIndexed_5 rfl ?_
  refine xr_get C (Cn := RX7) (T := TX7) (N := 8) (by decide +kernel) g1 rfl 1 (by decide) (C.1.2.2.2.2 (.fieldLink RX7 15 "OssuaryVault$Reading" "stream" "LOssuaryVault$Bytes;") (by decide +kernel)) (fun _ h => h) rfl dX7_takeIndexed_6 ?_
  refine xr_iload_n C dX7_takeIndexed_9 rfl ?_
  refine xr_iconst (n := 2) C dX7_takeIndexed_10 (by decide +kernel) ?_
  refine xr_iadd C dX7_takeIndexed_11 ?_
  refine xr_callV1i C (c_word l G _ _ _ _ M g2 (rdTail S + 2) (by omega)) (cwV 1 C.1.2.2.2.2 gX7_takeIndexed_X0_word rfl rfl rfl (by decide +kernel) ⟨Nat.le_of_ble_eq_true rfl, Nat.le_of_ble_eq_true rfl⟩) g2.1 rfl (Nat.le_of_ble_eq_true rfl) ⟨by dsimp only; omega, by dsimp only; omega⟩ dX7_takeIndexed_12 (fun r2 M9 hp9 => ?_)
  obtain ⟨rfl, rfl⟩ := hp9
  generalize hpv : mq_wd S (rdTail S + 2) = pv at b2 ⊢
  refine xr_istore_n C dX7_takeIndexed_15 (by decide) rfl ?_
  refine xr_aload_n C dX7_takeIndexed_16 rfl ?_
  refine xr_aload_n C dX7_takeIndexed_17 rfl ?_
  refine xr_get C (Cn := RX7) (T := TX7) (N := 8) (by decide +kernel) g1 rfl 1 (by decide) (C.1.2.2.2.2 (.fieldLink RX7 15 "OssuaryVault$Reading" "stream" "LOssuaryVault$Bytes;") (by decide +kernel)) (fun _ h => h) rfl dX7_takeIndexed_18 ?_
  refine xr_iload_n C dX7_takeIndexed_21 rfl ?_
  refine xr_iconst (n := 1) C dX7_takeIndexed_22 (by decide +kernel) ?_
  refine xr_iadd C dX7_takeIndexed_23 ?_
  refine xr_callV1i C (c_at l G _ _ _ _ M g2 (rdTail S + 1) (by omega)) (cwV 1 C.1.2.2.2.2 gX7_takeIndexed_X0_at rfl rfl rfl (by decide +kernel) ⟨Nat.le_of_ble_eq_true rfl, Nat.le_of_ble_eq_true rfl⟩) g2.1 rfl (Nat.le_of_ble_eq_true rfl) ⟨by dsimp only; omega, by dsimp only; omega⟩ dX7_takeIndexed_24 (fun r3 M9 hp9 => ?_)
  obtain ⟨rfl, rfl⟩ := hp9
  generalize hcv : mq_gd S (rdTail S + 1) = cv at b1 ⊢
  refine xr_aload_n C dX7_takeIndexed_27 rfl ?_
  refine xr_get C (Cn := RX7) (T := TX7) (N := 8) (by decide +kernel) g1 rfl 2 (by decide) (C.1.2.2.2.2 (.fieldLink RX7 23 "OssuaryVault$Reading" "entries" "[LOssuaryVault$FoundFile;") (by decide +kernel)) (fun _ h => h) rfl dX7_takeIndexed_28 ?_
  refine xr_alen C g3 mq_tG dX7_takeIndexed_31 ?_
  refine xr_min C (by first | omega | (dsimp only; omega)) (by first | omega | (dsimp only; omega)) (C.1.2.2.2.2 (.methodLink RX7 89 Lib.Math.min.name) (by decide +kernel)) (C.1.2.2.2.2 (.static Lib.Math.min.name) (by decide +kernel)) (C.1.2.2.2.2 (.initialized "java/lang/Math") (by decide +kernel)) (C.1.2.2.2.2 (.code Lib.Math.min.name Lib.Math.min.code 2 (some .int)) (by decide +kernel)) (Nat.le_of_ble_eq_true rfl) (Nat.le_of_ble_eq_true rfl) (by dsimp only; omega) (by dsimp only; omega) dX7_takeIndexed_32 ?_
  rw [show min (cv : Int) (((40, (Sum.inr (Sum.inr (Sum.inr (Sum.inr ff))) : _)) : vp_A).1 : Int) = ((min cv 40 : Nat) : Int) by show min (cv : Int) (40 : Int) = _; omega]
  have hmn : min cv 40 ≤ 40 := Nat.min_le_right _ _
  generalize hnv : min cv 40 = nv at hmn ⊢
  refine xr_put C (Cn := RX7) (T := TX7) (N := 8) (by decide +kernel) g1 rfl 7 (by decide) tyX7 tyX7_ok nmX7 (C.1.2.2.2.2 (.fieldLink RX7 32 "OssuaryVault$Reading" "count" "I") (by decide +kernel)) (fun _ h => h) rfl (tyX7_ok 7 (by decide)) rfl rfl (Nat.le_of_ble_eq_true rfl) dX7_takeIndexed_35 ?_
  refine mq_ren (fun M4 hM4 => ?_)
  have F1 : mq_FR La [20] M M4 := mq_F.up hM4 (by simp)
  have hS1 : rdI G M4 La op da pa ix nv S fc fk fp ft fg := hS0.hd hI F1 (by rw [hM4, mq_up_s]; rfl)
  refine xr_iconst (n := 0) C dX7_takeIndexed_38 (by decide +kernel) ?_
  refine xr_istore_n C dX7_takeIndexed_39 (by decide) rfl ?_
  refine mq_loop (σ := Nat × mq_M × (Nat → Int) × (Nat → Int) × (Nat → Int)) (fun y => y.1 ≤ nv ∧ rdR y.2.2.1 y.2.2.2.1 y.2.2.2.2 ∧ rdI G y.2.1 La op da pa ix nv S fc y.2.2.1 y.2.2.2.1 y.2.2.2.2 fg ∧ (∀ k, k < y.1 → y.2.2.1 k = (mq_wd S ((pv : Int) + (k : Int) * 6) : Int) ∧ y.2.2.2.1 k = (mq_wd S ((pv : Int) + (k : Int) * 6 + 2) : Int) ∧ y.2.2.2.2 k = (mq_wd S ((pv : Int) + (k : Int) * 6 + 4) : Int)) ∧ mq_FR La mq_TR M y.2.1) (fun y => nv - y.1) (fun y => y.2.1) (fun y => [some (.ref (La 20)), some (.int (zI (rdTail S))), some (.int (zI (pv : Int))), some (.int (zI (y.1 : Int))), none, none]) (fun y => []) ?_ (0, M4, fk, fp, ft) ⟨Nat.zero_le _, hR, hS1, (fun k hk => by omega), F1.sub (fun r hr => mq_TRm.mpr (by simp at hr; omega))⟩
  rintro ⟨i, M3, k3, p3, t3⟩ ⟨hi, hR3, hS3, hv3, hF3⟩ ih
  dsimp only at hi hR3 hS3 hv3 hF3 ih ⊢
  have hS3c := hS3
  obtain ⟨j1, j2, ⟨ff3, j3, j4⟩, j5⟩ := hS3
  refine xr_iload_n C dX7_takeIndexed_40 rfl ?_
  refine xr_aload_n C dX7_takeIndexed_41 rfl ?_
  refine xr_get C (Cn := RX7) (T := TX7) (N := 8) (by decide +kernel) j1 rfl 7 (by decide) (C.1.2.2.2.2 (.fieldLink RX7 32 "OssuaryVault$Reading" "count" "I") (by decide +kernel)) (fun _ h => h) rfl dX7_takeIndexed_42 ?_
  refine xr_icmp_ge C dX7_takeIndexed_45 rfl (by first | omega | (dsimp only; omega)) (by first | omega | (dsimp only; omega)) (fun hq5 => ?_) (fun hq5 => ?_)
  · exact xr_vret C hr hlk ⟨rfl, ⟨k3, p3, t3, hR3, hS3c, fun k hk => hv3 k (by omega)⟩, hF3⟩ (by omega) (by omega) dX7_takeIndexed_120
  · have hin : i < nv := by omega
    have hi40 : i < 40 := by omega
    have w0 := mq_wd_lt hSb ((pv : Int) + (i : Int) * 6)
    have w2 := mq_wd_lt hSb ((pv : Int) + (i : Int) * 6 + 2)
    have w4 := mq_wd_lt hSb ((pv : Int) + (i : Int) * 6 + 4)
    have hX := j5 i hi40
    have hT9 : ∀ r ∈ [155 + 3 * i], r < 275 := by intro r hr; simp at hr; omega
    refine xr_iload_n C dX7_takeIndexed_48 rfl ?_
    refine xr_iload_n C dX7_takeIndexed_49 rfl ?_
    refine xr_bipush (n := 6) C dX7_takeIndexed_50 (by decide +kernel) ?_
    refine xr_imul C dX7_takeIndexed_52 ?_
    refine xr_iadd C dX7_takeIndexed_53 ?_
    refine xr_istore C dX7_takeIndexed_54 (by decide) rfl ?_
    refine xr_aload_n C dX7_takeIndexed_56 rfl ?_
    refine xr_iload_n C dX7_takeIndexed_57 rfl ?_
    refine xr_callV1a C (c_rdAt l G La hI _ _ _ _ _ _ _ _ _ _ _ M3 hS3c i hin hi40 hmn) (cwV 1 C.1.2.2.2.2 gX7_takeIndexed_X7_at rfl rfl rfl (by decide +kernel) ⟨Nat.le_of_ble_eq_true rfl, Nat.le_of_ble_eq_true rfl⟩) j1 rfl (Nat.le_of_ble_eq_true rfl) ⟨by dsimp only; omega, by dsimp only; omega⟩ dX7_takeIndexed_58 (fun r9 M9 hp9 => ?_)
    obtain ⟨rfl, rfl⟩ := hp9
    refine xr_astore C dX7_takeIndexed_61 (by decide) rfl ?_
    refine xr_aload C dX7_takeIndexed_63 rfl ?_
    refine xr_ifnull_s C dX7_takeIndexed_65 ?_
    refine xr_aload C dX7_takeIndexed_68 rfl ?_
    refine xr_aload_n C dX7_takeIndexed_70 rfl ?_
    refine xr_get C (Cn := RX7) (T := TX7) (N := 8) (by decide +kernel) j1 rfl 1 (by decide) (C.1.2.2.2.2 (.fieldLink RX7 15 "OssuaryVault$Reading" "stream" "LOssuaryVault$Bytes;") (by decide +kernel)) (fun _ h => h) rfl dX7_takeIndexed_71 ?_
    refine xr_iload C dX7_takeIndexed_74 rfl ?_
    refine xr_callV1i C (c_word l G _ _ _ _ M3 j2 ((pv : Int) + (i : Int) * 6) (by omega)) (cwV 1 C.1.2.2.2.2 gX7_takeIndexed_X0_word rfl rfl rfl (by decide +kernel) ⟨Nat.le_of_ble_eq_true rfl, Nat.le_of_ble_eq_true rfl⟩) j2.1 rfl (Nat.le_of_ble_eq_true rfl) ⟨by dsimp only; omega, by dsimp only; omega⟩ dX7_takeIndexed_76 (fun r6 M9 hp9 => ?_)
    obtain ⟨rfl, rfl⟩ := hp9
    refine xr_putN C (Cn := RX5) (T := TX5) (N := 5) (by decide +kernel) hX.1 rfl 1 (by decide) tyX5 tyX5_ok nmX5 (va_Nw.use rfl (C.2.2.1 ("OssuaryVault$Reading", 95, "OssuaryVault$FoundFile", "key", "I", "OssuaryVault") (by decide +kernel))) (fun _ h => h) rfl (tyX5_ok 1 (by decide)) rfl rfl (Nat.le_of_ble_eq_true rfl) dX7_takeIndexed_79 ?_
    refine mq_ren (fun M7 hM7 => ?_)
    have E1 : mq_FR La [155 + 3 * i] M3 M7 := mq_F.up hM7 (by simp)
    have s1 := j2.fr E1 (mq_ni hI (by decide) hT9 (by simp; omega)) (mq_ni hI (by decide) hT9 (by simp; omega))
    have x1 : M7 (La (155 + 3 * i)) = some (.inr (5, [.ref (La (156 + 3 * i)), .int (zI (mq_wd S ((pv : Int) + (i : Int) * 6) : Int)), .int (zI (p3 i)), .int (zI (t3 i)), .int (zI (mq_b (fg i)))])) := by rw [hM7, mq_up_s]; rfl
    have h1 := (E1 (La 20) (mq_ni hI (by decide) hT9 (by simp; omega))).trans j1
    refine xr_aload C dX7_takeIndexed_82 rfl ?_
    refine xr_aload_n C dX7_takeIndexed_84 rfl ?_
    refine xr_get C (Cn := RX7) (T := TX7) (N := 8) (by decide +kernel) h1 rfl 1 (by decide) (C.1.2.2.2.2 (.fieldLink RX7 15 "OssuaryVault$Reading" "stream" "LOssuaryVault$Bytes;") (by decide +kernel)) (fun _ h => h) rfl dX7_takeIndexed_85 ?_
    refine xr_iload C dX7_takeIndexed_88 rfl ?_
    refine xr_iconst (n := 2) C dX7_takeIndexed_90 (by decide +kernel) ?_
    refine xr_iadd C dX7_takeIndexed_91 ?_
    refine xr_callV1i C (c_word l G _ _ _ _ M7 s1 ((pv : Int) + (i : Int) * 6 + 2) (by omega)) (cwV 1 C.1.2.2.2.2 gX7_takeIndexed_X0_word rfl rfl rfl (by decide +kernel) ⟨Nat.le_of_ble_eq_true rfl, Nat.le_of_ble_eq_true rfl⟩) s1.1 rfl (Nat.le_of_ble_eq_true rfl) ⟨by dsimp only; omega, by dsimp only; omega⟩ dX7_takeIndexed_92 (fun r8 M9 hp9 => ?_)
    obtain ⟨rfl, rfl⟩ := hp9
    refine xr_putN C (Cn := RX5) (T := TX5) (N := 5) (by decide +kernel) x1 rfl 2 (by decide) tyX5 tyX5_ok nmX5 (va_Nw.use rfl (C.2.2.1 ("OssuaryVault$Reading", 98, "OssuaryVault$FoundFile", "place", "I", "OssuaryVault") (by decide +kernel))) (fun _ h => h) rfl (tyX5_ok 2 (by decide)) rfl rfl (Nat.le_of_ble_eq_true rfl) dX7_takeIndexed_95 ?_
    refine mq_ren (fun M9 hM9 => ?_)
    have E2 : mq_FR La [155 + 3 * i] M7 M9 := mq_F.up hM9 (by simp)
    have s2 := s1.fr E2 (mq_ni hI (by decide) hT9 (by simp; omega)) (mq_ni hI (by decide) hT9 (by simp; omega))
    have x2 : M9 (La (155 + 3 * i)) = some (.inr (5, [.ref (La (156 + 3 * i)), .int (zI (mq_wd S ((pv : Int) + (i : Int) * 6) : Int)), .int (zI (mq_wd S ((pv : Int) + (i : Int) * 6 + 2) : Int)), .int (zI (t3 i)), .int (zI (mq_b (fg i)))])) := by rw [hM9, mq_up_s]; rfl
    have h2 := (E2 (La 20) (mq_ni hI (by decide) hT9 (by simp; omega))).trans h1
    refine xr_aload C dX7_takeIndexed_98 rfl ?_
    refine xr_aload_n C dX7_takeIndexed_100 rfl ?_
    refine xr_get C (Cn := RX7) (T := TX7) (N := 8) (by decide +kernel) h2 rfl 1 (by decide) (C.1.2.2.2.2 (.fieldLink RX7 15 "OssuaryVault$Reading" "stream" "LOssuaryVault$Bytes;") (by decide +kernel)) (fun _ h => h) rfl dX7_takeIndexed_101 ?_
    refine xr_iload C dX7_takeIndexed_104 rfl ?_
    refine xr_iconst (n := 4) C dX7_takeIndexed_106 (by decide +kernel) ?_
    refine xr_iadd C dX7_takeIndexed_107 ?_
    refine xr_callV1i C (c_word l G _ _ _ _ M9 s2 ((pv : Int) + (i : Int) * 6 + 4) (by omega)) (cwV 1 C.1.2.2.2.2 gX7_takeIndexed_X0_word rfl rfl rfl (by decide +kernel) ⟨Nat.le_of_ble_eq_true rfl, Nat.le_of_ble_eq_true rfl⟩) s2.1 rfl (Nat.le_of_ble_eq_true rfl) ⟨by dsimp only; omega, by dsimp only; omega⟩ dX7_takeIndexed_108 (fun r10 M9 hp9 => ?_)
    obtain ⟨rfl, rfl⟩ := hp9
    refine xr_putN C (Cn := RX5) (T := TX5) (N := 5) (by decide +kernel) x2 rfl 3 (by decide) tyX5 tyX5_ok nmX5 (va_Nw.use rfl (C.2.2.1 ("OssuaryVault$Reading", 101, "OssuaryVault$FoundFile", "lengthTold", "I", "OssuaryVault") (by decide +kernel))) (fun _ h => h) rfl (tyX5_ok 3 (by decide)) rfl rfl (Nat.le_of_ble_eq_true rfl) dX7_takeIndexed_111 ?_
    refine mq_ren (fun M11 hM11 => ?_)
    have E3 : mq_FR La [155 + 3 * i] M9 M11 := mq_F.up hM11 (by simp)
    have s3 := s2.fr E3 (mq_ni hI (by decide) hT9 (by simp; omega)) (mq_ni hI (by decide) hT9 (by simp; omega))
    have x3 : M11 (La (155 + 3 * i)) = some (.inr (5, [.ref (La (156 + 3 * i)), .int (zI (mq_wd S ((pv : Int) + (i : Int) * 6) : Int)), .int (zI (mq_wd S ((pv : Int) + (i : Int) * 6 + 2) : Int)), .int (zI (mq_wd S ((pv : Int) + (i : Int) * 6 + 4) : Int)), .int (zI (mq_b (fg i)))])) := by rw [hM11, mq_up_s]; rfl
    have h3 := (E3 (La 20) (mq_ni hI (by decide) hT9 (by simp; omega))).trans h2
    have E : mq_FR La [155 + 3 * i] M3 M11 := (E1.tr E2).tr E3
    have hVn : ffV G M11 La i (fc i) (mq_wd S ((pv : Int) + (i : Int) * 6) : Int) (mq_wd S ((pv : Int) + (i : Int) * 6 + 2) : Int) (mq_wd S ((pv : Int) + (i : Int) * 6 + 4) : Int) (fg i) := ⟨x3, hX.2.fr E (mq_ni hI (by omega) hT9 (by simp)) (mq_ni hI (by omega) hT9 (by simp))⟩
    have hSn := hS3c.ff hI hi40 (E.sub (by simp)) hVn
    rw [show fnU fc i (fc i) = fc from by funext j; unfold fnU; split <;> simp_all, show fnU fg i (fg i) = fg from by funext j; unfold fnU; split <;> simp_all] at hSn
    have hRn := hR3.up (k := i) (show -10 ≤ (mq_wd S ((pv : Int) + (i : Int) * 6) : Int) ∧ _ < _ from ⟨by omega, by omega⟩) (show -10 ≤ (mq_wd S ((pv : Int) + (i : Int) * 6 + 2) : Int) ∧ _ < _ from ⟨by omega, by omega⟩) (show -10 ≤ (mq_wd S ((pv : Int) + (i : Int) * 6 + 4) : Int) ∧ _ < _ from ⟨by omega, by omega⟩)
    have hvn : ∀ k, k < i + 1 → fnU k3 i (mq_wd S ((pv : Int) + (i : Int) * 6) : Int) k = (mq_wd S ((pv : Int) + (k : Int) * 6) : Int) ∧ fnU p3 i (mq_wd S ((pv : Int) + (i : Int) * 6 + 2) : Int) k = (mq_wd S ((pv : Int) + (k : Int) * 6 + 2) : Int) ∧ fnU t3 i (mq_wd S ((pv : Int) + (i : Int) * 6 + 4) : Int) k = (mq_wd S ((pv : Int) + (k : Int) * 6 + 4) : Int) := by
      intro k hk
      by_cases hki : k = i
      · subst hki
        exact ⟨fnU_s, fnU_s, fnU_s⟩
      · rw [fnU_n hki, fnU_n hki, fnU_n hki]
        exact hv3 k (by omega)
    refine xr_iinc C dX7_takeIndexed_114 rfl (by decide) rfl ?_
    refine xr_goto C dX7_takeIndexed_117 rfl ?_
    refine mq_drop 4 (mq_drop 5 ?_)
    exact ih (i + 1, M11, _, _, _) ⟨by dsimp only; omega, hRn, hSn, hvn, hF3.tr (E.sub (fun r hr => mq_TRm.mpr (by simp at hr; omega)))⟩ (by dsimp only; omega)
set_option maxHeartbeats 4000000 in
set_option maxRecDepth 100000 in
theorem c_lookForFiles (l : Launch) (G : mq_G) (La : Nat → Nat) (hI : mq_inj La) (op : Bool) (da pa : Int) (ix : Bool) (n : Nat) (hn0 : n = 0) (S : List Nat) (fc : Nat → List Nat) (fk fp ft : Nat → Int) (fg : Nat → Bool) (M : mq_M) (hS : rdI G M La op da pa ix n S fc fk fp ft fg) (hR : rdR fk fp ft) : mq_T l yX7_lookForFiles wsX7_lookForFiles { frames := 4, cells := 0, slots := 0, locals := 84 } G [.ref (La 20)] M (mq_pv (fun M2 => (∃ fk2 fp2 ft2 : Nat → Int, rdR fk2 fp2 ft2 ∧ rdI G M2 La op da pa ix (rdLkN S) S fc fk2 fp2 ft2 fg ∧ ∀ k, k < rdLkN S → fk2 k = (mq_wd S (rdLk S k + 2) : Int) ∧ fp2 k = rdLk S k ∧ ft2 k = -1) ∧ mq_FR La mq_TR M M2)) 0 0 := by
  refine mq_Met.of (cc := cX7_lookForFiles) (maxL := 3) (ret := none) (by decide) rfl (Nat.le_of_ble_eq_true rfl) rfl rfl ?_
  intro p_ e_ s_ m_ args_ below_ meth_ c_ z_ C hr hlk hname
  subst hn0
  have hSl : S.length ≤ 40700 := hS.2.1.2.2.1
  have hSb := hS.2.1.2.2.2.2.1
  refine xr_iconst (n := 0) C dX7_lookForFiles_0 (by decide +kernel) ?_
  refine xr_istore_n C dX7_lookForFiles_1 (by decide) rfl ?_
  refine mq_loop (σ := Nat × mq_M × (Nat → Int) × (Nat → Int) × (Nat → Int)) (fun y => y.1 ≤ 40 ∧ (∀ j, j < y.1 → rdLies S (rdLk S j) = true) ∧ rdR y.2.2.1 y.2.2.2.1 y.2.2.2.2 ∧ rdI G y.2.1 La op da pa ix y.1 S fc y.2.2.1 y.2.2.2.1 y.2.2.2.2 fg ∧ (∀ k, k < y.1 → y.2.2.1 k = (mq_wd S (rdLk S k + 2) : Int) ∧ y.2.2.2.1 k = rdLk S k ∧ y.2.2.2.2 k = -1) ∧ mq_FR La mq_TR M y.2.1) (fun y => 40 - y.1) (fun y => y.2.1) (fun y => [some (.ref (La 20)), some (.int (zI (rdLk S y.1))), none]) (fun y => []) ?_ (0, M, fk, fp, ft) ⟨Nat.zero_le _, (fun j hj => by omega), hR, hS, (fun k hk => by omega), mq_F.rf⟩
  rintro ⟨i, M3, k3, p3, t3⟩ ⟨hi, hl3, hR3, hS3, hv3, hF3⟩ ih
  dsimp only at hi hl3 hR3 hS3 hv3 hF3 ih ⊢
  have hrg := rdLk_rng hSb i hl3
  have hS3c := hS3
  obtain ⟨j1, j2, ⟨ff3, j3, j4⟩, j5⟩ := hS3
  refine xr_aload_n C dX7_lookForFiles_2 rfl ?_
  refine xr_get C (Cn := RX7) (T := TX7) (N := 8) (by decide +kernel) j1 rfl 7 (by decide) (C.1.2.2.2.2 (.fieldLink RX7 32 "OssuaryVault$Reading" "count" "I") (by decide +kernel)) (fun _ h => h) rfl dX7_lookForFiles_3 ?_
  refine xr_aload_n C dX7_lookForFiles_6 rfl ?_
  refine xr_get C (Cn := RX7) (T := TX7) (N := 8) (by decide +kernel) j1 rfl 2 (by decide) (C.1.2.2.2.2 (.fieldLink RX7 23 "OssuaryVault$Reading" "entries" "[LOssuaryVault$FoundFile;") (by decide +kernel)) (fun _ h => h) rfl dX7_lookForFiles_7 ?_
  refine xr_alen C j3 mq_tG dX7_lookForFiles_10 ?_
  refine xr_icmp_ge C dX7_lookForFiles_11 rfl (by first | omega | (dsimp only; omega)) (by first | omega | (dsimp only; omega)) (fun hq1 => ?_) (fun hq1 => ?_)
  · change (40 : Int) ≤ (i : Int) at hq1
    have hNe := rdLkN_of hi hl3 (by omega)
    exact xr_vret C hr hlk ⟨rfl, ⟨k3, p3, t3, hR3, by rw [hNe]; exact hS3c, by rw [hNe]; exact hv3⟩, hF3⟩ (by omega) (by omega) dX7_lookForFiles_75
  · change (i : Int) < (40 : Int) at hq1
    have hi40 : i < 40 := by omega
    refine xr_aload_n C dX7_lookForFiles_14 rfl ?_
    refine xr_iload_n C dX7_lookForFiles_15 rfl ?_
    refine xr_callV1i C (c_liesAt l G La hI op da pa ix i S fc k3 p3 t3 fg M3 hS3c (rdLk S i) (by omega)) (cwV 1 C.1.2.2.2.2 gX7_lookForFiles_X7_liesAt rfl rfl rfl (by decide +kernel) ⟨Nat.le_of_ble_eq_true rfl, Nat.le_of_ble_eq_true rfl⟩) j1 rfl (Nat.le_of_ble_eq_true rfl) ⟨by dsimp only; omega, by dsimp only; omega⟩ dX7_lookForFiles_16 (fun r2 M9 hp9 => ?_)
    obtain ⟨rfl, rfl⟩ := hp9
    cases hli : rdLies S (rdLk S i)
    · refine xr_if_eq C dX7_lookForFiles_19 rfl (by decide) (fun _ => ?_) (fun hq => absurd hq (by decide))
      have hNe := rdLkN_of hi hl3 (fun _ => hli)
      exact xr_vret C hr hlk ⟨rfl, ⟨k3, p3, t3, hR3, by rw [hNe]; exact hS3c, by rw [hNe]; exact hv3⟩, hF3⟩ (by omega) (by omega) dX7_lookForFiles_75
    · refine xr_if_eq C dX7_lookForFiles_19 rfl (by decide) (fun hq => absurd hq (by decide)) (fun _ => ?_)
      have hlq := of_decide_eq_true hli
      have heq9 := rdEnd_rng hSb (rdLk S i)
      have w2 := mq_wd_lt hSb (rdLk S i + 2)
      have hX := j5 i hi40
      have hT9 : ∀ r ∈ [155 + 3 * i], r < 275 := by intro r hr; simp at hr; omega
      refine xr_aload_n C dX7_lookForFiles_22 rfl ?_
      refine xr_get C (Cn := RX7) (T := TX7) (N := 8) (by decide +kernel) j1 rfl 2 (by decide) (C.1.2.2.2.2 (.fieldLink RX7 23 "OssuaryVault$Reading" "entries" "[LOssuaryVault$FoundFile;") (by decide +kernel)) (fun _ h => h) rfl dX7_lookForFiles_23 ?_
      refine xr_aload_n C dX7_lookForFiles_26 rfl ?_
      refine xr_get C (Cn := RX7) (T := TX7) (N := 8) (by decide +kernel) j1 rfl 7 (by decide) (C.1.2.2.2.2 (.fieldLink RX7 32 "OssuaryVault$Reading" "count" "I") (by decide +kernel)) (fun _ h => h) rfl dX7_lookForFiles_27 ?_
      refine xr_aald C j3 mq_tG (by first | omega | (dsimp only; omega)) (by first | omega | (dsimp only; omega)) (by first | omega | (dsimp only; omega)) dX7_lookForFiles_30 ?_
      rw [Int.toNat_natCast, j4 i hi40]
      refine mq_rfs ?_
      refine xr_astore_n C dX7_lookForFiles_31 (by decide) rfl ?_
      refine xr_aload_n C dX7_lookForFiles_32 rfl ?_
      refine xr_aload_n C dX7_lookForFiles_33 rfl ?_
      refine xr_get C (Cn := RX7) (T := TX7) (N := 8) (by decide +kernel) j1 rfl 1 (by decide) (C.1.2.2.2.2 (.fieldLink RX7 15 "OssuaryVault$Reading" "stream" "LOssuaryVault$Bytes;") (by decide +kernel)) (fun _ h => h) rfl dX7_lookForFiles_34 ?_
      refine xr_iload_n C dX7_lookForFiles_37 rfl ?_
      refine xr_iconst (n := 2) C dX7_lookForFiles_38 (by decide +kernel) ?_
      refine xr_iadd C dX7_lookForFiles_39 ?_
      refine xr_callV1i C (c_word l G _ _ _ _ M3 j2 (rdLk S i + 2) (by omega)) (cwV 1 C.1.2.2.2.2 gX7_lookForFiles_X0_word rfl rfl rfl (by decide +kernel) ⟨Nat.le_of_ble_eq_true rfl, Nat.le_of_ble_eq_true rfl⟩) j2.1 rfl (Nat.le_of_ble_eq_true rfl) ⟨by dsimp only; omega, by dsimp only; omega⟩ dX7_lookForFiles_40 (fun r3 M9 hp9 => ?_)
      obtain ⟨rfl, rfl⟩ := hp9
      refine xr_putN C (Cn := RX5) (T := TX5) (N := 5) (by decide +kernel) hX.1 rfl 1 (by decide) tyX5 tyX5_ok nmX5 (va_Nw.use rfl (C.2.2.1 ("OssuaryVault$Reading", 95, "OssuaryVault$FoundFile", "key", "I", "OssuaryVault") (by decide +kernel))) (fun _ h => h) rfl (tyX5_ok 1 (by decide)) rfl rfl (Nat.le_of_ble_eq_true rfl) dX7_lookForFiles_43 ?_
      refine mq_ren (fun M4 hM4 => ?_)
      have E1 : mq_FR La [155 + 3 * i] M3 M4 := mq_F.up hM4 (by simp)
      have s1 := j2.fr E1 (mq_ni hI (by decide) hT9 (by simp; omega)) (mq_ni hI (by decide) hT9 (by simp; omega))
      have x1 : M4 (La (155 + 3 * i)) = some (.inr (5, [.ref (La (156 + 3 * i)), .int (zI (mq_wd S (rdLk S i + 2) : Int)), .int (zI (p3 i)), .int (zI (t3 i)), .int (zI (mq_b (fg i)))])) := by rw [hM4, mq_up_s]; rfl
      have h1 := (E1 (La 20) (mq_ni hI (by decide) hT9 (by simp; omega))).trans j1
      refine xr_aload_n C dX7_lookForFiles_46 rfl ?_
      refine xr_iload_n C dX7_lookForFiles_47 rfl ?_
      refine xr_putN C (Cn := RX5) (T := TX5) (N := 5) (by decide +kernel) x1 rfl 2 (by decide) tyX5 tyX5_ok nmX5 (va_Nw.use rfl (C.2.2.1 ("OssuaryVault$Reading", 98, "OssuaryVault$FoundFile", "place", "I", "OssuaryVault") (by decide +kernel))) (fun _ h => h) rfl (tyX5_ok 2 (by decide)) rfl rfl (Nat.le_of_ble_eq_true rfl) dX7_lookForFiles_48 ?_
      refine mq_ren (fun M5 hM5 => ?_)
      have E2 : mq_FR La [155 + 3 * i] M4 M5 := mq_F.up hM5 (by simp)
      have s2 := s1.fr E2 (mq_ni hI (by decide) hT9 (by simp; omega)) (mq_ni hI (by decide) hT9 (by simp; omega))
      have x2 : M5 (La (155 + 3 * i)) = some (.inr (5, [.ref (La (156 + 3 * i)), .int (zI (mq_wd S (rdLk S i + 2) : Int)), .int (zI (rdLk S i)), .int (zI (t3 i)), .int (zI (mq_b (fg i)))])) := by rw [hM5, mq_up_s]; rfl
      have h2 := (E2 (La 20) (mq_ni hI (by decide) hT9 (by simp; omega))).trans h1
      refine xr_aload_n C dX7_lookForFiles_51 rfl ?_
      refine xr_iconst (n := (-1)) C dX7_lookForFiles_52 (by decide +kernel) ?_
      refine xr_putN C (Cn := RX5) (T := TX5) (N := 5) (by decide +kernel) x2 rfl 3 (by decide) tyX5 tyX5_ok nmX5 (va_Nw.use rfl (C.2.2.1 ("OssuaryVault$Reading", 101, "OssuaryVault$FoundFile", "lengthTold", "I", "OssuaryVault") (by decide +kernel))) (fun _ h => h) rfl (tyX5_ok 3 (by decide)) rfl rfl (Nat.le_of_ble_eq_true rfl) dX7_lookForFiles_53 ?_
      refine mq_ren (fun M6 hM6 => ?_)
      have E3 : mq_FR La [155 + 3 * i] M5 M6 := mq_F.up hM6 (by simp)
      have s3 := s2.fr E3 (mq_ni hI (by decide) hT9 (by simp; omega)) (mq_ni hI (by decide) hT9 (by simp; omega))
      have x3 : M6 (La (155 + 3 * i)) = some (.inr (5, [.ref (La (156 + 3 * i)), .int (zI (mq_wd S (rdLk S i + 2) : Int)), .int (zI (rdLk S i)), .int (zI (-1)), .int (zI (mq_b (fg i)))])) := by rw [hM6, mq_up_s]; rfl
      have h3 := (E3 (La 20) (mq_ni hI (by decide) hT9 (by simp; omega))).trans h2
      have E : mq_FR La [155 + 3 * i] M3 M6 := (E1.tr E2).tr E3
      have hVn : ffV G M6 La i (fc i) (mq_wd S (rdLk S i + 2) : Int) (rdLk S i) (-1) (fg i) := ⟨x3, hX.2.fr E (mq_ni hI (by omega) hT9 (by simp)) (mq_ni hI (by omega) hT9 (by simp))⟩
      have hSn := hS3c.ff hI hi40 (E.sub (by simp)) hVn
      rw [show fnU fc i (fc i) = fc from by funext j; unfold fnU; split <;> simp_all, show fnU fg i (fg i) = fg from by funext j; unfold fnU; split <;> simp_all] at hSn
      have hRn := hR3.up (k := i) (show -10 ≤ (mq_wd S (rdLk S i + 2) : Int) ∧ _ < _ from ⟨by omega, by omega⟩) (show -10 ≤ rdLk S i ∧ _ < _ from ⟨by omega, by omega⟩) (show -10 ≤ (-1 : Int) ∧ _ < _ from ⟨by decide, by decide⟩)
      have hvn : ∀ k, k < i + 1 → fnU k3 i (mq_wd S (rdLk S i + 2) : Int) k = (mq_wd S (rdLk S k + 2) : Int) ∧ fnU p3 i (rdLk S i) k = rdLk S k ∧ fnU t3 i (-1) k = -1 := by
        intro k hk
        by_cases hki : k = i
        · subst hki
          exact ⟨fnU_s, fnU_s, fnU_s⟩
        · rw [fnU_n hki, fnU_n hki, fnU_n hki]
          exact hv3 k (by omega)
      have hln : ∀ j, j < i + 1 → rdLies S (rdLk S j) = true := by
        intro j hj
        by_cases hji : j = i
        · rw [hji]; exact hli
        · exact hl3 j (by omega)
      refine xr_aload_n C dX7_lookForFiles_56 rfl ?_
      refine xr_iload_n C dX7_lookForFiles_57 rfl ?_
      refine xr_callV1i C (c_endOfFile l G La hI op da pa ix i S fc _ _ _ fg M6 hSn (rdLk S i) (by omega)) (cwV 1 C.1.2.2.2.2 gX7_lookForFiles_X7_endOfFile rfl rfl rfl (by decide +kernel) ⟨Nat.le_of_ble_eq_true rfl, Nat.le_of_ble_eq_true rfl⟩) h3 rfl (Nat.le_of_ble_eq_true rfl) ⟨by dsimp only; omega, by dsimp only; omega⟩ dX7_lookForFiles_58 (fun r7 M9 hp9 => ?_)
      obtain ⟨rfl, rfl⟩ := hp9
      refine xr_istore_n C dX7_lookForFiles_61 (by decide) rfl ?_
      refine xr_aload_n C dX7_lookForFiles_62 rfl ?_
      refine xr_dup C dX7_lookForFiles_63 rfl ?_
      refine xr_get C (Cn := RX7) (T := TX7) (N := 8) (by decide +kernel) hSn.1 rfl 7 (by decide) (C.1.2.2.2.2 (.fieldLink RX7 32 "OssuaryVault$Reading" "count" "I") (by decide +kernel)) (fun _ h => h) rfl dX7_lookForFiles_64 ?_
      refine xr_iconst (n := 1) C dX7_lookForFiles_67 (by decide +kernel) ?_
      refine xr_iadd C dX7_lookForFiles_68 ?_
      refine xr_put C (Cn := RX7) (T := TX7) (N := 8) (by decide +kernel) hSn.1 rfl 7 (by decide) tyX7 tyX7_ok nmX7 (C.1.2.2.2.2 (.fieldLink RX7 32 "OssuaryVault$Reading" "count" "I") (by decide +kernel)) (fun _ h => h) rfl (tyX7_ok 7 (by decide)) rfl rfl (Nat.le_of_ble_eq_true rfl) dX7_lookForFiles_69 ?_
      refine mq_ren (fun M8 hM8 => ?_)
      have E4 : mq_FR La [20] M6 M8 := mq_F.up hM8 (by simp)
      have hSm := hSn.hd hI E4 (op2 := op) (da2 := da) (pa2 := pa) (ix2 := ix) (n2 := i + 1) (by rw [hM8, mq_up_s]; rfl)
      refine xr_goto C dX7_lookForFiles_72 rfl ?_
      refine mq_drop 2 ?_
      exact ih (i + 1, M8, _, _, _) ⟨by dsimp only; omega, hln, hRn, hSm, hvn, (hF3.tr (E.sub (fun r hr => mq_TRm.mpr (by simp at hr; omega)))).tr (E4.sub (fun r hr => mq_TRm.mpr (by simp at hr; omega)))⟩ (by dsimp only; omega)
