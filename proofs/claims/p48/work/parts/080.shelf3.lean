set_option maxHeartbeats 4000000 in
set_option maxRecDepth 100000 in
theorem c_seeWhole (l : Launch) (G : mq_G) (La : Nat → Nat) (hI : mq_inj La) (pv : Nat → Nat) (h : Nat → Bool) (d : Nat → List Nat) (vd : Nat → Int) (ld mb : Int) (nu ho : Nat → Int) (M : mq_M) (hP : shP pv h d vd) (hS : shI G M La pv h d vd ld mb nu ho) (i : Nat) (hi : i < 16) (hw : vWhl (h i) (d i) = true) (hr9 : svR (ld, mb, nu, ho) i) : mq_T l yX9_seeWhole wsX9_seeWhole { frames := 4, cells := 0, slots := 0, locals := 83 } G [.ref (La 12), .int (zI (i : Int))] M (mq_pv (fun M2 => shI G M2 La pv h d vd (svSee d i (ld, mb, nu, ho)).1 (svSee d i (ld, mb, nu, ho)).2.1 (svSee d i (ld, mb, nu, ho)).2.2.1 (svSee d i (ld, mb, nu, ho)).2.2.2 ∧ mq_FR La [12, 14, 15] M M2)) 0 0 := by
  refine mq_Met.of (cc := cX9_seeWhole) (maxL := 5) (ret := none) (by decide) rfl (Nat.le_of_ble_eq_true rfl) rfl rfl ?_
  intro p_ e_ s_ m_ args_ below_ meth_ c_ z_ C hr hlk hname
  obtain ⟨⟨r1, r2⟩, ⟨r3, r4⟩, r5, r6⟩ := hr9
  dsimp only at r1 r2 r3 r4 r5 r6
  have hnum := (vWhl_num hw).2.1
  have hS0 := hS
  obtain ⟨g1, ⟨fp, g2, g3⟩, ⟨fn, g4, g5⟩, ⟨fh, g6, g7⟩, g8⟩ := hS
  refine xr_aload_n C dX9_seeWhole_0 rfl ?_
  refine xr_get C (Cn := RX9) (T := TX9) (N := 7) (by decide +kernel) g1 rfl 5 (by decide) (C.1.2.2.2.2 (.fieldLink RX9 39 "OssuaryVault$Shelf" "leaderPlace" "I") (by decide +kernel)) (fun _ h => h) rfl dX9_seeWhole_1 ?_
  refine xr_if_ge C dX9_seeWhole_4 rfl (by first | omega | (dsimp only; omega)) (fun hq1 => ?_) (fun hq1 => ?_)
  · obtain ⟨k, hk9⟩ := Int.eq_ofNat_of_zero_le hq1
    change ld = (k : Int) at hk9
    subst hk9
    have hkk : (if (k : Int) < 0 then (i : Int) else (k : Int)) = (k : Int) := if_neg (by omega)
    obtain ⟨j1, ⟨fp9, j2, j3⟩, ⟨fn9, j4, j5⟩, ⟨fh9, j6, j7⟩, j8⟩ := id hS0
    refine xr_aload_n C dX9_seeWhole_12 rfl ?_
    refine xr_aload_n C dX9_seeWhole_13 rfl ?_
    refine xr_get C (Cn := RX9) (T := TX9) (N := 7) (by decide +kernel) j1 rfl 5 (by decide) (C.1.2.2.2.2 (.fieldLink RX9 39 "OssuaryVault$Shelf" "leaderPlace" "I") (by decide +kernel)) (fun _ h => h) rfl dX9_seeWhole_14 ?_
    refine xr_callV1a C (c_shAt l G La hI pv h d vd _ mb nu ho M hP hS0 k (by omega)) (cwV 1 C.1.2.2.2.2 gX9_seeWhole_X9_at rfl rfl rfl (by decide +kernel) ⟨Nat.le_of_ble_eq_true rfl, Nat.le_of_ble_eq_true rfl⟩) j1 rfl (Nat.le_of_ble_eq_true rfl) ⟨by dsimp only; omega, by dsimp only; omega⟩ dX9_seeWhole_17 (fun r9 M9 hp9 => ?_)
    obtain ⟨rfl, rfl⟩ := hp9
    refine xr_astore_n C dX9_seeWhole_20 (by decide) rfl ?_
    refine xr_aload_n C dX9_seeWhole_21 rfl ?_
    refine xr_iload_n C dX9_seeWhole_22 rfl ?_
    refine xr_callV1a C (c_shAt l G La hI pv h d vd _ mb nu ho M hP hS0 i hi) (cwV 1 C.1.2.2.2.2 gX9_seeWhole_X9_at rfl rfl rfl (by decide +kernel) ⟨Nat.le_of_ble_eq_true rfl, Nat.le_of_ble_eq_true rfl⟩) j1 rfl (Nat.le_of_ble_eq_true rfl) ⟨by dsimp only; omega, by dsimp only; omega⟩ dX9_seeWhole_23 (fun r9 M9 hp9 => ?_)
    obtain ⟨rfl, rfl⟩ := hp9
    refine xr_astore_n C dX9_seeWhole_26 (by decide) rfl ?_
    refine xr_aload_n C dX9_seeWhole_27 rfl ?_
    refine xr_ifnull_s C dX9_seeWhole_28 ?_
    refine xr_aload_n C dX9_seeWhole_31 rfl ?_
    refine xr_ifnull_s C dX9_seeWhole_32 ?_
    refine xr_aload_n C dX9_seeWhole_35 rfl ?_
    refine xr_aload_n C dX9_seeWhole_36 rfl ?_
    refine xr_callV1i C (c_isOfOneWith l G _ _ _ _ _ _ _ M (j8 i (by omega)) _ _ _ _ _ _ (j8 k (by omega))) (cwV 1 C.1.2.2.2.2 gX9_seeWhole_X10_isOfOneWith rfl rfl rfl (by decide +kernel) ⟨Nat.le_of_ble_eq_true rfl, Nat.le_of_ble_eq_true rfl⟩) (j8 i (by omega)).1 rfl (Nat.le_of_ble_eq_true rfl) ⟨by dsimp only; omega, by dsimp only; omega⟩ dX9_seeWhole_37 (fun r2 M9 hp9 => ?_)
    obtain ⟨rfl, rfl⟩ := hp9
    cases hone : vOne (d i) (d k)
    · refine xr_if_ne C dX9_seeWhole_40 rfl (by decide) (fun hq => absurd hq (by decide)) (fun _ => ?_)
      rw [svSee_no (s := ((k : Int), mb, nu, ho)) hkk (by rw [hone]; simp)]
      exact xr_vret C hr hlk ⟨rfl, hS0, mq_F.rf⟩ (by omega) (by omega) dX9_seeWhole_43
    · refine xr_if_ne C dX9_seeWhole_40 rfl (by decide) (fun _ => ?_) (fun hq => absurd hq (by decide))
      refine xr_aload_n C dX9_seeWhole_44 rfl ?_
      refine xr_callV0i C (c_number l G _ _ _ _ _ _ _ M (j8 i (by omega))) (cwV 0 C.1.2.2.2.2 gX9_seeWhole_X10_number rfl rfl rfl (by decide +kernel) ⟨Nat.le_of_ble_eq_true rfl, Nat.le_of_ble_eq_true rfl⟩) (j8 i (by omega)).1 rfl (Nat.le_of_ble_eq_true rfl) ⟨by dsimp only; omega, by dsimp only; omega⟩ dX9_seeWhole_45 (fun r3 M9 hp9 => ?_)
      obtain ⟨rfl, rfl⟩ := hp9
      refine xr_istore C dX9_seeWhole_48 (by decide) rfl ?_
      refine xr_iload_n C dX9_seeWhole_50 rfl ?_
      refine xr_aload_n C dX9_seeWhole_51 rfl ?_
      refine xr_get C (Cn := RX9) (T := TX9) (N := 7) (by decide +kernel) j1 rfl 2 (by decide) (C.1.2.2.2.2 (.fieldLink RX9 17 "OssuaryVault$Shelf" "numbers" "[I") (by decide +kernel)) (fun _ h => h) rfl dX9_seeWhole_52 ?_
      refine xr_alen C j4 mq_tI dX9_seeWhole_55 ?_
      refine xr_icmp_ge C dX9_seeWhole_56 rfl (by first | omega | (dsimp only; omega)) (by first | omega | (dsimp only; omega)) (fun hq => absurd hq (by dsimp only; omega)) (fun _ => ?_)
      refine xr_iload C dX9_seeWhole_59 rfl ?_
      refine xr_aload_n C dX9_seeWhole_61 rfl ?_
      refine xr_get C (Cn := RX9) (T := TX9) (N := 7) (by decide +kernel) j1 rfl 3 (by decide) (C.1.2.2.2.2 (.fieldLink RX9 21 "OssuaryVault$Shelf" "holders" "[I") (by decide +kernel)) (fun _ h => h) rfl dX9_seeWhole_62 ?_
      refine xr_alen C j6 mq_tI dX9_seeWhole_65 ?_
      refine xr_icmp_ge C dX9_seeWhole_66 rfl (by first | omega | (dsimp only; omega)) (by first | omega | (dsimp only; omega)) (fun hq => absurd hq (by dsimp only; omega)) (fun _ => ?_)
      refine xr_aload_n C dX9_seeWhole_69 rfl ?_
      refine xr_get C (Cn := RX9) (T := TX9) (N := 7) (by decide +kernel) j1 rfl 3 (by decide) (C.1.2.2.2.2 (.fieldLink RX9 21 "OssuaryVault$Shelf" "holders" "[I") (by decide +kernel)) (fun _ h => h) rfl dX9_seeWhole_70 ?_
      refine xr_iload C dX9_seeWhole_73 rfl ?_
      refine xr_iald C j6 mq_tI (by first | omega | (dsimp only; omega)) (by first | omega | (dsimp only; omega)) (by first | omega | (dsimp only; omega)) dX9_seeWhole_75 ?_
      rw [Int.toNat_natCast, j7 _ hnum]
      have r6n := r6 (mq_gd (d i) 1)
      refine xr_if_ge C dX9_seeWhole_76 rfl (by first | omega | (dsimp only; omega)) (fun hq4 => ?_) (fun hq4 => ?_)
      · rw [svSee_no (s := ((k : Int), mb, nu, ho)) hkk (fun q => by have := q.2; dsimp only at this; omega)]
        exact xr_vret C hr hlk ⟨rfl, hS0, mq_F.rf⟩ (by omega) (by omega) dX9_seeWhole_105
      · refine xr_aload_n C dX9_seeWhole_79 rfl ?_
        refine xr_get C (Cn := RX9) (T := TX9) (N := 7) (by decide +kernel) j1 rfl 3 (by decide) (C.1.2.2.2.2 (.fieldLink RX9 21 "OssuaryVault$Shelf" "holders" "[I") (by decide +kernel)) (fun _ h => h) rfl dX9_seeWhole_80 ?_
        refine xr_iload C dX9_seeWhole_83 rfl ?_
        refine xr_iload_n C dX9_seeWhole_85 rfl ?_
        refine xr_iast C j6 mq_tI (by first | omega | (dsimp only; omega)) (by first | omega | (dsimp only; omega)) (by first | omega | (dsimp only; omega)) dX9_seeWhole_86 ?_
        refine mq_ren (fun M5 hM5 => ?_)
        rw [Int.toNat_natCast] at hM5
        have l1 := (mq_F.up hM5 (List.mem_singleton.mpr rfl) (La 12) (by simp; exact (mq_ne hI (by decide) (by decide) (by decide)))).trans j1
        have l4 := (mq_F.up hM5 (List.mem_singleton.mpr rfl) (La 14) (by simp; exact (mq_ne hI (by decide) (by decide) (by decide)))).trans j4
        have l6 : M5 (La 15) = some (.inl (G.2.1, 16, .inl (upd fh9 (mq_gd (d i) 1) (zI (i : Int))))) := by rw [hM5, mq_up_s]
        refine xr_aload_n C dX9_seeWhole_87 rfl ?_
        refine xr_get C (Cn := RX9) (T := TX9) (N := 7) (by decide +kernel) l1 rfl 2 (by decide) (C.1.2.2.2.2 (.fieldLink RX9 17 "OssuaryVault$Shelf" "numbers" "[I") (by decide +kernel)) (fun _ h => h) rfl dX9_seeWhole_88 ?_
        refine xr_iload_n C dX9_seeWhole_91 rfl ?_
        refine xr_iload C dX9_seeWhole_92 rfl ?_
        refine xr_iast C l4 mq_tI (by first | omega | (dsimp only; omega)) (by first | omega | (dsimp only; omega)) (by first | omega | (dsimp only; omega)) dX9_seeWhole_94 ?_
        refine mq_ren (fun M6 hM6 => ?_)
        rw [Int.toNat_natCast] at hM6
        have k1 := (mq_F.up hM6 (List.mem_singleton.mpr rfl) (La 12) (by simp; exact (mq_ne hI (by decide) (by decide) (by decide)))).trans l1
        have k6 := (mq_F.up hM6 (List.mem_singleton.mpr rfl) (La 15) (by simp; exact (mq_ne hI (by decide) (by decide) (by decide)))).trans l6
        have k4 : M6 (La 14) = some (.inl (G.2.1, 16, .inl (upd fn9 i (zI (mq_gd (d i) 1 : Int))))) := by rw [hM6, mq_up_s]
        refine xr_aload_n C dX9_seeWhole_95 rfl ?_
        refine xr_dup C dX9_seeWhole_96 rfl ?_
        refine xr_get C (Cn := RX9) (T := TX9) (N := 7) (by decide +kernel) k1 rfl 6 (by decide) (C.1.2.2.2.2 (.fieldLink RX9 43 "OssuaryVault$Shelf" "members" "I") (by decide +kernel)) (fun _ h => h) rfl dX9_seeWhole_97 ?_
        refine xr_iconst (n := 1) C dX9_seeWhole_100 (by decide +kernel) ?_
        refine xr_iadd C dX9_seeWhole_101 ?_
        refine xr_put C (Cn := RX9) (T := TX9) (N := 7) (by decide +kernel) k1 rfl 6 (by decide) tyX9 tyX9_ok nmX9 (C.1.2.2.2.2 (.fieldLink RX9 43 "OssuaryVault$Shelf" "members" "I") (by decide +kernel)) (fun _ h => h) rfl (tyX9_ok 6 (by decide)) rfl rfl (Nat.le_of_ble_eq_true rfl) dX9_seeWhole_102 ?_
        refine mq_ren (fun M7 hM7 => ?_)
        have F3 : mq_FR La [12, 14, 15] M M7 := ((mq_F.up hM5 (by simp)).tr (mq_F.up hM6 (by simp))).tr (mq_F.up hM7 (by simp))
        have hT3 : ∀ r ∈ [12, 14, 15], r < 275 := by decide
        rw [svSee_yes (s := ((k : Int), mb, nu, ho)) hkk ⟨hone, by dsimp only; omega⟩]
        have hSn : shI G M7 La pv h d vd (k : Int) (mb + 1) (svU nu i (mq_gd (d i) 1 : Int)) (svU ho (mq_gd (d i) 1) (i : Int)) := by
          refine ⟨by rw [hM7, mq_up_s]; rfl, ⟨fp9, (F3 (La 13) (mq_ni hI (by decide) hT3 (by decide))).trans j2, j3⟩, ⟨_, (mq_F.up hM7 (List.mem_singleton.mpr rfl) (La 14) (by simp; exact (mq_ne hI (by decide) (by decide) (by decide)))).trans k4, ?_⟩, ⟨_, (mq_F.up hM7 (List.mem_singleton.mpr rfl) (La 15) (by simp; exact (mq_ne hI (by decide) (by decide) (by decide)))).trans k6, ?_⟩, fun j hj => (j8 j hj).fr hI F3 (hP.1 j hj) hT3 (by simp; omega) (by simp; omega) (by simp; omega)⟩
          · intro j hj
            unfold upd svU
            split
            · rfl
            · exact j5 j hj
          · intro j hj
            unfold upd svU
            split
            · rfl
            · exact j7 j hj
        exact xr_vret C hr hlk ⟨rfl, hSn, mq_F.rf.tr F3⟩ (by omega) (by omega) dX9_seeWhole_105
  · refine xr_aload_n C dX9_seeWhole_7 rfl ?_
    refine xr_iload_n C dX9_seeWhole_8 rfl ?_
    refine xr_put C (Cn := RX9) (T := TX9) (N := 7) (by decide +kernel) g1 rfl 5 (by decide) tyX9 tyX9_ok nmX9 (C.1.2.2.2.2 (.fieldLink RX9 39 "OssuaryVault$Shelf" "leaderPlace" "I") (by decide +kernel)) (fun _ h => h) rfl (tyX9_ok 5 (by decide)) rfl rfl (Nat.le_of_ble_eq_true rfl) dX9_seeWhole_9 ?_
    refine mq_ren (fun M8 hM8 => ?_)
    have hkk : (if ld < 0 then (i : Int) else ld) = (i : Int) := if_pos (by omega)
    have F1 : mq_FR La [12, 14, 15] M M8 := mq_F.up hM8 (by simp)
    have hT3 : ∀ r ∈ [12, 14, 15], r < 275 := by decide
    have hS1 : shI G M8 La pv h d vd (i : Int) mb nu ho := by
      refine ⟨by rw [hM8, mq_up_s]; rfl, ⟨fp, (F1 (La 13) (mq_ni hI (by decide) hT3 (by decide))).trans g2, g3⟩, ⟨fn, (mq_F.up hM8 (List.mem_singleton.mpr rfl) (La 14) (by simp; exact (mq_ne hI (by decide) (by decide) (by decide)))).trans g4, g5⟩, ⟨fh, (mq_F.up hM8 (List.mem_singleton.mpr rfl) (La 15) (by simp; exact (mq_ne hI (by decide) (by decide) (by decide)))).trans g6, g7⟩, fun j hj => (g8 j hj).fr hI F1 (hP.1 j hj) hT3 (by simp; omega) (by simp; omega) (by simp; omega)⟩
    obtain ⟨j1, ⟨fp9, j2, j3⟩, ⟨fn9, j4, j5⟩, ⟨fh9, j6, j7⟩, j8⟩ := id hS1
    refine xr_aload_n C dX9_seeWhole_12 rfl ?_
    refine xr_aload_n C dX9_seeWhole_13 rfl ?_
    refine xr_get C (Cn := RX9) (T := TX9) (N := 7) (by decide +kernel) j1 rfl 5 (by decide) (C.1.2.2.2.2 (.fieldLink RX9 39 "OssuaryVault$Shelf" "leaderPlace" "I") (by decide +kernel)) (fun _ h => h) rfl dX9_seeWhole_14 ?_
    refine xr_callV1a C (c_shAt l G La hI pv h d vd _ mb nu ho M8 hP hS1 i (by omega)) (cwV 1 C.1.2.2.2.2 gX9_seeWhole_X9_at rfl rfl rfl (by decide +kernel) ⟨Nat.le_of_ble_eq_true rfl, Nat.le_of_ble_eq_true rfl⟩) j1 rfl (Nat.le_of_ble_eq_true rfl) ⟨by dsimp only; omega, by dsimp only; omega⟩ dX9_seeWhole_17 (fun r9 M9 hp9 => ?_)
    obtain ⟨rfl, rfl⟩ := hp9
    refine xr_astore_n C dX9_seeWhole_20 (by decide) rfl ?_
    refine xr_aload_n C dX9_seeWhole_21 rfl ?_
    refine xr_iload_n C dX9_seeWhole_22 rfl ?_
    refine xr_callV1a C (c_shAt l G La hI pv h d vd _ mb nu ho M8 hP hS1 i hi) (cwV 1 C.1.2.2.2.2 gX9_seeWhole_X9_at rfl rfl rfl (by decide +kernel) ⟨Nat.le_of_ble_eq_true rfl, Nat.le_of_ble_eq_true rfl⟩) j1 rfl (Nat.le_of_ble_eq_true rfl) ⟨by dsimp only; omega, by dsimp only; omega⟩ dX9_seeWhole_23 (fun r9 M9 hp9 => ?_)
    obtain ⟨rfl, rfl⟩ := hp9
    refine xr_astore_n C dX9_seeWhole_26 (by decide) rfl ?_
    refine xr_aload_n C dX9_seeWhole_27 rfl ?_
    refine xr_ifnull_s C dX9_seeWhole_28 ?_
    refine xr_aload_n C dX9_seeWhole_31 rfl ?_
    refine xr_ifnull_s C dX9_seeWhole_32 ?_
    refine xr_aload_n C dX9_seeWhole_35 rfl ?_
    refine xr_aload_n C dX9_seeWhole_36 rfl ?_
    refine xr_callV1i C (c_isOfOneWith l G _ _ _ _ _ _ _ M8 (j8 i (by omega)) _ _ _ _ _ _ (j8 i (by omega))) (cwV 1 C.1.2.2.2.2 gX9_seeWhole_X10_isOfOneWith rfl rfl rfl (by decide +kernel) ⟨Nat.le_of_ble_eq_true rfl, Nat.le_of_ble_eq_true rfl⟩) (j8 i (by omega)).1 rfl (Nat.le_of_ble_eq_true rfl) ⟨by dsimp only; omega, by dsimp only; omega⟩ dX9_seeWhole_37 (fun r9 M9 hp9 => ?_)
    obtain ⟨rfl, rfl⟩ := hp9
    cases hone : vOne (d i) (d i)
    · refine xr_if_ne C dX9_seeWhole_40 rfl (by decide) (fun hq => absurd hq (by decide)) (fun _ => ?_)
      rw [svSee_no (s := (ld, mb, nu, ho)) hkk (by rw [hone]; simp)]
      exact xr_vret C hr hlk ⟨rfl, hS1, F1⟩ (by omega) (by omega) dX9_seeWhole_43
    · refine xr_if_ne C dX9_seeWhole_40 rfl (by decide) (fun _ => ?_) (fun hq => absurd hq (by decide))
      refine xr_aload_n C dX9_seeWhole_44 rfl ?_
      refine xr_callV0i C (c_number l G _ _ _ _ _ _ _ M8 (j8 i (by omega))) (cwV 0 C.1.2.2.2.2 gX9_seeWhole_X10_number rfl rfl rfl (by decide +kernel) ⟨Nat.le_of_ble_eq_true rfl, Nat.le_of_ble_eq_true rfl⟩) (j8 i (by omega)).1 rfl (Nat.le_of_ble_eq_true rfl) ⟨by dsimp only; omega, by dsimp only; omega⟩ dX9_seeWhole_45 (fun r10 M9 hp9 => ?_)
      obtain ⟨rfl, rfl⟩ := hp9
      refine xr_istore C dX9_seeWhole_48 (by decide) rfl ?_
      refine xr_iload_n C dX9_seeWhole_50 rfl ?_
      refine xr_aload_n C dX9_seeWhole_51 rfl ?_
      refine xr_get C (Cn := RX9) (T := TX9) (N := 7) (by decide +kernel) j1 rfl 2 (by decide) (C.1.2.2.2.2 (.fieldLink RX9 17 "OssuaryVault$Shelf" "numbers" "[I") (by decide +kernel)) (fun _ h => h) rfl dX9_seeWhole_52 ?_
      refine xr_alen C j4 mq_tI dX9_seeWhole_55 ?_
      refine xr_icmp_ge C dX9_seeWhole_56 rfl (by first | omega | (dsimp only; omega)) (by first | omega | (dsimp only; omega)) (fun hq => absurd hq (by dsimp only; omega)) (fun _ => ?_)
      refine xr_iload C dX9_seeWhole_59 rfl ?_
      refine xr_aload_n C dX9_seeWhole_61 rfl ?_
      refine xr_get C (Cn := RX9) (T := TX9) (N := 7) (by decide +kernel) j1 rfl 3 (by decide) (C.1.2.2.2.2 (.fieldLink RX9 21 "OssuaryVault$Shelf" "holders" "[I") (by decide +kernel)) (fun _ h => h) rfl dX9_seeWhole_62 ?_
      refine xr_alen C j6 mq_tI dX9_seeWhole_65 ?_
      refine xr_icmp_ge C dX9_seeWhole_66 rfl (by first | omega | (dsimp only; omega)) (by first | omega | (dsimp only; omega)) (fun hq => absurd hq (by dsimp only; omega)) (fun _ => ?_)
      refine xr_aload_n C dX9_seeWhole_69 rfl ?_
      refine xr_get C (Cn := RX9) (T := TX9) (N := 7) (by decide +kernel) j1 rfl 3 (by decide) (C.1.2.2.2.2 (.fieldLink RX9 21 "OssuaryVault$Shelf" "holders" "[I") (by decide +kernel)) (fun _ h => h) rfl dX9_seeWhole_70 ?_
      refine xr_iload C dX9_seeWhole_73 rfl ?_
      refine xr_iald C j6 mq_tI (by first | omega | (dsimp only; omega)) (by first | omega | (dsimp only; omega)) (by first | omega | (dsimp only; omega)) dX9_seeWhole_75 ?_
      rw [Int.toNat_natCast, j7 _ hnum]
      have r6n := r6 (mq_gd (d i) 1)
      refine xr_if_ge C dX9_seeWhole_76 rfl (by first | omega | (dsimp only; omega)) (fun hq11 => ?_) (fun hq11 => ?_)
      · rw [svSee_no (s := (ld, mb, nu, ho)) hkk (fun q => by have := q.2; dsimp only at this; omega)]
        exact xr_vret C hr hlk ⟨rfl, hS1, F1⟩ (by omega) (by omega) dX9_seeWhole_105
      · refine xr_aload_n C dX9_seeWhole_79 rfl ?_
        refine xr_get C (Cn := RX9) (T := TX9) (N := 7) (by decide +kernel) j1 rfl 3 (by decide) (C.1.2.2.2.2 (.fieldLink RX9 21 "OssuaryVault$Shelf" "holders" "[I") (by decide +kernel)) (fun _ h => h) rfl dX9_seeWhole_80 ?_
        refine xr_iload C dX9_seeWhole_83 rfl ?_
        refine xr_iload_n C dX9_seeWhole_85 rfl ?_
        refine xr_iast C j6 mq_tI (by first | omega | (dsimp only; omega)) (by first | omega | (dsimp only; omega)) (by first | omega | (dsimp only; omega)) dX9_seeWhole_86 ?_
        refine mq_ren (fun M12 hM12 => ?_)
        rw [Int.toNat_natCast] at hM12
        have l1 := (mq_F.up hM12 (List.mem_singleton.mpr rfl) (La 12) (by simp; exact (mq_ne hI (by decide) (by decide) (by decide)))).trans j1
        have l4 := (mq_F.up hM12 (List.mem_singleton.mpr rfl) (La 14) (by simp; exact (mq_ne hI (by decide) (by decide) (by decide)))).trans j4
        have l6 : M12 (La 15) = some (.inl (G.2.1, 16, .inl (upd fh9 (mq_gd (d i) 1) (zI (i : Int))))) := by rw [hM12, mq_up_s]
        refine xr_aload_n C dX9_seeWhole_87 rfl ?_
        refine xr_get C (Cn := RX9) (T := TX9) (N := 7) (by decide +kernel) l1 rfl 2 (by decide) (C.1.2.2.2.2 (.fieldLink RX9 17 "OssuaryVault$Shelf" "numbers" "[I") (by decide +kernel)) (fun _ h => h) rfl dX9_seeWhole_88 ?_
        refine xr_iload_n C dX9_seeWhole_91 rfl ?_
        refine xr_iload C dX9_seeWhole_92 rfl ?_
        refine xr_iast C l4 mq_tI (by first | omega | (dsimp only; omega)) (by first | omega | (dsimp only; omega)) (by first | omega | (dsimp only; omega)) dX9_seeWhole_94 ?_
        refine mq_ren (fun M13 hM13 => ?_)
        rw [Int.toNat_natCast] at hM13
        have k1 := (mq_F.up hM13 (List.mem_singleton.mpr rfl) (La 12) (by simp; exact (mq_ne hI (by decide) (by decide) (by decide)))).trans l1
        have k6 := (mq_F.up hM13 (List.mem_singleton.mpr rfl) (La 15) (by simp; exact (mq_ne hI (by decide) (by decide) (by decide)))).trans l6
        have k4 : M13 (La 14) = some (.inl (G.2.1, 16, .inl (upd fn9 i (zI (mq_gd (d i) 1 : Int))))) := by rw [hM13, mq_up_s]
        refine xr_aload_n C dX9_seeWhole_95 rfl ?_
        refine xr_dup C dX9_seeWhole_96 rfl ?_
        refine xr_get C (Cn := RX9) (T := TX9) (N := 7) (by decide +kernel) k1 rfl 6 (by decide) (C.1.2.2.2.2 (.fieldLink RX9 43 "OssuaryVault$Shelf" "members" "I") (by decide +kernel)) (fun _ h => h) rfl dX9_seeWhole_97 ?_
        refine xr_iconst (n := 1) C dX9_seeWhole_100 (by decide +kernel) ?_
        refine xr_iadd C dX9_seeWhole_101 ?_
        refine xr_put C (Cn := RX9) (T := TX9) (N := 7) (by decide +kernel) k1 rfl 6 (by decide) tyX9 tyX9_ok nmX9 (C.1.2.2.2.2 (.fieldLink RX9 43 "OssuaryVault$Shelf" "members" "I") (by decide +kernel)) (fun _ h => h) rfl (tyX9_ok 6 (by decide)) rfl rfl (Nat.le_of_ble_eq_true rfl) dX9_seeWhole_102 ?_
        refine mq_ren (fun M14 hM14 => ?_)
        have F3 : mq_FR La [12, 14, 15] M8 M14 := ((mq_F.up hM12 (by simp)).tr (mq_F.up hM13 (by simp))).tr (mq_F.up hM14 (by simp))
        have hT3 : ∀ r ∈ [12, 14, 15], r < 275 := by decide
        rw [svSee_yes (s := (ld, mb, nu, ho)) hkk ⟨hone, by dsimp only; omega⟩]
        have hSn : shI G M14 La pv h d vd (i : Int) (mb + 1) (svU nu i (mq_gd (d i) 1 : Int)) (svU ho (mq_gd (d i) 1) (i : Int)) := by
          refine ⟨by rw [hM14, mq_up_s]; rfl, ⟨fp9, (F3 (La 13) (mq_ni hI (by decide) hT3 (by decide))).trans j2, j3⟩, ⟨_, (mq_F.up hM14 (List.mem_singleton.mpr rfl) (La 14) (by simp; exact (mq_ne hI (by decide) (by decide) (by decide)))).trans k4, ?_⟩, ⟨_, (mq_F.up hM14 (List.mem_singleton.mpr rfl) (La 15) (by simp; exact (mq_ne hI (by decide) (by decide) (by decide)))).trans k6, ?_⟩, fun j hj => (j8 j hj).fr hI F3 (hP.1 j hj) hT3 (by simp; omega) (by simp; omega) (by simp; omega)⟩
          · intro j hj
            unfold upd svU
            split
            · rfl
            · exact j5 j hj
          · intro j hj
            unfold upd svU
            split
            · rfl
            · exact j7 j hj
        exact xr_vret C hr hlk ⟨rfl, hSn, F1.tr F3⟩ (by omega) (by omega) dX9_seeWhole_105
set_option maxHeartbeats 4000000 in
set_option maxRecDepth 100000 in
theorem c_survey (l : Launch) (G : mq_G) (La : Nat → Nat) (hI : mq_inj La) (pv : Nat → Nat) (h : Nat → Bool) (d : Nat → List Nat) (vd : Nat → Int) (ld mb : Int) (nu ho : Nat → Int) (M : mq_M) (hP : shP pv h d vd) (hS : shI G M La pv h d vd ld mb nu ho) (hC : ckI G M (La 1) (La 2)) : mq_T l yX9_survey wsX9_survey { frames := 5, cells := 0, slots := 0, locals := 107 } G [.ref (La 12)] M (mq_pv (fun M2 => (∃ vd2, shP pv h d vd2 ∧ shI G M2 La pv h d vd2 (svS h d 16).1 (svS h d 16).2.1 (svS h d 16).2.2.1 (svS h d 16).2.2.2) ∧ mq_FR La mq_TV M M2)) 0 0 := by
  refine mq_Met.of (cc := cX9_survey) (maxL := 2) (ret := none) (by decide) rfl (Nat.le_of_ble_eq_true rfl) rfl rfl ?_
  intro p_ e_ s_ m_ args_ below_ meth_ c_ z_ C hr hlk hname
  have hno : ∀ r, r < 104 → (r < 12 ∨ 15 < r) → La r ∉ mq_TV.map La := fun r h1 h2 => mq_ni hI (by omega) mq_TVl (fun q => by have := mq_TVm.mp q; omega)
  obtain ⟨g1, ⟨fp, g2, g3⟩, ⟨fn, g4, g5⟩, ⟨fh, g6, g7⟩, g8⟩ := hS
  refine xr_aload_n C dX9_survey_0 rfl ?_
  refine xr_iconst (n := (-1)) C dX9_survey_1 (by decide +kernel) ?_
  refine xr_put C (Cn := RX9) (T := TX9) (N := 7) (by decide +kernel) g1 rfl 5 (by decide) tyX9 tyX9_ok nmX9 (C.1.2.2.2.2 (.fieldLink RX9 39 "OssuaryVault$Shelf" "leaderPlace" "I") (by decide +kernel)) (fun _ h => h) rfl (tyX9_ok 5 (by decide)) rfl rfl (Nat.le_of_ble_eq_true rfl) dX9_survey_2 ?_
  refine mq_ren (fun M1 hM1 => ?_)
  have e1 : M1 (La 12) = some (.inr (8, [.ref (La 3), .ref (La 13), .ref (La 14), .ref (La 15), .ref (La (104 + 3 * pv 16)), .int (zI (-1)), .int (zI mb)])) := by rw [hM1, mq_up_s]; rfl
  refine xr_aload_n C dX9_survey_5 rfl ?_
  refine xr_iconst (n := 0) C dX9_survey_6 (by decide +kernel) ?_
  refine xr_put C (Cn := RX9) (T := TX9) (N := 7) (by decide +kernel) e1 rfl 6 (by decide) tyX9 tyX9_ok nmX9 (C.1.2.2.2.2 (.fieldLink RX9 43 "OssuaryVault$Shelf" "members" "I") (by decide +kernel)) (fun _ h => h) rfl (tyX9_ok 6 (by decide)) rfl rfl (Nat.le_of_ble_eq_true rfl) dX9_survey_7 ?_
  refine mq_ren (fun M2 hM2 => ?_)
  have e2 : M2 (La 12) = some (.inr (8, [.ref (La 3), .ref (La 13), .ref (La 14), .ref (La 15), .ref (La (104 + 3 * pv 16)), .int (zI (-1)), .int (zI 0)])) := by rw [hM2, mq_up_s]; rfl
  have F2 : mq_FR La [12] M M2 := (mq_F.up hM1 (by simp)).tr (mq_F.up hM2 (by simp))
  have hT1 : ∀ r ∈ [12], r < 275 := by decide
  have e4 := (F2 (La 14) (mq_ni hI (by decide) hT1 (by decide))).trans g4
  have e6 := (F2 (La 15) (mq_ni hI (by decide) hT1 (by decide))).trans g6
  refine xr_iconst (n := 0) C dX9_survey_10 (by decide +kernel) ?_
  refine xr_istore_n C dX9_survey_11 (by decide) rfl ?_
  refine mq_loop (σ := Nat × mq_M × (Nat → Int32) × (Nat → Int32)) (fun y => y.1 ≤ 16 ∧ y.2.1 (La 12) = some (.inr (8, [.ref (La 3), .ref (La 13), .ref (La 14), .ref (La 15), .ref (La (104 + 3 * pv 16)), .int (zI (-1)), .int (zI 0)])) ∧ y.2.1 (La 14) = some (.inl (G.2.1, 16, .inl y.2.2.1)) ∧ y.2.1 (La 15) = some (.inl (G.2.1, 16, .inl y.2.2.2)) ∧ (∀ j, j < y.1 → y.2.2.1 j = zI (-1) ∧ y.2.2.2 j = zI (-1)) ∧ mq_FR La [12, 14, 15] M y.2.1) (fun y => 16 - y.1) (fun y => y.2.1) (fun y => [some (.ref (La 12)), some (.int (zI (y.1 : Int)))]) (fun y => []) ?_ (0, M2, fn, fh) ⟨Nat.zero_le _, e2, e4, e6, (fun j hj => by omega), F2.sub (by decide)⟩
  rintro ⟨i, M3, f3, f4⟩ ⟨hi, q1, q4, q6, q7, q8⟩ ih
  dsimp only at hi q1 q4 q6 q7 q8 ih ⊢
  refine xr_iload_n C dX9_survey_12 rfl ?_
  refine xr_bipush (n := 16) C dX9_survey_13 (by decide +kernel) ?_
  refine xr_icmp_ge C dX9_survey_15 rfl (by first | omega | (dsimp only; omega)) (by first | omega | (dsimp only; omega)) (fun hq3 => ?_) (fun hq3 => ?_)
  · have hT3 : ∀ r ∈ [12, 14, 15], r < 275 := by decide
    have hS3 : shI G M3 La pv h d vd (svS h d 0).1 (svS h d 0).2.1 (svS h d 0).2.2.1 (svS h d 0).2.2.2 :=
      ⟨q1, ⟨fp, (q8 (La 13) (mq_ni hI (by decide) hT3 (by decide))).trans g2, g3⟩, ⟨f3, q4, fun j hj => (q7 j (by omega)).1⟩, ⟨f4, q6, fun j hj => (q7 j (by omega)).2⟩, fun j hj => (g8 j hj).fr hI q8 (hP.1 j hj) hT3 (by simp; omega) (by simp; omega) (by simp; omega)⟩
    have F3 : mq_FR La mq_TV M M3 := q8.sub (by decide)
    clear ih
    refine xr_iconst (n := 0) C dX9_survey_38 (by decide +kernel) ?_
    refine xr_istore_n C dX9_survey_39 (by decide) rfl ?_
    refine mq_loop (σ := Nat × mq_M × (Nat → Int)) (fun y => y.1 ≤ 16 ∧ shP pv h d y.2.2 ∧ shI G y.2.1 La pv h d y.2.2 (svS h d y.1).1 (svS h d y.1).2.1 (svS h d y.1).2.2.1 (svS h d y.1).2.2.2 ∧ mq_FR La mq_TV M y.2.1) (fun y => 16 - y.1) (fun y => y.2.1) (fun y => [some (.ref (La 12)), some (.int (zI (y.1 : Int)))]) (fun y => []) ?_ (0, M3, vd) ⟨Nat.zero_le _, hP, hS3, F3⟩
    rintro ⟨k, M5, v5⟩ ⟨hk, hP5, hS5, hF5⟩ ih
    dsimp only at hk hP5 hS5 hF5 ih ⊢
    have hS5c := hS5
    obtain ⟨j1, ⟨fp9, j2, j3⟩, ⟨fn9, j4, j5⟩, ⟨fh9, j6, j7⟩, j8⟩ := hS5
    have hC5 := hC.fr hF5 (hno 1 (by decide) (by decide)) (hno 2 (by decide) (by decide))
    refine xr_iload_n C dX9_survey_40 rfl ?_
    refine xr_bipush (n := 16) C dX9_survey_41 (by decide +kernel) ?_
    refine xr_icmp_ge C dX9_survey_43 rfl (by first | omega | (dsimp only; omega)) (by first | omega | (dsimp only; omega)) (fun hq6 => ?_) (fun hq6 => ?_)
    · exact xr_vret C hr hlk ⟨rfl, ⟨v5, hP5, by rw [show (16 : Nat) = k by omega]; exact hS5c⟩, hF5⟩ (by omega) (by omega) dX9_survey_69
    · have hk16 : k < 16 := by omega
      have hqk := hP.1 k (by omega)
      refine xr_aload_n C dX9_survey_46 rfl ?_
      refine xr_get C (Cn := RX9) (T := TX9) (N := 7) (by decide +kernel) j1 rfl 1 (by decide) (C.1.2.2.2.2 (.fieldLink RX9 11 "OssuaryVault$Shelf" "places" "[LOssuaryVault$Volume;") (by decide +kernel)) (fun _ h => h) rfl dX9_survey_47 ?_
      refine xr_iload_n C dX9_survey_50 rfl ?_
      refine xr_aald C j2 mq_tV (by first | omega | (dsimp only; omega)) (by first | omega | (dsimp only; omega)) (by first | omega | (dsimp only; omega)) dX9_survey_51 ?_
      rw [Int.toNat_natCast, j3 k hk16]
      refine mq_rfs ?_
      refine xr_callV0i C (c_isWhole l G _ _ _ _ _ _ _ M5 (j8 k (by omega)) _ hC5 (mq_vnd hI hqk) (hP5.2.2 k (by omega)) (hP5.2.2 k (by omega)).rng) (cwV 0 C.1.2.2.2.2 gX9_survey_X10_isWhole rfl rfl rfl (by decide +kernel) ⟨Nat.le_of_ble_eq_true rfl, Nat.le_of_ble_eq_true rfl⟩) (j8 k (by omega)).1 rfl (Nat.le_of_ble_eq_true rfl) ⟨by dsimp only; omega, by dsimp only; omega⟩ dX9_survey_52 (fun r9 M6 hp9 => ?_)
      obtain ⟨rfl, ⟨w9, hV9, hw9⟩, hF9⟩ := hp9
      change mq_FR La [104 + 3 * pv k] M5 M6 at hF9
      have hT9 : ∀ r ∈ [104 + 3 * pv k], r < 275 := by intro r hr; simp at hr; omega
      have hP6 : shP pv h d (fnU v5 k w9) := ⟨hP5.1, hP5.2.1, fun j hj => by
        unfold fnU
        split
        · rename_i hjk; subst hjk; exact Or.inr hw9
        · exact hP5.2.2 j hj⟩
      have hS6 : shI G M6 La pv h d (fnU v5 k w9) (svS h d k).1 (svS h d k).2.1 (svS h d k).2.2.1 (svS h d k).2.2.2 := by
        refine ⟨(hF9 _ (mq_ni hI (by decide) hT9 (by simp; omega))).trans j1, ⟨fp9, (hF9 _ (mq_ni hI (by decide) hT9 (by simp; omega))).trans j2, j3⟩, ⟨fn9, (hF9 _ (mq_ni hI (by decide) hT9 (by simp; omega))).trans j4, j5⟩, ⟨fh9, (hF9 _ (mq_ni hI (by decide) hT9 (by simp; omega))).trans j6, j7⟩, fun j hj => ?_⟩
        by_cases hjk : j = k
        · subst hjk; rw [fnU_s]; exact hV9
        · rw [fnU_n hjk]
          have hqj := hP.1 j hj
          have hne : pv j ≠ pv k := fun e => hjk (hP.2.1 j k hj (by omega) e)
          exact (j8 j hj).fr hI hF9 hqj hT9 (by simp; omega) (by simp; omega) (by simp; omega)
      have F6 : mq_FR La mq_TV M M6 := hF5.tr (hF9.sub (fun r hr => mq_TVm.mpr (by simp at hr; omega)))
      have hsv : svS h d (k + 1) = (if vWhl (h k) (d k) = true then svSee d k (svS h d k) else svS h d k) := rfl
      cases hwh : vWhl (h k) (d k)
      · refine xr_if_eq C dX9_survey_55 rfl (by decide) (fun _ => ?_) (fun hq => absurd hq (by decide))
        refine xr_iinc C dX9_survey_63 rfl (by decide) rfl ?_
        refine xr_goto C dX9_survey_66 rfl ?_
        rw [hwh, if_neg (by simp)] at hsv
        exact ih (k + 1, M6, _) ⟨by dsimp only; omega, hP6, by dsimp only; rw [hsv]; exact hS6, F6⟩ (by dsimp only; omega)
      · refine xr_if_eq C dX9_survey_55 rfl (by decide) (fun hq => absurd hq (by decide)) (fun _ => ?_)
        refine xr_aload_n C dX9_survey_58 rfl ?_
        refine xr_iload_n C dX9_survey_59 rfl ?_
        refine xr_callV1v C (c_seeWhole l G La hI pv h d _ _ _ _ _ M6 hP6 hS6 k hk16 hwh (svS_rng h d k (by omega))) (cwV 1 C.1.2.2.2.2 gX9_survey_X9_seeWhole rfl rfl rfl (by decide +kernel) ⟨Nat.le_of_ble_eq_true rfl, Nat.le_of_ble_eq_true rfl⟩) hS6.1 rfl (Nat.le_of_ble_eq_true rfl) ⟨by dsimp only; omega, by dsimp only; omega⟩ dX9_survey_60 (fun M7 hp7 => ?_)
        obtain ⟨hS7, hF7⟩ := hp7
        rw [hwh, if_pos rfl] at hsv
        refine xr_iinc C dX9_survey_63 rfl (by decide) rfl ?_
        refine xr_goto C dX9_survey_66 rfl ?_
        exact ih (k + 1, M7, _) ⟨by dsimp only; omega, hP6, by dsimp only; rw [hsv]; exact hS7, F6.tr (hF7.sub (by decide))⟩ (by dsimp only; omega)
  · refine xr_aload_n C dX9_survey_18 rfl ?_
    refine xr_get C (Cn := RX9) (T := TX9) (N := 7) (by decide +kernel) q1 rfl 2 (by decide) (C.1.2.2.2.2 (.fieldLink RX9 17 "OssuaryVault$Shelf" "numbers" "[I") (by decide +kernel)) (fun _ h => h) rfl dX9_survey_19 ?_
    refine xr_iload_n C dX9_survey_22 rfl ?_
    refine xr_iconst (n := (-1)) C dX9_survey_23 (by decide +kernel) ?_
    refine xr_iast C q4 mq_tI (by first | omega | (dsimp only; omega)) (by first | omega | (dsimp only; omega)) (by first | omega | (dsimp only; omega)) dX9_survey_24 ?_
    refine mq_ren (fun M4 hM4 => ?_)
    rw [Int.toNat_natCast] at hM4
    have v1 := (mq_F.up hM4 (List.mem_singleton.mpr rfl) (La 12) (by simp; exact (mq_ne hI (by decide) (by decide) (by decide)))).trans q1
    have v6 := (mq_F.up hM4 (List.mem_singleton.mpr rfl) (La 15) (by simp; exact (mq_ne hI (by decide) (by decide) (by decide)))).trans q6
    have v4 : M4 (La 14) = some (.inl (G.2.1, 16, .inl (upd f3 i (zI (-1))))) := by rw [hM4, mq_up_s]
    refine xr_aload_n C dX9_survey_25 rfl ?_
    refine xr_get C (Cn := RX9) (T := TX9) (N := 7) (by decide +kernel) v1 rfl 3 (by decide) (C.1.2.2.2.2 (.fieldLink RX9 21 "OssuaryVault$Shelf" "holders" "[I") (by decide +kernel)) (fun _ h => h) rfl dX9_survey_26 ?_
    refine xr_iload_n C dX9_survey_29 rfl ?_
    refine xr_iconst (n := (-1)) C dX9_survey_30 (by decide +kernel) ?_
    refine xr_iast C v6 mq_tI (by first | omega | (dsimp only; omega)) (by first | omega | (dsimp only; omega)) (by first | omega | (dsimp only; omega)) dX9_survey_31 ?_
    refine mq_ren (fun M5 hM5 => ?_)
    rw [Int.toNat_natCast] at hM5
    have u1 := (mq_F.up hM5 (List.mem_singleton.mpr rfl) (La 12) (by simp; exact (mq_ne hI (by decide) (by decide) (by decide)))).trans v1
    have u4 := (mq_F.up hM5 (List.mem_singleton.mpr rfl) (La 14) (by simp; exact (mq_ne hI (by decide) (by decide) (by decide)))).trans v4
    have u6 : M5 (La 15) = some (.inl (G.2.1, 16, .inl (upd f4 i (zI (-1))))) := by rw [hM5, mq_up_s]
    refine xr_iinc C dX9_survey_32 rfl (by decide) rfl ?_
    refine xr_goto C dX9_survey_35 rfl ?_
    exact ih (i + 1, M5, _, _) ⟨by dsimp only; omega, u1, u4, u6, fun j hj => by
      dsimp only at hj
      have q7j := q7 j
      refine ⟨?_, ?_⟩ <;> (show upd _ i (zI (-1)) j = _; unfold upd; split)
      · rfl
      · exact (q7j (by omega)).1
      · rfl
      · exact (q7j (by omega)).2, q8.tr ((mq_F.up hM4 (by simp)).tr (mq_F.up hM5 (by simp)))⟩ (by dsimp only; omega)
