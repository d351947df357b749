set_option maxHeartbeats 4000000 in
set_option maxRecDepth 100000 in
theorem c_rdBegin (l : Launch) (G : mq_G) (La : Nat → Nat) (hI : mq_inj La) (op : Bool) (da pa : Int) (ix : Bool) (n : Nat) (S : List Nat) (fc : Nat → List Nat) (fk fp ft : Nat → Int) (fg : Nat → Bool) (M : mq_M) (hS : rdI G M La op da pa ix n S fc fk fp ft fg) (hR : rdR fk fp ft) (hC : ckI G M (La 1) (La 2)) (dv pv : Int) : mq_T l yX7_begin wsX7_begin { frames := 5, cells := 0, slots := 0, locals := 106 } G [.ref (La 20), .int (zI dv), .int (zI pv)] M (mq_pv (fun M2 => (∃ fk2 fp2 ft2 : Nat → Int, rdR fk2 fp2 ft2 ∧ rdI G M2 La true dv pv (rdIx S) (rdN S) S fc fk2 fp2 ft2 fg ∧ ∀ k, k < rdN S → fk2 k = rdK S k ∧ fp2 k = rdP S k ∧ ft2 k = rdT S k) ∧ mq_FR La mq_TR M M2)) 0 0 := by
  refine mq_Met.of (cc := cX7_begin) (maxL := 3) (ret := none) (by decide) rfl (Nat.le_of_ble_eq_true rfl) rfl rfl ?_
  intro p_ e_ s_ m_ args_ below_ meth_ c_ z_ C hr hlk hname
  have hS0 := hS
  obtain ⟨g1, g2, ⟨ff, g3, g4⟩, g5⟩ := hS
  have hSl : S.length ≤ 40700 := g2.2.2.1
  have hSb := g2.2.2.2.2.1
  refine xr_aload_n C dX7_begin_0 rfl ?_
  refine xr_iconst (n := 1) C dX7_begin_1 (by decide +kernel) ?_
  refine xr_put C (Cn := RX7) (T := TX7) (N := 8) (by decide +kernel) g1 rfl 3 (by decide) tyX7 tyX7_ok nmX7 (C.1.2.2.2.2 (.fieldLink RX7 36 "OssuaryVault$Reading" "isOpen" "Z") (by decide +kernel)) (fun _ h => h) rfl (tyX7_ok 3 (by decide)) rfl rfl (Nat.le_of_ble_eq_true rfl) dX7_begin_2 ?_
  refine mq_ren (fun M1 hM1 => ?_)
  have F1 : mq_FR La [20] M M1 := mq_F.up hM1 (by simp)
  have hS1 : rdI G M1 La true da pa ix n S fc fk fp ft fg := hS0.hd hI F1 (by rw [hM1, mq_up_s]; rfl)
  refine xr_aload_n C dX7_begin_5 rfl ?_
  refine xr_iload_n C dX7_begin_6 rfl ?_
  refine xr_put C (Cn := RX7) (T := TX7) (N := 8) (by decide +kernel) hS1.1 rfl 4 (by decide) tyX7 tyX7_ok nmX7 (C.1.2.2.2.2 (.fieldLink RX7 40 "OssuaryVault$Reading" "data" "I") (by decide +kernel)) (fun _ h => h) rfl (tyX7_ok 4 (by decide)) rfl rfl (Nat.le_of_ble_eq_true rfl) dX7_begin_7 ?_
  refine mq_ren (fun M2 hM2 => ?_)
  have F2 : mq_FR La [20] M1 M2 := mq_F.up hM2 (by simp)
  have hS2 : rdI G M2 La true dv pa ix n S fc fk fp ft fg := hS1.hd hI F2 (by rw [hM2, mq_up_s]; rfl)
  refine xr_aload_n C dX7_begin_10 rfl ?_
  refine xr_iload_n C dX7_begin_11 rfl ?_
  refine xr_put C (Cn := RX7) (T := TX7) (N := 8) (by decide +kernel) hS2.1 rfl 5 (by decide) tyX7 tyX7_ok nmX7 (C.1.2.2.2.2 (.fieldLink RX7 43 "OssuaryVault$Reading" "parity" "I") (by decide +kernel)) (fun _ h => h) rfl (tyX7_ok 5 (by decide)) rfl rfl (Nat.le_of_ble_eq_true rfl) dX7_begin_12 ?_
  refine mq_ren (fun M3 hM3 => ?_)
  have F3 : mq_FR La [20] M2 M3 := mq_F.up hM3 (by simp)
  have hS3 : rdI G M3 La true dv pv ix n S fc fk fp ft fg := hS2.hd hI F3 (by rw [hM3, mq_up_s]; rfl)
  have F := (F1.tr F2).tr F3
  have hT : ∀ r ∈ [20], r < 275 := by decide
  have hC3 := hC.fr F (mq_ni hI (by decide) hT (by decide)) (mq_ni hI (by decide) hT (by decide))
  refine xr_aload_n C dX7_begin_15 rfl ?_
  refine xr_aload_n C dX7_begin_16 rfl ?_
  refine xr_callV0i C (c_indexStands l G La hI _ _ _ _ _ S fc fk fp ft fg M3 hS3 hC3) (cwV 0 C.1.2.2.2.2 gX7_begin_X7_indexStands rfl rfl rfl (by decide +kernel) ⟨Nat.le_of_ble_eq_true rfl, Nat.le_of_ble_eq_true rfl⟩) hS3.1 rfl (Nat.le_of_ble_eq_true rfl) ⟨by dsimp only; omega, by dsimp only; omega⟩ dX7_begin_17 (fun r4 M9 hp9 => ?_)
  obtain ⟨rfl, rfl⟩ := hp9
  refine xr_put C (Cn := RX7) (T := TX7) (N := 8) (by decide +kernel) hS3.1 rfl 6 (by decide) tyX7 tyX7_ok nmX7 (C.1.2.2.2.2 (.fieldLink RX7 50 "OssuaryVault$Reading" "indexed" "Z") (by decide +kernel)) (fun _ h => h) rfl (tyX7_ok 6 (by decide)) (by cases rdIx S <;> rfl) (by cases rdIx S <;> rfl) (Nat.le_of_ble_eq_true rfl) dX7_begin_20 ?_
  refine mq_ren (fun M5 hM5 => ?_)
  have F4 : mq_FR La [20] M3 M5 := mq_F.up hM5 (by simp)
  have hS4 : rdI G M5 La true dv pv (rdIx S) n S fc fk fp ft fg := hS3.hd hI F4 (by rw [hM5, mq_up_s]; rfl)
  refine xr_aload_n C dX7_begin_23 rfl ?_
  refine xr_iconst (n := 0) C dX7_begin_24 (by decide +kernel) ?_
  refine xr_put C (Cn := RX7) (T := TX7) (N := 8) (by decide +kernel) hS4.1 rfl 7 (by decide) tyX7 tyX7_ok nmX7 (C.1.2.2.2.2 (.fieldLink RX7 32 "OssuaryVault$Reading" "count" "I") (by decide +kernel)) (fun _ h => h) rfl (tyX7_ok 7 (by decide)) rfl rfl (Nat.le_of_ble_eq_true rfl) dX7_begin_25 ?_
  refine mq_ren (fun M6 hM6 => ?_)
  have F5 : mq_FR La [20] M5 M6 := mq_F.up hM6 (by simp)
  have hS5 : rdI G M6 La true dv pv (rdIx S) 0 S fc fk fp ft fg := hS4.hd hI F5 (by rw [hM6, mq_up_s]; rfl)
  have G5 : mq_FR La mq_TR M M6 := mq_FR.sub ((F.tr F4).tr F5) (fun r hr => mq_TRm.mpr (by simp at hr; omega))
  refine xr_aload_n C dX7_begin_28 rfl ?_
  refine xr_get C (Cn := RX7) (T := TX7) (N := 8) (by decide +kernel) hS5.1 rfl 6 (by decide) (C.1.2.2.2.2 (.fieldLink RX7 50 "OssuaryVault$Reading" "indexed" "Z") (by decide +kernel)) (fun _ h => h) rfl dX7_begin_29 ?_
  cases hix : rdIx S
  · rw [hix] at hS5
    refine xr_if_eq C dX7_begin_32 rfl (by decide) (fun _ => ?_) (fun hq => absurd hq (by decide))
    refine xr_aload_n C dX7_begin_42 rfl ?_
    refine xr_callV0v C (c_lookForFiles l G La hI true dv pv false 0 rfl S fc fk fp ft fg M6 hS5 hR) (cwV 0 C.1.2.2.2.2 gX7_begin_X7_lookForFiles rfl rfl rfl (by decide +kernel) ⟨Nat.le_of_ble_eq_true rfl, Nat.le_of_ble_eq_true rfl⟩) hS5.1 rfl (Nat.le_of_ble_eq_true rfl) ⟨by dsimp only; omega, by dsimp only; omega⟩ dX7_begin_43 (fun M6 hp6 => ?_)
    obtain ⟨⟨k6, p6, t6, hR6, hS6, hv6⟩, hF6⟩ := hp6
    have eN : rdN S = _ := if_neg (show ¬ rdIx S = true by rw [hix]; simp)
    exact xr_vret C hr hlk ⟨rfl, ⟨k6, p6, t6, hR6, by rw [eN]; exact hS6, fun k hk => by rw [eN] at hk; have h := hv6 k hk; unfold rdK rdP rdT; rw [if_neg (show ¬ rdIx S = true by rw [hix]; simp), if_neg (show ¬ rdIx S = true by rw [hix]; simp), if_neg (show ¬ rdIx S = true by rw [hix]; simp)]; exact h⟩, G5.tr hF6⟩ (by omega) (by omega) dX7_begin_46
  · rw [hix] at hS5
    refine xr_if_eq C dX7_begin_32 rfl (by decide) (fun hq => absurd hq (by decide)) (fun _ => ?_)
    refine xr_aload_n C dX7_begin_35 rfl ?_
    refine xr_callV0v C (c_takeIndexed l G La hI true dv pv true 0 S fc fk fp ft fg M6 hS5 hR) (cwV 0 C.1.2.2.2.2 gX7_begin_X7_takeIndexed rfl rfl rfl (by decide +kernel) ⟨Nat.le_of_ble_eq_true rfl, Nat.le_of_ble_eq_true rfl⟩) hS5.1 rfl (Nat.le_of_ble_eq_true rfl) ⟨by dsimp only; omega, by dsimp only; omega⟩ dX7_begin_36 (fun M6 hp6 => ?_)
    obtain ⟨⟨k6, p6, t6, hR6, hS6, hv6⟩, hF6⟩ := hp6
    refine xr_goto C dX7_begin_39 rfl ?_
    have eN : rdN S = _ := if_pos hix
    exact xr_vret C hr hlk ⟨rfl, ⟨k6, p6, t6, hR6, by rw [eN]; exact hS6, fun k hk => by rw [eN] at hk; have h := hv6 k hk; unfold rdK rdP rdT; rw [if_pos hix, if_pos hix, if_pos hix]; exact h⟩, G5.tr hF6⟩ (by omega) (by omega) dX7_begin_46
set_option maxHeartbeats 4000000 in
set_option maxRecDepth 100000 in
theorem c_takeContent (l : Launch) (G : mq_G) (La : Nat → Nat) (hI : mq_inj La) (op : Bool) (da pa : Int) (ix : Bool) (n : Nat) (S : List Nat) (fc : Nat → List Nat) (fk fp ft : Nat → Int) (fg : Nat → Bool) (M : mq_M) (hS : rdI G M La op da pa ix n S fc fk fp ft fg) (k : Nat) (hk : k < 40) (hR : rdR fk fp ft) (hl : rdLies S (fp k) = true) : mq_T l yX7_takeContent wsX7_takeContent { frames := 3, cells := 0, slots := 0, locals := 74 } G [.ref (La 20), .ref (La (155 + 3 * k))] M (mq_pi (fun r M2 => r = mq_b (rdC S (fp k)).isSome ∧ (∃ c, ffV G M2 La k c (fk k) (fp k) (ft k) (fg k) ∧ c.length ≤ 240 ∧ ∀ c2, rdC S (fp k) = some c2 → c = c2) ∧ mq_FR La [156 + 3 * k, 157 + 3 * k] M M2)) 0 0 := by
  refine mq_Met.of (cc := cX7_takeContent) (maxL := 4) (ret := (some .boolean)) (by decide) rfl (Nat.le_of_ble_eq_true rfl) rfl rfl ?_
  intro p_ e_ s_ m_ args_ below_ meth_ c_ z_ C hr hlk hname
  have hS0 := hS
  obtain ⟨g1, g2, ⟨ff, g3, g4⟩, g5⟩ := hS
  have hSl : S.length ≤ 40700 := g2.2.2.1
  have hSb := g2.2.2.2.2.1
  have hlq := of_decide_eq_true hl
  have hX := g5 k hk
  have hRk := hR k hk
  generalize hpl : fp k = pl at hlq hX hRk hl ⊢
  have he := rdEnd_rng hSb pl
  have b1 := mq_gd_lt hSb (pl + 1)
  have hT9 : ∀ r ∈ [156 + 3 * k, 157 + 3 * k], r < 275 := by intro r hr; simp at hr; omega
  have hx9 : 156 + 3 * k < 275 := by omega
  refine xr_aload_n C dX7_takeContent_0 rfl ?_
  refine xr_getN C (Cn := RX5) (T := TX5) (N := 5) (by decide +kernel) hX.1 rfl 2 (by decide) (va_Nw.use rfl (C.2.2.1 ("OssuaryVault$Reading", 98, "OssuaryVault$FoundFile", "place", "I", "OssuaryVault") (by decide +kernel))) (fun _ h => h) rfl dX7_takeContent_1 ?_
  refine xr_bipush (n := 8) C dX7_takeContent_4 (by decide +kernel) ?_
  refine xr_iadd C dX7_takeContent_6 ?_
  refine xr_istore_n C dX7_takeContent_7 (by decide) rfl ?_
  refine xr_aload_n C dX7_takeContent_8 rfl ?_
  refine xr_aload_n C dX7_takeContent_9 rfl ?_
  refine xr_getN C (Cn := RX5) (T := TX5) (N := 5) (by decide +kernel) hX.1 rfl 2 (by decide) (va_Nw.use rfl (C.2.2.1 ("OssuaryVault$Reading", 98, "OssuaryVault$FoundFile", "place", "I", "OssuaryVault") (by decide +kernel))) (fun _ h => h) rfl dX7_takeContent_10 ?_
  refine xr_callV1i C (c_endOfFile l G La hI op da pa ix n S fc fk fp ft fg M hS0 pl (by omega)) (cwV 1 C.1.2.2.2.2 gX7_takeContent_X7_endOfFile rfl rfl rfl (by decide +kernel) ⟨Nat.le_of_ble_eq_true rfl, Nat.le_of_ble_eq_true rfl⟩) g1 rfl (Nat.le_of_ble_eq_true rfl) ⟨by dsimp only; omega, by dsimp only; omega⟩ dX7_takeContent_13 (fun r1 M9 hp9 => ?_)
  obtain ⟨rfl, rfl⟩ := hp9
  refine xr_istore_n C dX7_takeContent_16 (by decide) rfl ?_
  refine xr_aload_n C dX7_takeContent_17 rfl ?_
  refine xr_get C (Cn := RX7) (T := TX7) (N := 8) (by decide +kernel) g1 rfl 1 (by decide) (C.1.2.2.2.2 (.fieldLink RX7 15 "OssuaryVault$Reading" "stream" "LOssuaryVault$Bytes;") (by decide +kernel)) (fun _ h => h) rfl dX7_takeContent_18 ?_
  refine xr_aload_n C dX7_takeContent_21 rfl ?_
  refine xr_getN C (Cn := RX5) (T := TX5) (N := 5) (by decide +kernel) hX.1 rfl 2 (by decide) (va_Nw.use rfl (C.2.2.1 ("OssuaryVault$Reading", 98, "OssuaryVault$FoundFile", "place", "I", "OssuaryVault") (by decide +kernel))) (fun _ h => h) rfl dX7_takeContent_22 ?_
  refine xr_iconst (n := 1) C dX7_takeContent_25 (by decide +kernel) ?_
  refine xr_iadd C dX7_takeContent_26 ?_
  refine xr_callV1i C (c_at l G _ _ _ _ M g2 (pl + 1) (by omega)) (cwV 1 C.1.2.2.2.2 gX7_takeContent_X0_at rfl rfl rfl (by decide +kernel) ⟨Nat.le_of_ble_eq_true rfl, Nat.le_of_ble_eq_true rfl⟩) g2.1 rfl (Nat.le_of_ble_eq_true rfl) ⟨by dsimp only; omega, by dsimp only; omega⟩ dX7_takeContent_27 (fun r2 M9 hp9 => ?_)
  obtain ⟨rfl, rfl⟩ := hp9
  refine xr_iconst (n := 1) C dX7_takeContent_30 (by decide +kernel) ?_
  refine xr_icmp_ne C dX7_takeContent_31 rfl (by first | omega | (dsimp only; omega)) (by first | omega | (dsimp only; omega)) (fun hq3 => ?_) (fun hq3 => ?_)
  · refine xr_iload_n C dX7_takeContent_48 rfl ?_
    refine xr_iload_n C dX7_takeContent_49 rfl ?_
    refine xr_isub C dX7_takeContent_50 ?_
    refine xr_sipush (n := 240) C dX7_takeContent_51 (by decide +kernel) ?_
    refine xr_icmp_le C dX7_takeContent_54 rfl (by first | omega | (dsimp only; omega)) (by first | omega | (dsimp only; omega)) (fun hq4 => ?_) (fun hq4 => ?_)
    · have hC9 : rdC S pl = some (mq_part S (pl + 8) (rdEnd S pl - (pl + 8)).toNat) := by unfold rdC; rw [if_neg (by omega), if_neg (by omega)]
      refine xr_aload_n C dX7_takeContent_59 rfl ?_
      refine xr_getN C (Cn := RX5) (T := TX5) (N := 5) (by decide +kernel) hX.1 rfl 0 (by decide) (va_Nw.use rfl (C.2.2.1 ("OssuaryVault$Reading", 114, "OssuaryVault$FoundFile", "content", "LOssuaryVault$Bytes;", "OssuaryVault") (by decide +kernel))) (fun _ h => h) rfl dX7_takeContent_60 ?_
      refine xr_callV0v C (c_clear l G _ _ _ _ M hX.2) (cwV 0 C.1.2.2.2.2 gX7_takeContent_X0_clear rfl rfl rfl (by decide +kernel) ⟨Nat.le_of_ble_eq_true rfl, Nat.le_of_ble_eq_true rfl⟩) hX.2.1 rfl (Nat.le_of_ble_eq_true rfl) ⟨by dsimp only; omega, by dsimp only; omega⟩ dX7_takeContent_63 (fun M1 hp1 => ?_)
      obtain ⟨hB1, hF1⟩ := hp1
      change mq_FR La [156 + 3 * k] M M1 at hF1
      have hT1 : ∀ r ∈ [156 + 3 * k], r < 275 := by intro r hr; simp at hr; omega
      have hx1 := (hF1 (La (155 + 3 * k)) (mq_ni hI (by omega) hT1 (by simp))).trans hX.1
      have k1 := (hF1 (La 20) (mq_ni hI (by decide) hT1 (by simp; omega))).trans g1
      have k2 := g2.fr hF1 (mq_ni hI (by decide) hT1 (by simp; omega)) (mq_ni hI (by decide) hT1 (by simp; omega))
      refine xr_aload_n C dX7_takeContent_66 rfl ?_
      refine xr_getN C (Cn := RX5) (T := TX5) (N := 5) (by decide +kernel) hx1 rfl 0 (by decide) (va_Nw.use rfl (C.2.2.1 ("OssuaryVault$Reading", 114, "OssuaryVault$FoundFile", "content", "LOssuaryVault$Bytes;", "OssuaryVault") (by decide +kernel))) (fun _ h => h) rfl dX7_takeContent_67 ?_
      refine xr_aload_n C dX7_takeContent_70 rfl ?_
      refine xr_get C (Cn := RX7) (T := TX7) (N := 8) (by decide +kernel) k1 rfl 1 (by decide) (C.1.2.2.2.2 (.fieldLink RX7 15 "OssuaryVault$Reading" "stream" "LOssuaryVault$Bytes;") (by decide +kernel)) (fun _ h => h) rfl dX7_takeContent_71 ?_
      refine xr_iload_n C dX7_takeContent_74 rfl ?_
      refine xr_iload_n C dX7_takeContent_75 rfl ?_
      refine xr_iload_n C dX7_takeContent_76 rfl ?_
      refine xr_isub C dX7_takeContent_77 ?_
      rw [show rdEnd S pl - (pl + 8) = (((rdEnd S pl - (pl + 8)).toNat : Nat) : Int) by omega]
      refine xr_callV3v C (c_addPart l G _ _ _ _ M1 hB1 _ _ _ _ k2 ⟨mq_ne hI (by decide) hx9 (by omega), mq_ne hI (by decide) (by omega) (by omega), mq_ne hI (by decide) hx9 (by omega), mq_ne hI (by decide) (by omega) (by omega)⟩ (pl + 8) (rdEnd S pl - (pl + 8)).toNat (by omega) (by simp; omega)) (cwV 3 C.1.2.2.2.2 gX7_takeContent_X0_addPart rfl rfl rfl (by decide +kernel) ⟨Nat.le_of_ble_eq_true rfl, Nat.le_of_ble_eq_true rfl⟩) hB1.1 rfl (Nat.le_of_ble_eq_true rfl) ⟨by dsimp only; omega, by dsimp only; omega⟩ dX7_takeContent_78 (fun M2 hp2 => ?_)
      obtain ⟨hB2, hF2⟩ := hp2
      change mq_FR La [156 + 3 * k, 157 + 3 * k] M1 M2 at hF2
      have hx2 := (hF2 (La (155 + 3 * k)) (mq_ni hI (by omega) hT9 (by simp))).trans hx1
      rw [List.nil_append] at hB2
      refine xr_iconst (n := 1) C dX7_takeContent_81 (by decide +kernel) ?_
      exact xr_zret C hr (by decide +kernel) hlk ⟨_, rfl, by rw [hC9]; rfl, ⟨_, ⟨hx2, hB2⟩, hB2.2.2.1, fun c2 e => by rw [hC9] at e; exact Option.some.inj e⟩, (hF1.sub (by simp)).tr hF2⟩ (by omega) (by omega) dX7_takeContent_82
    · refine xr_iconst (n := 0) C dX7_takeContent_57 (by decide +kernel) ?_
      have hC9 : rdC S pl = none := by unfold rdC; rw [if_neg (by omega), if_pos (by omega)]
      exact xr_zret C hr (by decide +kernel) hlk ⟨_, rfl, by rw [hC9]; rfl, ⟨_, hX, hX.2.2.2.1, fun c2 e => by rw [hC9] at e; cases e⟩, mq_F.rf⟩ (by omega) (by omega) dX7_takeContent_58
  · have hC9 : rdC S pl = upk S (rdEnd S pl) (rdEnd S pl - (pl + 8)).toNat (pl + 8) [] := if_pos (by omega)
    refine xr_aload_n C dX7_takeContent_34 rfl ?_
    refine xr_get C (Cn := RX7) (T := TX7) (N := 8) (by decide +kernel) g1 rfl 1 (by decide) (C.1.2.2.2.2 (.fieldLink RX7 15 "OssuaryVault$Reading" "stream" "LOssuaryVault$Bytes;") (by decide +kernel)) (fun _ h => h) rfl dX7_takeContent_35 ?_
    refine xr_iload_n C dX7_takeContent_38 rfl ?_
    refine xr_iload_n C dX7_takeContent_39 rfl ?_
    refine xr_aload_n C dX7_takeContent_40 rfl ?_
    refine xr_getN C (Cn := RX5) (T := TX5) (N := 5) (by decide +kernel) hX.1 rfl 0 (by decide) (va_Nw.use rfl (C.2.2.1 ("OssuaryVault$Reading", 114, "OssuaryVault$FoundFile", "content", "LOssuaryVault$Bytes;", "OssuaryVault") (by decide +kernel))) (fun _ h => h) rfl dX7_takeContent_41 ?_
    refine xr_callS4i C (c_unpack l G _ _ _ _ M g2 _ _ _ _ hX.2 (Nat.le_refl _) ⟨mq_ne hI (by decide) hx9 (by omega), mq_ne hI (by decide) (by omega) (by omega), mq_ne hI (by decide) hx9 (by omega), mq_ne hI (by decide) (by omega) (by omega)⟩ (pl + 8) (rdEnd S pl) (by omega) (by omega)) (va_cwS 4 C.1.2.2.2.2 gX7_takeContent_X6_unpack rfl rfl rfl (by decide +kernel) ⟨Nat.le_of_ble_eq_true rfl, Nat.le_of_ble_eq_true rfl⟩) (Nat.le_of_ble_eq_true rfl) ⟨by dsimp only; omega, by dsimp only; omega⟩ dX7_takeContent_44 (fun r9 M9 hp9 => ?_)
    obtain ⟨hr9, hF9⟩ := hp9
    change mq_FR La [156 + 3 * k, 157 + 3 * k] M M9 at hF9
    have hx := (hF9 (La (155 + 3 * k)) (mq_ni hI (by omega) hT9 (by simp))).trans hX.1
    rw [← hC9] at hr9
    have hres : r9 = mq_b (rdC S pl).isSome ∧ (∃ c, ffV G M9 La k c (fk k) pl (ft k) (fg k) ∧ c.length ≤ 240 ∧ ∀ c2, rdC S pl = some c2 → c = c2) := by
      rcases hr9 with ⟨h1, c, h2, h3, h4⟩ | ⟨h1, h2, c, h4⟩
      · exact ⟨by rw [h1, h2]; rfl, c, ⟨hx, h4⟩, h3, fun c2 e => by rw [h2] at e; exact Option.some.inj e⟩
      · exact ⟨by rw [h1, h2]; rfl, c, ⟨hx, h4⟩, h4.2.2.1, fun c2 e => by rw [h2] at e; cases e⟩
    exact xr_zret C hr (by rw [hres.1]; cases (rdC S pl).isSome <;> decide +kernel) hlk ⟨_, rfl, hres.1, hres.2, hF9⟩ (by omega) (by omega) dX7_takeContent_47
set_option maxHeartbeats 4000000 in
set_option maxRecDepth 100000 in
theorem c_readsWell (l : Launch) (G : mq_G) (La : Nat → Nat) (hI : mq_inj La) (op : Bool) (da pa : Int) (ix : Bool) (n : Nat) (S : List Nat) (fc : Nat → List Nat) (fk fp ft : Nat → Int) (fg : Nat → Bool) (M : mq_M) (hS : rdI G M La op da pa ix n S fc fk fp ft fg) (k : Nat) (hk : k < 40) (hR : rdR fk fp ft) (hC : ckI G M (La 1) (La 2)) : mq_T l yX7_readsWell wsX7_readsWell { frames := 4, cells := 0, slots := 0, locals := 97 } G [.ref (La 20), .ref (La (155 + 3 * k))] M (mq_pi (fun r M2 => r = mq_b (rdW S (fk k) (fp k) (ft k)).isSome ∧ (∃ c, ffV G M2 La k c (fk k) (fp k) (ft k) (fg k) ∧ ∀ c2, rdW S (fk k) (fp k) (ft k) = some c2 → c = c2) ∧ mq_FR La [156 + 3 * k, 157 + 3 * k] M M2)) 0 0 := by
  refine mq_Met.of (cc := cX7_readsWell) (maxL := 2) (ret := (some .boolean)) (by decide) rfl (Nat.le_of_ble_eq_true rfl) rfl rfl ?_
  intro p_ e_ s_ m_ args_ below_ meth_ c_ z_ C hr hlk hname
  have hS0 := hS
  obtain ⟨g1, g2, ⟨ff, g3, g4⟩, g5⟩ := hS
  have hSl : S.length ≤ 40700 := g2.2.2.1
  have hSb := g2.2.2.2.2.1
  have hX := g5 k hk
  have hRk := hR k hk
  have w2 := mq_wd_lt hSb (fp k + 2)
  have w6 := mq_wd_lt hSb (fp k + 6)
  have hT9 : ∀ r ∈ [156 + 3 * k, 157 + 3 * k], r < 275 := by intro r hr; simp at hr; omega
  refine xr_aload_n C dX7_readsWell_0 rfl ?_
  refine xr_aload_n C dX7_readsWell_1 rfl ?_
  refine xr_getN C (Cn := RX5) (T := TX5) (N := 5) (by decide +kernel) hX.1 rfl 2 (by decide) (va_Nw.use rfl (C.2.2.1 ("OssuaryVault$Reading", 98, "OssuaryVault$FoundFile", "place", "I", "OssuaryVault") (by decide +kernel))) (fun _ h => h) rfl dX7_readsWell_2 ?_
  refine xr_callV1i C (c_liesAt l G La hI op da pa ix n S fc fk fp ft fg M hS0 (fp k) (by omega)) (cwV 1 C.1.2.2.2.2 gX7_readsWell_X7_liesAt rfl rfl rfl (by decide +kernel) ⟨Nat.le_of_ble_eq_true rfl, Nat.le_of_ble_eq_true rfl⟩) g1 rfl (Nat.le_of_ble_eq_true rfl) ⟨by dsimp only; omega, by dsimp only; omega⟩ dX7_readsWell_5 (fun r1 M9 hp9 => ?_)
  obtain ⟨rfl, rfl⟩ := hp9
  cases hl : rdLies S (fp k)
  · refine xr_if_eq C dX7_readsWell_8 rfl (by decide) (fun _ => ?_) (fun hq => absurd hq (by decide))
    have hW : rdW S (fk k) (fp k) (ft k) = none := if_neg (by rw [hl]; simp)
    refine xr_iconst (n := 0) C dX7_readsWell_100 (by decide +kernel) ?_
    exact xr_zret C hr (by decide +kernel) hlk ⟨_, rfl, by rw [hW]; rfl, ⟨_, hX, fun c2 e => by rw [hW] at e; cases e⟩, mq_F.rf⟩ (by omega) (by omega) dX7_readsWell_101
  · refine xr_if_eq C dX7_readsWell_8 rfl (by decide) (fun hq => absurd hq (by decide)) (fun _ => ?_)
    refine xr_aload_n C dX7_readsWell_11 rfl ?_
    refine xr_get C (Cn := RX7) (T := TX7) (N := 8) (by decide +kernel) g1 rfl 1 (by decide) (C.1.2.2.2.2 (.fieldLink RX7 15 "OssuaryVault$Reading" "stream" "LOssuaryVault$Bytes;") (by decide +kernel)) (fun _ h => h) rfl dX7_readsWell_12 ?_
    refine xr_aload_n C dX7_readsWell_15 rfl ?_
    refine xr_getN C (Cn := RX5) (T := TX5) (N := 5) (by decide +kernel) hX.1 rfl 2 (by decide) (va_Nw.use rfl (C.2.2.1 ("OssuaryVault$Reading", 98, "OssuaryVault$FoundFile", "place", "I", "OssuaryVault") (by decide +kernel))) (fun _ h => h) rfl dX7_readsWell_16 ?_
    refine xr_iconst (n := 2) C dX7_readsWell_19 (by decide +kernel) ?_
    refine xr_iadd C dX7_readsWell_20 ?_
    refine xr_callV1i C (c_word l G _ _ _ _ M g2 (fp k + 2) (by omega)) (cwV 1 C.1.2.2.2.2 gX7_readsWell_X0_word rfl rfl rfl (by decide +kernel) ⟨Nat.le_of_ble_eq_true rfl, Nat.le_of_ble_eq_true rfl⟩) g2.1 rfl (Nat.le_of_ble_eq_true rfl) ⟨by dsimp only; omega, by dsimp only; omega⟩ dX7_readsWell_21 (fun r2 M9 hp9 => ?_)
    obtain ⟨rfl, rfl⟩ := hp9
    refine xr_aload_n C dX7_readsWell_24 rfl ?_
    refine xr_getN C (Cn := RX5) (T := TX5) (N := 5) (by decide +kernel) hX.1 rfl 1 (by decide) (va_Nw.use rfl (C.2.2.1 ("OssuaryVault$Reading", 95, "OssuaryVault$FoundFile", "key", "I", "OssuaryVault") (by decide +kernel))) (fun _ h => h) rfl dX7_readsWell_25 ?_
    refine xr_icmp_ne C dX7_readsWell_28 rfl (by first | omega | (dsimp only; omega)) (by first | omega | (dsimp only; omega)) (fun hq3 => ?_) (fun hq3 => ?_)
    · have hW : rdW S (fk k) (fp k) (ft k) = none := if_neg (by omega)
      refine xr_iconst (n := 0) C dX7_readsWell_100 (by decide +kernel) ?_
      exact xr_zret C hr (by decide +kernel) hlk ⟨_, rfl, by rw [hW]; rfl, ⟨_, hX, fun c2 e => by rw [hW] at e; cases e⟩, mq_F.rf⟩ (by omega) (by omega) dX7_readsWell_101
    · have hW : rdW S (fk k) (fp k) (ft k) = (rdC S (fp k)).bind (fun c => if (ft k < 0 ∨ (c.length : Int) = ft k) ∧ crF 65535 c = mq_wd S (fp k + 6) then some c else none) := if_pos ⟨hl, by omega⟩
      refine xr_aload_n C dX7_readsWell_31 rfl ?_
      refine xr_aload_n C dX7_readsWell_32 rfl ?_
      refine xr_callV1i C (c_takeContent l G La hI op da pa ix n S fc fk fp ft fg M hS0 k hk hR hl) (cwV 1 C.1.2.2.2.2 gX7_readsWell_X7_takeContent rfl rfl rfl (by decide +kernel) ⟨Nat.le_of_ble_eq_true rfl, Nat.le_of_ble_eq_true rfl⟩) g1 rfl (Nat.le_of_ble_eq_true rfl) ⟨by dsimp only; omega, by dsimp only; omega⟩ dX7_readsWell_33 (fun r9 M9 hp9 => ?_)
      obtain ⟨rfl, ⟨c9, hX9, hc9, hu9⟩, hF9⟩ := hp9
      have j1 := (hF9 (La 20) (mq_ni hI (by decide) hT9 (by simp; omega))).trans g1
      have j2 := g2.fr hF9 (mq_ni hI (by decide) hT9 (by simp; omega)) (mq_ni hI (by decide) hT9 (by simp; omega))
      have jC := hC.fr hF9 (mq_ni hI (by decide) hT9 (by simp; omega)) (mq_ni hI (by decide) hT9 (by simp; omega))
      have hcr : crF 65535 c9 < 65536 := crF_lt (by decide) _
      rcases hC9 : rdC S (fp k) with _ | c8
      · rw [hC9] at hW
        change rdW S (fk k) (fp k) (ft k) = none at hW
        refine xr_if_eq C dX7_readsWell_36 rfl (by decide) (fun _ => ?_) (fun hq => absurd hq (by decide))
        refine xr_iconst (n := 0) C dX7_readsWell_100 (by decide +kernel) ?_
        exact xr_zret C hr (by decide +kernel) hlk ⟨_, rfl, by rw [hW]; rfl, ⟨_, hX9, fun c2 e => by rw [hW] at e; cases e⟩, hF9⟩ (by omega) (by omega) dX7_readsWell_101
      · obtain rfl := hu9 c8 hC9
        rw [hC9] at hW
        change rdW S (fk k) (fp k) (ft k) = (if (ft k < 0 ∨ (c9.length : Int) = ft k) ∧ crF 65535 c9 = mq_wd S (fp k + 6) then some c9 else none) at hW
        change mq_X _ _ _ _ _ _ _ _ _ _ _ _ _ _ _ _ _ _ _ _ [.int (zI 1)]
        refine xr_if_eq C dX7_readsWell_36 rfl (by decide) (fun hq => absurd hq (by decide)) (fun _ => ?_)
        refine xr_aload_n C dX7_readsWell_39 rfl ?_
        refine xr_getN C (Cn := RX5) (T := TX5) (N := 5) (by decide +kernel) hX9.1 rfl 3 (by decide) (va_Nw.use rfl (C.2.2.1 ("OssuaryVault$Reading", 101, "OssuaryVault$FoundFile", "lengthTold", "I", "OssuaryVault") (by decide +kernel))) (fun _ h => h) rfl dX7_readsWell_40 ?_
        refine xr_if_lt C dX7_readsWell_43 rfl (by first | omega | (dsimp only; omega)) (fun hq4 => ?_) (fun hq4 => ?_)
        · refine xr_aload_n C dX7_readsWell_60 rfl ?_
          refine xr_get C (Cn := RX7) (T := TX7) (N := 8) (by decide +kernel) j1 rfl 0 (by decide) (C.1.2.2.2.2 (.fieldLink RX7 27 "OssuaryVault$Reading" "check" "LOssuaryVault$Check;") (by decide +kernel)) (fun _ h => h) rfl dX7_readsWell_61 ?_
          refine xr_aload_n C dX7_readsWell_64 rfl ?_
          refine xr_getN C (Cn := RX5) (T := TX5) (N := 5) (by decide +kernel) hX9.1 rfl 0 (by decide) (va_Nw.use rfl (C.2.2.1 ("OssuaryVault$Reading", 114, "OssuaryVault$FoundFile", "content", "LOssuaryVault$Bytes;", "OssuaryVault") (by decide +kernel))) (fun _ h => h) rfl dX7_readsWell_65 ?_
          refine xr_iconst (n := 0) C dX7_readsWell_68 (by decide +kernel) ?_
          refine xr_aload_n C dX7_readsWell_69 rfl ?_
          refine xr_getN C (Cn := RX5) (T := TX5) (N := 5) (by decide +kernel) hX9.1 rfl 0 (by decide) (va_Nw.use rfl (C.2.2.1 ("OssuaryVault$Reading", 114, "OssuaryVault$FoundFile", "content", "LOssuaryVault$Bytes;", "OssuaryVault") (by decide +kernel))) (fun _ h => h) rfl dX7_readsWell_70 ?_
          refine xr_callV0i C (c_size l G _ _ _ _ M9 hX9.2) (cwV 0 C.1.2.2.2.2 gX7_readsWell_X0_size rfl rfl rfl (by decide +kernel) ⟨Nat.le_of_ble_eq_true rfl, Nat.le_of_ble_eq_true rfl⟩) hX9.2.1 rfl (Nat.le_of_ble_eq_true rfl) ⟨by dsimp only; omega, by dsimp only; omega⟩ dX7_readsWell_73 (fun r5 M9 hp9 => ?_)
          obtain ⟨rfl, rfl⟩ := hp9
          refine xr_callV3i C (c_over l G _ _ M9 jC _ _ _ _ hX9.2 0 (c9.length : Int) (by decide) (by omega)) (cwV 3 C.1.2.2.2.2 gX7_readsWell_X1_over rfl rfl rfl (by decide +kernel) ⟨Nat.le_of_ble_eq_true rfl, Nat.le_of_ble_eq_true rfl⟩) jC.1 rfl (Nat.le_of_ble_eq_true rfl) ⟨by dsimp only; omega, by dsimp only; omega⟩ dX7_readsWell_76 (fun r6 M9 hp9 => ?_)
          obtain ⟨rfl, rfl⟩ := hp9
          rw [show ((c9.length : Int) - 0).toNat = c9.length by omega, mq_part_all]
          refine xr_aload_n C dX7_readsWell_79 rfl ?_
          refine xr_get C (Cn := RX7) (T := TX7) (N := 8) (by decide +kernel) j1 rfl 1 (by decide) (C.1.2.2.2.2 (.fieldLink RX7 15 "OssuaryVault$Reading" "stream" "LOssuaryVault$Bytes;") (by decide +kernel)) (fun _ h => h) rfl dX7_readsWell_80 ?_
          refine xr_aload_n C dX7_readsWell_83 rfl ?_
          refine xr_getN C (Cn := RX5) (T := TX5) (N := 5) (by decide +kernel) hX9.1 rfl 2 (by decide) (va_Nw.use rfl (C.2.2.1 ("OssuaryVault$Reading", 98, "OssuaryVault$FoundFile", "place", "I", "OssuaryVault") (by decide +kernel))) (fun _ h => h) rfl dX7_readsWell_84 ?_
          refine xr_bipush (n := 6) C dX7_readsWell_87 (by decide +kernel) ?_
          refine xr_iadd C dX7_readsWell_89 ?_
          refine xr_callV1i C (c_word l G _ _ _ _ M9 j2 (fp k + 6) (by omega)) (cwV 1 C.1.2.2.2.2 gX7_readsWell_X0_word rfl rfl rfl (by decide +kernel) ⟨Nat.le_of_ble_eq_true rfl, Nat.le_of_ble_eq_true rfl⟩) j2.1 rfl (Nat.le_of_ble_eq_true rfl) ⟨by dsimp only; omega, by dsimp only; omega⟩ dX7_readsWell_90 (fun r7 M9 hp9 => ?_)
          obtain ⟨rfl, rfl⟩ := hp9
          refine xr_icmp_ne C dX7_readsWell_93 rfl (by first | omega | (dsimp only; omega)) (by first | omega | (dsimp only; omega)) (fun hq8 => ?_) (fun hq8 => ?_)
          · rw [if_neg (by omega)] at hW
            refine xr_iconst (n := 0) C dX7_readsWell_100 (by decide +kernel) ?_
            exact xr_zret C hr (by decide +kernel) hlk ⟨_, rfl, by rw [hW]; rfl, ⟨_, hX9, fun c2 e => by rw [hW] at e; cases e⟩, hF9⟩ (by omega) (by omega) dX7_readsWell_101
          · rw [if_pos (by omega)] at hW
            refine xr_iconst (n := 1) C dX7_readsWell_96 (by decide +kernel) ?_
            refine xr_goto C dX7_readsWell_97 rfl ?_
            exact xr_zret C hr (by decide +kernel) hlk ⟨_, rfl, by rw [hW]; rfl, ⟨_, hX9, fun c2 e => by rw [hW] at e; exact Option.some.inj e⟩, hF9⟩ (by omega) (by omega) dX7_readsWell_101
        · refine xr_aload_n C dX7_readsWell_46 rfl ?_
          refine xr_getN C (Cn := RX5) (T := TX5) (N := 5) (by decide +kernel) hX9.1 rfl 0 (by decide) (va_Nw.use rfl (C.2.2.1 ("OssuaryVault$Reading", 114, "OssuaryVault$FoundFile", "content", "LOssuaryVault$Bytes;", "OssuaryVault") (by decide +kernel))) (fun _ h => h) rfl dX7_readsWell_47 ?_
          refine xr_callV0i C (c_size l G _ _ _ _ M9 hX9.2) (cwV 0 C.1.2.2.2.2 gX7_readsWell_X0_size rfl rfl rfl (by decide +kernel) ⟨Nat.le_of_ble_eq_true rfl, Nat.le_of_ble_eq_true rfl⟩) hX9.2.1 rfl (Nat.le_of_ble_eq_true rfl) ⟨by dsimp only; omega, by dsimp only; omega⟩ dX7_readsWell_50 (fun r9 M9 hp9 => ?_)
          obtain ⟨rfl, rfl⟩ := hp9
          refine xr_aload_n C dX7_readsWell_53 rfl ?_
          refine xr_getN C (Cn := RX5) (T := TX5) (N := 5) (by decide +kernel) hX9.1 rfl 3 (by decide) (va_Nw.use rfl (C.2.2.1 ("OssuaryVault$Reading", 101, "OssuaryVault$FoundFile", "lengthTold", "I", "OssuaryVault") (by decide +kernel))) (fun _ h => h) rfl dX7_readsWell_54 ?_
          refine xr_icmp_ne C dX7_readsWell_57 rfl (by first | omega | (dsimp only; omega)) (by first | omega | (dsimp only; omega)) (fun hq10 => ?_) (fun hq10 => ?_)
          · rw [if_neg (by omega)] at hW
            refine xr_iconst (n := 0) C dX7_readsWell_100 (by decide +kernel) ?_
            exact xr_zret C hr (by decide +kernel) hlk ⟨_, rfl, by rw [hW]; rfl, ⟨_, hX9, fun c2 e => by rw [hW] at e; cases e⟩, hF9⟩ (by omega) (by omega) dX7_readsWell_101
          · refine xr_aload_n C dX7_readsWell_60 rfl ?_
            refine xr_get C (Cn := RX7) (T := TX7) (N := 8) (by decide +kernel) j1 rfl 0 (by decide) (C.1.2.2.2.2 (.fieldLink RX7 27 "OssuaryVault$Reading" "check" "LOssuaryVault$Check;") (by decide +kernel)) (fun _ h => h) rfl dX7_readsWell_61 ?_
            refine xr_aload_n C dX7_readsWell_64 rfl ?_
            refine xr_getN C (Cn := RX5) (T := TX5) (N := 5) (by decide +kernel) hX9.1 rfl 0 (by decide) (va_Nw.use rfl (C.2.2.1 ("OssuaryVault$Reading", 114, "OssuaryVault$FoundFile", "content", "LOssuaryVault$Bytes;", "OssuaryVault") (by decide +kernel))) (fun _ h => h) rfl dX7_readsWell_65 ?_
            refine xr_iconst (n := 0) C dX7_readsWell_68 (by decide +kernel) ?_
            refine xr_aload_n C dX7_readsWell_69 rfl ?_
            refine xr_getN C (Cn := RX5) (T := TX5) (N := 5) (by decide +kernel) hX9.1 rfl 0 (by decide) (va_Nw.use rfl (C.2.2.1 ("OssuaryVault$Reading", 114, "OssuaryVault$FoundFile", "content", "LOssuaryVault$Bytes;", "OssuaryVault") (by decide +kernel))) (fun _ h => h) rfl dX7_readsWell_70 ?_
            refine xr_callV0i C (c_size l G _ _ _ _ M9 hX9.2) (cwV 0 C.1.2.2.2.2 gX7_readsWell_X0_size rfl rfl rfl (by decide +kernel) ⟨Nat.le_of_ble_eq_true rfl, Nat.le_of_ble_eq_true rfl⟩) hX9.2.1 rfl (Nat.le_of_ble_eq_true rfl) ⟨by dsimp only; omega, by dsimp only; omega⟩ dX7_readsWell_73 (fun r11 M9 hp9 => ?_)
            obtain ⟨rfl, rfl⟩ := hp9
            refine xr_callV3i C (c_over l G _ _ M9 jC _ _ _ _ hX9.2 0 (c9.length : Int) (by decide) (by omega)) (cwV 3 C.1.2.2.2.2 gX7_readsWell_X1_over rfl rfl rfl (by decide +kernel) ⟨Nat.le_of_ble_eq_true rfl, Nat.le_of_ble_eq_true rfl⟩) jC.1 rfl (Nat.le_of_ble_eq_true rfl) ⟨by dsimp only; omega, by dsimp only; omega⟩ dX7_readsWell_76 (fun r12 M9 hp9 => ?_)
            obtain ⟨rfl, rfl⟩ := hp9
            rw [show ((c9.length : Int) - 0).toNat = c9.length by omega, mq_part_all]
            refine xr_aload_n C dX7_readsWell_79 rfl ?_
            refine xr_get C (Cn := RX7) (T := TX7) (N := 8) (by decide +kernel) j1 rfl 1 (by decide) (C.1.2.2.2.2 (.fieldLink RX7 15 "OssuaryVault$Reading" "stream" "LOssuaryVault$Bytes;") (by decide +kernel)) (fun _ h => h) rfl dX7_readsWell_80 ?_
            refine xr_aload_n C dX7_readsWell_83 rfl ?_
            refine xr_getN C (Cn := RX5) (T := TX5) (N := 5) (by decide +kernel) hX9.1 rfl 2 (by decide) (va_Nw.use rfl (C.2.2.1 ("OssuaryVault$Reading", 98, "OssuaryVault$FoundFile", "place", "I", "OssuaryVault") (by decide +kernel))) (fun _ h => h) rfl dX7_readsWell_84 ?_
            refine xr_bipush (n := 6) C dX7_readsWell_87 (by decide +kernel) ?_
            refine xr_iadd C dX7_readsWell_89 ?_
            refine xr_callV1i C (c_word l G _ _ _ _ M9 j2 (fp k + 6) (by omega)) (cwV 1 C.1.2.2.2.2 gX7_readsWell_X0_word rfl rfl rfl (by decide +kernel) ⟨Nat.le_of_ble_eq_true rfl, Nat.le_of_ble_eq_true rfl⟩) j2.1 rfl (Nat.le_of_ble_eq_true rfl) ⟨by dsimp only; omega, by dsimp only; omega⟩ dX7_readsWell_90 (fun r13 M9 hp9 => ?_)
            obtain ⟨rfl, rfl⟩ := hp9
            refine xr_icmp_ne C dX7_readsWell_93 rfl (by first | omega | (dsimp only; omega)) (by first | omega | (dsimp only; omega)) (fun hq14 => ?_) (fun hq14 => ?_)
            · rw [if_neg (by omega)] at hW
              refine xr_iconst (n := 0) C dX7_readsWell_100 (by decide +kernel) ?_
              exact xr_zret C hr (by decide +kernel) hlk ⟨_, rfl, by rw [hW]; rfl, ⟨_, hX9, fun c2 e => by rw [hW] at e; cases e⟩, hF9⟩ (by omega) (by omega) dX7_readsWell_101
            · rw [if_pos (by omega)] at hW
              refine xr_iconst (n := 1) C dX7_readsWell_96 (by decide +kernel) ?_
              refine xr_goto C dX7_readsWell_97 rfl ?_
              exact xr_zret C hr (by decide +kernel) hlk ⟨_, rfl, by rw [hW]; rfl, ⟨_, hX9, fun c2 e => by rw [hW] at e; exact Option.some.inj e⟩, hF9⟩ (by omega) (by omega) dX7_readsWell_101
set_option maxHeartbeats 4000000 in
set_option maxRecDepth 100000 in
theorem c_judgeFiles (l : Launch) (G : mq_G) (La : Nat → Nat) (hI : mq_inj La) (op : Bool) (da pa : Int) (ix : Bool) (n : Nat) (S : List Nat) (fc : Nat → List Nat) (fk fp ft : Nat → Int) (fg : Nat → Bool) (M : mq_M) (hS : rdI G M La op da pa ix n S fc fk fp ft fg) (hR : rdR fk fp ft) (hC : ckI G M (La 1) (La 2)) (hn : n ≤ 40) : mq_T l yX7_judgeFiles wsX7_judgeFiles { frames := 5, cells := 0, slots := 0, locals := 118 } G [.ref (La 20)] M (mq_pv (fun M2 => (∃ (fc2 : Nat → List Nat) (fg2 : Nat → Bool), rdI G M2 La op da pa ix n S fc2 fk fp ft fg2 ∧ ∀ k, k < n → fg2 k = (rdW S (fk k) (fp k) (ft k)).isSome ∧ ∀ c, rdW S (fk k) (fp k) (ft k) = some c → fc2 k = c) ∧ mq_FR La mq_TR M M2)) 0 0 := by
  refine mq_Met.of (cc := cX7_judgeFiles) (maxL := 3) (ret := none) (by decide) rfl (Nat.le_of_ble_eq_true rfl) rfl rfl ?_
  intro p_ e_ s_ m_ args_ below_ meth_ c_ z_ C hr hlk hname
  have hSl : S.length ≤ 40700 := hS.2.1.2.2.1
  refine xr_iconst (n := 0) C dX7_judgeFiles_0 (by decide +kernel) ?_
  refine xr_istore_n C dX7_judgeFiles_1 (by decide) rfl ?_
  refine mq_loop (σ := Nat × mq_M × (Nat → List Nat) × (Nat → Bool)) (fun y => y.1 ≤ n ∧ rdI G y.2.1 La op da pa ix n S y.2.2.1 fk fp ft y.2.2.2 ∧ (∀ k, k < y.1 → y.2.2.2 k = (rdW S (fk k) (fp k) (ft k)).isSome ∧ ∀ c, rdW S (fk k) (fp k) (ft k) = some c → y.2.2.1 k = c) ∧ mq_FR La mq_TR M y.2.1) (fun y => n - y.1) (fun y => y.2.1) (fun y => [some (.ref (La 20)), some (.int (zI (y.1 : Int))), none]) (fun y => []) ?_ (0, M, fc, fg) ⟨Nat.zero_le _, hS, (fun k hk => by omega), mq_F.rf⟩
  rintro ⟨k, M3, c3, b3⟩ ⟨hi, hS3, hv3, hF3⟩ ih
  dsimp only at hi hS3 hv3 hF3 ih ⊢
  have hS3c := hS3
  obtain ⟨j1, j2, ⟨ff3, j3, j4⟩, j5⟩ := hS3
  have hC3 := hC.fr hF3 (mq_ni hI (by decide) mq_TRl (fun q => by have := mq_TRm.mp q; omega)) (mq_ni hI (by decide) mq_TRl (fun q => by have := mq_TRm.mp q; omega))
  refine xr_iload_n C dX7_judgeFiles_2 rfl ?_
  refine xr_aload_n C dX7_judgeFiles_3 rfl ?_
  refine xr_get C (Cn := RX7) (T := TX7) (N := 8) (by decide +kernel) j1 rfl 7 (by decide) (C.1.2.2.2.2 (.fieldLink RX7 32 "OssuaryVault$Reading" "count" "I") (by decide +kernel)) (fun _ h => h) rfl dX7_judgeFiles_4 ?_
  refine xr_icmp_ge C dX7_judgeFiles_7 rfl (by first | omega | (dsimp only; omega)) (by first | omega | (dsimp only; omega)) (fun hq1 => ?_) (fun hq1 => ?_)
  · exact xr_vret C hr hlk ⟨rfl, ⟨c3, b3, hS3c, fun k hk => hv3 k (by omega)⟩, hF3⟩ (by omega) (by omega) dX7_judgeFiles_35
  · have hk40 : k < 40 := by omega
    refine xr_aload_n C dX7_judgeFiles_10 rfl ?_
    refine xr_iload_n C dX7_judgeFiles_11 rfl ?_
    refine xr_callV1a C (c_rdAt l G La hI _ _ _ _ _ _ _ _ _ _ _ M3 hS3c k (by omega) hk40 hn) (cwV 1 C.1.2.2.2.2 gX7_judgeFiles_X7_at rfl rfl rfl (by decide +kernel) ⟨Nat.le_of_ble_eq_true rfl, Nat.le_of_ble_eq_true rfl⟩) j1 rfl (Nat.le_of_ble_eq_true rfl) ⟨by dsimp only; omega, by dsimp only; omega⟩ dX7_judgeFiles_12 (fun r9 M9 hp9 => ?_)
    obtain ⟨rfl, rfl⟩ := hp9
    refine xr_astore_n C dX7_judgeFiles_15 (by decide) rfl ?_
    refine xr_aload_n C dX7_judgeFiles_16 rfl ?_
    refine xr_ifnull_s C dX7_judgeFiles_17 ?_
    refine xr_aload_n C dX7_judgeFiles_20 rfl ?_
    refine xr_aload_n C dX7_judgeFiles_21 rfl ?_
    refine xr_aload_n C dX7_judgeFiles_22 rfl ?_
    refine xr_callV1i C (c_readsWell l G La hI op da pa ix n S c3 fk fp ft b3 M3 hS3c k hk40 hR hC3) (cwV 1 C.1.2.2.2.2 gX7_judgeFiles_X7_readsWell rfl rfl rfl (by decide +kernel) ⟨Nat.le_of_ble_eq_true rfl, Nat.le_of_ble_eq_true rfl⟩) j1 rfl (Nat.le_of_ble_eq_true rfl) ⟨by dsimp only; omega, by dsimp only; omega⟩ dX7_judgeFiles_23 (fun r9 M9 hp9 => ?_)
    obtain ⟨rfl, ⟨c9, hX9, hu9⟩, hF9⟩ := hp9
    have hT9 : ∀ r ∈ [155 + 3 * k], r < 275 := by intro r hr; simp at hr; omega
    refine xr_putN C (Cn := RX5) (T := TX5) (N := 5) (by decide +kernel) hX9.1 rfl 4 (by decide) tyX5 tyX5_ok nmX5 (va_Nw.use rfl (C.2.2.1 ("OssuaryVault$Reading", 67, "OssuaryVault$FoundFile", "good", "Z", "OssuaryVault") (by decide +kernel))) (fun _ h => h) rfl (tyX5_ok 4 (by decide)) (by cases (rdW S (fk k) (fp k) (ft k)).isSome <;> rfl) (by cases (rdW S (fk k) (fp k) (ft k)).isSome <;> rfl) (Nat.le_of_ble_eq_true rfl) dX7_judgeFiles_26 ?_
    refine mq_ren (fun M2 hM2 => ?_)
    have E1 : mq_FR La [155 + 3 * k] M9 M2 := mq_F.up hM2 (by simp)
    have hVn : ffV G M2 La k c9 (fk k) (fp k) (ft k) (rdW S (fk k) (fp k) (ft k)).isSome := ⟨by rw [hM2, mq_up_s]; rfl, hX9.2.fr E1 (mq_ni hI (by omega) hT9 (by simp)) (mq_ni hI (by omega) hT9 (by simp))⟩
    have hE : mq_FR La [155 + 3 * k, 156 + 3 * k, 157 + 3 * k] M3 M2 := (hF9.sub (by simp)).tr (E1.sub (by simp))
    have hSn := hS3c.ff hI hk40 hE hVn
    rw [show fnU fk k (fk k) = fk from by funext j; unfold fnU; split <;> simp_all, show fnU fp k (fp k) = fp from by funext j; unfold fnU; split <;> simp_all, show fnU ft k (ft k) = ft from by funext j; unfold fnU; split <;> simp_all] at hSn
    have hvn : ∀ j, j < k + 1 → fnU b3 k (rdW S (fk k) (fp k) (ft k)).isSome j = (rdW S (fk j) (fp j) (ft j)).isSome ∧ ∀ c, rdW S (fk j) (fp j) (ft j) = some c → fnU c3 k c9 j = c := by
      intro j hj
      by_cases hjk : j = k
      · subst hjk
        rw [fnU_s, fnU_s]
        exact ⟨rfl, fun c e => hu9 c e⟩
      · rw [fnU_n hjk, fnU_n hjk]
        exact hv3 j (by omega)
    refine xr_iinc C dX7_judgeFiles_29 rfl (by decide) rfl ?_
    refine xr_goto C dX7_judgeFiles_32 rfl ?_
    refine mq_drop 2 ?_
    exact ih (k + 1, M2, _, _) ⟨by dsimp only; omega, hSn, hvn, hF3.tr (hE.sub (fun r hr => mq_TRm.mpr (by simp at hr; omega)))⟩ (by dsimp only; omega)
