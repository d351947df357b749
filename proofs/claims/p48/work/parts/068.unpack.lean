set_option maxHeartbeats 4000000 in
set_option maxRecDepth 100000 in
theorem c_unpack (l : Launch) (G : mq_G) (b a n : Nat) (d : List Nat) (M : mq_M) (hB : bI G M b a n d) (b2 a2 n2 : Nat) (d2 : List Nat) (hB2 : bI G M b2 a2 n2 d2) (hn2 : 240 ≤ n2) (hx : b ≠ b2 ∧ b ≠ a2 ∧ a ≠ b2 ∧ a ≠ a2) (k e9 : Int) (hk : 0 ≤ k ∧ k ≤ e9) (he9 : e9 ≤ 100000) : mq_T l yX6_unpack wsX6_unpack { frames := 2, cells := 0, slots := 0, locals := 45 } G [.ref b, .int (zI k), .int (zI e9), .ref b2] M (mq_pi (fun r M2 => ((r = 1 ∧ ∃ c, upk d e9 (e9 - k).toNat k [] = some c ∧ c.length ≤ 240 ∧ bI G M2 b2 a2 n2 c) ∨ (r = 0 ∧ upk d e9 (e9 - k).toNat k [] = none ∧ ∃ c, bI G M2 b2 a2 n2 c)) ∧ mq_F [b2, a2] M M2)) 0 0 := by
  refine mq_Met.of (cc := cX6_unpack) (maxL := 10) (ret := (some .boolean)) (by decide) rfl (Nat.le_of_ble_eq_true rfl) rfl rfl ?_
  intro p_ e_ s_ m_ args_ below_ meth_ c_ z_ C hr hlk hname
  refine xr_aload_n C dX6_unpack_0 rfl ?_
  refine xr_callV0v C (c_clear l G b2 a2 n2 d2 M hB2) (cwV 0 C.1.2.2.2.2 gX6_unpack_X0_clear rfl rfl rfl (by decide +kernel) ⟨Nat.le_of_ble_eq_true rfl, Nat.le_of_ble_eq_true rfl⟩) hB2.1 rfl (Nat.le_of_ble_eq_true rfl) ⟨by dsimp only; omega, by dsimp only; omega⟩ dX6_unpack_1 (fun M1 hp1 => ?_)
  obtain ⟨hB3, hF1⟩ := hp1
  refine xr_iload_n C dX6_unpack_4 rfl ?_
  refine xr_istore C dX6_unpack_5 (by decide) rfl ?_
  refine xr_iload_n C dX6_unpack_7 rfl ?_
  refine xr_istore C dX6_unpack_8 (by decide) rfl ?_
  refine mq_eqL (L2 := [some (.ref b), some (.int (zI k)), some (.int (zI e9)), some (.ref b2), some (.int (zI k)), some (.int (zI (k + ((0 : Nat) : Int)))), none, none, none, none]) rfl (by rw [show k + ((0 : Nat) : Int) = k by omega]; rfl) rfl rfl ?_
  refine mq_loop (σ := Nat × Int × List Nat × mq_M) (fun y => y.1 ≤ (e9 - k).toNat ∧ 0 ≤ y.2.1 ∧ y.2.1 ≤ e9 ∧ y.2.2.1.length ≤ 240 ∧ upk d e9 ((e9 - k).toNat - y.1) y.2.1 y.2.2.1 = upk d e9 (e9 - k).toNat k [] ∧ bI G y.2.2.2 b2 a2 n2 y.2.2.1 ∧ mq_F [b2, a2] M y.2.2.2) (fun y => (e9 - k).toNat - y.1) (fun y => y.2.2.2) (fun y => [some (.ref b), some (.int (zI k)), some (.int (zI e9)), some (.ref b2), some (.int (zI y.2.1)), some (.int (zI (k + (y.1 : Int)))), none, none, none, none]) (fun y => []) ?_ (0, k, [], M1) ⟨Nat.zero_le _, hk.1, hk.2, Nat.zero_le _, rfl, hB3, hF1.mono (by simp)⟩
  rintro ⟨i, pl, acc, M0⟩ ⟨hi, hp0, hp1, hal, hu, hB0, hF0⟩ ih
  dsimp only at hi hp0 hp1 hal hu hB0 hF0 ih ⊢
  have hBc : bI G M0 b a n d := hB.fr hF0 (by simp [hx]) (by simp [hx])
  have hhd : mq_gd d pl < 256 := mq_gd_lt hB.2.2.2.2.1 pl
  have hv1 : mq_gd d (pl + 1) < 256 := mq_gd_lt hB.2.2.2.2.1 (pl + 1)
  refine xr_iload C dX6_unpack_10 rfl ?_
  refine xr_iload_n C dX6_unpack_12 rfl ?_
  refine xr_icmp_ge C dX6_unpack_13 rfl (by first | omega | (dsimp only; omega)) (by first | omega | (dsimp only; omega)) (fun hq1 => ?_) (fun hq1 => ?_)
  · refine xr_iconst (n := 1) C dX6_unpack_146 (by decide +kernel) ?_
    exact xr_zret C hr (by decide +kernel) hlk ⟨_, rfl, Or.inl ⟨rfl, acc, by rw [← hu, show (e9 - k).toNat - i = 0 by omega]; rfl, hal, hB0⟩, hF0⟩ (by omega) (by omega) dX6_unpack_147
  · refine xr_iload C dX6_unpack_16 rfl ?_
    refine xr_iload_n C dX6_unpack_18 rfl ?_
    refine xr_icmp_ge C dX6_unpack_19 rfl (by first | omega | (dsimp only; omega)) (by first | omega | (dsimp only; omega)) (fun hq2 => ?_) (fun hq2 => ?_)
    · refine xr_iconst (n := 1) C dX6_unpack_146 (by decide +kernel) ?_
      exact xr_zret C hr (by decide +kernel) hlk ⟨_, rfl, Or.inl ⟨rfl, acc, by rw [← hu, show (e9 - k).toNat - i = ((e9 - k).toNat - i - 1) + 1 by omega]; unfold upk; rw [if_neg (by omega)], hal, hB0⟩, hF0⟩ (by omega) (by omega) dX6_unpack_147
    · have hus : upk d e9 ((e9 - k).toNat - i) pl acc = (if e9 < pl + 1 + (upb (mq_gd d pl) : Int) ∨ 240 < acc.length + upm (mq_gd d pl) then none else upk d e9 ((e9 - k).toNat - (i + 1)) (pl + 1 + (upb (mq_gd d pl) : Int)) (acc ++ upc d pl (mq_gd d pl))) := by
        rw [show (e9 - k).toNat - i = ((e9 - k).toNat - (i + 1)) + 1 by omega]
        conv => lhs; unfold upk
        rw [if_pos (by omega)]
      rw [hus] at hu
      refine xr_aload_n C dX6_unpack_22 rfl ?_
      refine xr_iload C dX6_unpack_23 rfl ?_
      refine xr_callV1i C (c_at l G b a n d M0 hBc pl (by omega)) (cwV 1 C.1.2.2.2.2 gX6_unpack_X0_at rfl rfl rfl (by decide +kernel) ⟨Nat.le_of_ble_eq_true rfl, Nat.le_of_ble_eq_true rfl⟩) hBc.1 rfl (Nat.le_of_ble_eq_true rfl) ⟨by dsimp only; omega, by dsimp only; omega⟩ dX6_unpack_25 (fun r3 M9 hp9 => ?_)
      obtain ⟨rfl, rfl⟩ := hp9
      refine xr_istore C dX6_unpack_28 (by decide) rfl ?_
      refine xr_iload C dX6_unpack_30 rfl ?_
      refine xr_sipush (n := 128) C dX6_unpack_32 (by decide +kernel) ?_
      refine xr_icmp_lt C dX6_unpack_35 rfl (by first | omega | (dsimp only; omega)) (by first | omega | (dsimp only; omega)) (fun hq4 => ?_) (fun hq4 => ?_)
      · refine xr_iconst (n := 0) C dX6_unpack_42 (by decide +kernel) ?_
        refine xr_istore C dX6_unpack_43 (by decide) rfl ?_
        have hm : upm (mq_gd d pl) = mq_gd d pl + 1 := by unfold upm; rw [if_neg (by omega)]
        have hb9 : upb (mq_gd d pl) = mq_gd d pl + 1 := by unfold upb; rw [if_neg (by omega)]
        have hcc : upc d pl (mq_gd d pl) = mq_part d (pl + 1) (upm (mq_gd d pl)) := by unfold upc; rw [if_neg (by omega)]
        refine xr_iload C dX6_unpack_45 rfl ?_
        refine xr_if_eq C dX6_unpack_47 rfl (by decide) (fun _ => ?_) (fun hq => absurd hq (by decide))
        refine xr_iload C dX6_unpack_58 rfl ?_
        refine xr_iconst (n := 1) C dX6_unpack_60 (by decide +kernel) ?_
        refine xr_iadd C dX6_unpack_61 ?_
        rw [show (mq_gd d pl : Int) + 1 = ((upm (mq_gd d pl) : Nat) : Int) by omega]
        refine xr_istore C dX6_unpack_62 (by decide) rfl ?_
        refine xr_iload C dX6_unpack_64 rfl ?_
        refine xr_iconst (n := 1) C dX6_unpack_66 (by decide +kernel) ?_
        refine xr_iadd C dX6_unpack_67 ?_
        refine xr_iload C dX6_unpack_68 rfl ?_
        refine xr_if_eq C dX6_unpack_70 rfl (by decide) (fun _ => ?_) (fun hq => absurd hq (by decide))
        refine xr_iload C dX6_unpack_77 rfl ?_
        refine xr_iadd C dX6_unpack_79 ?_
        rw [show pl + 1 + ((upm (mq_gd d pl) : Nat) : Int) = pl + 1 + (upb (mq_gd d pl) : Int) by omega]
        refine xr_istore C dX6_unpack_80 (by decide) rfl ?_
        refine xr_iload C dX6_unpack_82 rfl ?_
        refine xr_iload_n C dX6_unpack_84 rfl ?_
        refine xr_icmp_gt C dX6_unpack_85 rfl (by first | omega | (dsimp only; omega)) (by first | omega | (dsimp only; omega)) (fun hq5 => ?_) (fun hq5 => ?_)
        · refine xr_iconst (n := 0) C dX6_unpack_101 (by decide +kernel) ?_
          exact xr_zret C hr (by decide +kernel) hlk ⟨_, rfl, Or.inr ⟨rfl, by rw [← hu, if_pos (by omega)], acc, hB0⟩, hF0⟩ (by omega) (by omega) dX6_unpack_102
        · refine xr_aload_n C dX6_unpack_88 rfl ?_
          refine xr_callV0i C (c_size l G b2 a2 n2 acc M0 hB0) (cwV 0 C.1.2.2.2.2 gX6_unpack_X0_size rfl rfl rfl (by decide +kernel) ⟨Nat.le_of_ble_eq_true rfl, Nat.le_of_ble_eq_true rfl⟩) hB0.1 rfl (Nat.le_of_ble_eq_true rfl) ⟨by dsimp only; omega, by dsimp only; omega⟩ dX6_unpack_89 (fun r6 M9 hp9 => ?_)
          obtain ⟨rfl, rfl⟩ := hp9
          refine xr_iload C dX6_unpack_92 rfl ?_
          refine xr_iadd C dX6_unpack_94 ?_
          refine xr_sipush (n := 240) C dX6_unpack_95 (by decide +kernel) ?_
          refine xr_icmp_le C dX6_unpack_98 rfl (by first | omega | (dsimp only; omega)) (by first | omega | (dsimp only; omega)) (fun hq7 => ?_) (fun hq7 => ?_)
          · rw [if_neg (by omega)] at hu
            refine xr_iload C dX6_unpack_103 rfl ?_
            refine xr_if_eq C dX6_unpack_105 rfl (by decide) (fun _ => ?_) (fun hq => absurd hq (by decide))
            refine xr_aload_n C dX6_unpack_125 rfl ?_
            refine xr_aload_n C dX6_unpack_126 rfl ?_
            refine xr_iload C dX6_unpack_127 rfl ?_
            refine xr_iconst (n := 1) C dX6_unpack_129 (by decide +kernel) ?_
            refine xr_iadd C dX6_unpack_130 ?_
            refine xr_iload C dX6_unpack_131 rfl ?_
            refine xr_callV3v C (c_addPart l G b2 a2 n2 acc M0 hB0 b a n d hBc hx (pl + 1) (upm (mq_gd d pl)) (by omega) (by omega)) (cwV 3 C.1.2.2.2.2 gX6_unpack_X0_addPart rfl rfl rfl (by decide +kernel) ⟨Nat.le_of_ble_eq_true rfl, Nat.le_of_ble_eq_true rfl⟩) hB0.1 rfl (Nat.le_of_ble_eq_true rfl) ⟨by dsimp only; omega, by dsimp only; omega⟩ dX6_unpack_133 (fun M2 hp2 => ?_)
            obtain ⟨hB4, hF4⟩ := hp2
            rw [← hcc] at hB4
            refine xr_iload C dX6_unpack_136 rfl ?_
            refine xr_istore C dX6_unpack_138 (by decide) rfl ?_
            refine xr_iinc C dX6_unpack_140 rfl (by decide) rfl ?_
            refine xr_goto C dX6_unpack_143 rfl ?_
            refine mq_drop 6 (mq_drop 7 (mq_drop 8 (mq_drop 9 ?_)))
            rw [show k + (i : Int) + 1 = k + ((i + 1 : Nat) : Int) by omega]
            exact ih (i + 1, pl + 1 + (upb (mq_gd d pl) : Int), acc ++ upc d pl (mq_gd d pl), M2) ⟨by dsimp only; omega, by dsimp only; omega, by dsimp only; omega, by dsimp only; rw [List.length_append, upc_len]; omega, hu, hB4, hF0.tr hF4⟩ (by dsimp only; omega)
          · refine xr_iconst (n := 0) C dX6_unpack_101 (by decide +kernel) ?_
            exact xr_zret C hr (by decide +kernel) hlk ⟨_, rfl, Or.inr ⟨rfl, by rw [← hu, if_pos (by omega)], acc, hB0⟩, hF0⟩ (by omega) (by omega) dX6_unpack_102
      · refine xr_iconst (n := 1) C dX6_unpack_38 (by decide +kernel) ?_
        refine xr_goto C dX6_unpack_39 rfl ?_
        refine xr_istore C dX6_unpack_43 (by decide) rfl ?_
        have hm : upm (mq_gd d pl) = mq_gd d pl - 126 := by unfold upm; rw [if_pos (by omega)]
        have hb9 : upb (mq_gd d pl) = 1 := by unfold upb; rw [if_pos (by omega)]
        have hcc : upc d pl (mq_gd d pl) = List.replicate (upm (mq_gd d pl)) (mq_gd d (pl + 1)) := by unfold upc; rw [if_pos (by omega)]
        refine xr_iload C dX6_unpack_45 rfl ?_
        refine xr_if_eq C dX6_unpack_47 rfl (by decide) (fun hq => absurd hq (by decide)) (fun _ => ?_)
        refine xr_iload C dX6_unpack_50 rfl ?_
        refine xr_bipush (n := 126) C dX6_unpack_52 (by decide +kernel) ?_
        refine xr_isub C dX6_unpack_54 ?_
        rw [show (mq_gd d pl : Int) - 126 = ((upm (mq_gd d pl) : Nat) : Int) by omega]
        refine xr_goto C dX6_unpack_55 rfl ?_
        refine xr_istore C dX6_unpack_62 (by decide) rfl ?_
        refine xr_iload C dX6_unpack_64 rfl ?_
        refine xr_iconst (n := 1) C dX6_unpack_66 (by decide +kernel) ?_
        refine xr_iadd C dX6_unpack_67 ?_
        refine xr_iload C dX6_unpack_68 rfl ?_
        refine xr_if_eq C dX6_unpack_70 rfl (by decide) (fun hq => absurd hq (by decide)) (fun _ => ?_)
        refine xr_iconst (n := 1) C dX6_unpack_73 (by decide +kernel) ?_
        refine xr_goto C dX6_unpack_74 rfl ?_
        refine xr_iadd C dX6_unpack_79 ?_
        rw [show pl + 1 + 1 = pl + 1 + (upb (mq_gd d pl) : Int) by omega]
        refine xr_istore C dX6_unpack_80 (by decide) rfl ?_
        refine xr_iload C dX6_unpack_82 rfl ?_
        refine xr_iload_n C dX6_unpack_84 rfl ?_
        refine xr_icmp_gt C dX6_unpack_85 rfl (by first | omega | (dsimp only; omega)) (by first | omega | (dsimp only; omega)) (fun hq8 => ?_) (fun hq8 => ?_)
        · refine xr_iconst (n := 0) C dX6_unpack_101 (by decide +kernel) ?_
          exact xr_zret C hr (by decide +kernel) hlk ⟨_, rfl, Or.inr ⟨rfl, by rw [← hu, if_pos (by omega)], acc, hB0⟩, hF0⟩ (by omega) (by omega) dX6_unpack_102
        · refine xr_aload_n C dX6_unpack_88 rfl ?_
          refine xr_callV0i C (c_size l G b2 a2 n2 acc M0 hB0) (cwV 0 C.1.2.2.2.2 gX6_unpack_X0_size rfl rfl rfl (by decide +kernel) ⟨Nat.le_of_ble_eq_true rfl, Nat.le_of_ble_eq_true rfl⟩) hB0.1 rfl (Nat.le_of_ble_eq_true rfl) ⟨by dsimp only; omega, by dsimp only; omega⟩ dX6_unpack_89 (fun r9 M9 hp9 => ?_)
          obtain ⟨rfl, rfl⟩ := hp9
          refine xr_iload C dX6_unpack_92 rfl ?_
          refine xr_iadd C dX6_unpack_94 ?_
          refine xr_sipush (n := 240) C dX6_unpack_95 (by decide +kernel) ?_
          refine xr_icmp_le C dX6_unpack_98 rfl (by first | omega | (dsimp only; omega)) (by first | omega | (dsimp only; omega)) (fun hq10 => ?_) (fun hq10 => ?_)
          · rw [if_neg (by omega)] at hu
            refine xr_iload C dX6_unpack_103 rfl ?_
            refine xr_if_eq C dX6_unpack_105 rfl (by decide) (fun hq => absurd hq (by decide)) (fun _ => ?_)
            refine xr_aload_n C dX6_unpack_108 rfl ?_
            refine xr_aload_n C dX6_unpack_109 rfl ?_
            refine xr_iload C dX6_unpack_110 rfl ?_
            refine xr_iconst (n := 1) C dX6_unpack_112 (by decide +kernel) ?_
            refine xr_iadd C dX6_unpack_113 ?_
            refine xr_callV1i C (c_at l G b a n d M0 hBc (pl + 1) (by omega)) (cwV 1 C.1.2.2.2.2 gX6_unpack_X0_at rfl rfl rfl (by decide +kernel) ⟨Nat.le_of_ble_eq_true rfl, Nat.le_of_ble_eq_true rfl⟩) hBc.1 rfl (Nat.le_of_ble_eq_true rfl) ⟨by dsimp only; omega, by dsimp only; omega⟩ dX6_unpack_114 (fun r11 M9 hp9 => ?_)
            obtain ⟨rfl, rfl⟩ := hp9
            refine xr_iload C dX6_unpack_117 rfl ?_
            refine xr_callV2v C (c_addTimes l G b2 a2 n2 acc M0 hB0 (mq_gd d (pl + 1)) hv1 (upm (mq_gd d pl)) (by omega)) (cwV 2 C.1.2.2.2.2 gX6_unpack_X0_addTimes rfl rfl rfl (by decide +kernel) ⟨Nat.le_of_ble_eq_true rfl, Nat.le_of_ble_eq_true rfl⟩) hB0.1 rfl (Nat.le_of_ble_eq_true rfl) ⟨by dsimp only; omega, by dsimp only; omega⟩ dX6_unpack_119 (fun M2 hp2 => ?_)
            obtain ⟨hB4, hF4⟩ := hp2
            rw [← hcc] at hB4
            refine xr_goto C dX6_unpack_122 rfl ?_
            refine xr_iload C dX6_unpack_136 rfl ?_
            refine xr_istore C dX6_unpack_138 (by decide) rfl ?_
            refine xr_iinc C dX6_unpack_140 rfl (by decide) rfl ?_
            refine xr_goto C dX6_unpack_143 rfl ?_
            refine mq_drop 6 (mq_drop 7 (mq_drop 8 (mq_drop 9 ?_)))
            rw [show k + (i : Int) + 1 = k + ((i + 1 : Nat) : Int) by omega]
            exact ih (i + 1, pl + 1 + (upb (mq_gd d pl) : Int), acc ++ upc d pl (mq_gd d pl), M2) ⟨by dsimp only; omega, by dsimp only; omega, by dsimp only; omega, by dsimp only; rw [List.length_append, upc_len]; omega, hu, hB4, hF0.tr hF4⟩ (by dsimp only; omega)
          · refine xr_iconst (n := 0) C dX6_unpack_101 (by decide +kernel) ?_
            exact xr_zret C hr (by decide +kernel) hlk ⟨_, rfl, Or.inr ⟨rfl, by rw [← hu, if_pos (by omega)], acc, hB0⟩, hF0⟩ (by omega) (by omega) dX6_unpack_102
