set_option maxHeartbeats 4000000 in
set_option maxRecDepth 100000 in
theorem c_withShelf (l : Launch) (G : mq_G) (La : Nat → Nat) (hI : mq_inj La) (M : mq_M) (hO : vtO M La) (hC : ckI G M (La 1) (La 2)) (pv : Nat → Nat) (h : Nat → Bool) (d : Nat → List Nat) (vd : Nat → Int) (hP : shP pv h d vd) (hH : shI G M La pv h d vd (svS h d 16).1 (svS h d 16).2.1 (svS h d 16).2.2.1 (svS h d 16).2.2.2) (x0 : Int64) : mq_T l yX11_withShelf wsX11_withShelf { frames := 5, cells := 0, slots := 0, locals := 102 } G [.ref (La 0), .long x0] M (mq_pl (fun r9 M2 => r9 = dgT (dgT (dgT (dgS h d (svS h d 16).2.2.1 x0 16) (dgZ (svS h d 16).1)) (dgZ (svS h d 16).2.1)) (dgZ (spF h d)) ∧ (∃ vd2 : Nat → Int, shP pv h d vd2 ∧ shI G M2 La pv h d vd2 (svS h d 16).1 (svS h d 16).2.1 (svS h d 16).2.2.1 (svS h d 16).2.2.2) ∧ mq_FR La mq_TV M M2)) 0 0 := by
  refine mq_Met.of (cc := cX11_withShelf) (maxL := 8) (ret := (some .long)) (by decide) rfl (Nat.le_of_ble_eq_true rfl) rfl rfl ?_
  intro p_ e_ s_ m_ args_ below_ meth_ c_ z_ C hr hlk hname
  have hrg := svS_rng h d 16 (by decide)
  unfold svR at hrg
  refine xr_lload_n C dX11_withShelf_0 rfl ?_
  refine xr_lstore_n C dX11_withShelf_1 (by decide) rfl ?_
  refine xr_iconst (n := 0) C dX11_withShelf_2 (by decide +kernel) ?_
  refine xr_istore C dX11_withShelf_3 (by decide) rfl ?_
  refine mq_loop (σ := Nat × mq_M × (Nat → Int)) (fun y => y.1 ≤ 16 ∧ shP pv h d y.2.2 ∧ shI G y.2.1 La pv h d y.2.2 (svS h d 16).1 (svS h d 16).2.1 (svS h d 16).2.2.1 (svS h d 16).2.2.2 ∧ mq_FR La mq_TV M y.2.1) (fun y => 16 - y.1) (fun y => y.2.1) (fun y => [some (.ref (La 0)), some (.long x0), none, some (.long (dgS h d (svS h d 16).2.2.1 x0 y.1)), none, some (.int (zI (y.1 : Int))), none, none]) (fun y => []) ?_ (0, M, vd) ⟨Nat.zero_le _, hP, hH, mq_F.rf⟩
  rintro ⟨i, M3, vd3⟩ ⟨hi, hP3, hH3, hF3⟩ ih
  dsimp only at hi hP3 hH3 hF3 ih ⊢
  have o3 := hO.fr hI hF3 mq_TVl (by decide)
  have c3 := hC.fR hI hF3 mq_TVl (by decide) (by decide)
  refine xr_iload C dX11_withShelf_5 rfl ?_
  refine xr_bipush (n := 16) C dX11_withShelf_7 (by decide +kernel) ?_
  refine xr_icmp_ge C dX11_withShelf_9 rfl (by first | omega | (dsimp only; omega)) (by first | omega | (dsimp only; omega)) (fun hq1 => ?_) (fun hq1 => ?_)
  · have hi16 : i = 16 := by omega
    subst hi16
    refine xr_lload_n C dX11_withShelf_114 rfl ?_
    refine xr_aload_n C dX11_withShelf_115 rfl ?_
    refine xr_get C (Cn := RX11) (T := TX11) (N := 5) (by decide +kernel) o3 rfl 2 (by decide) (C.1.2.2.2.2 (.fieldLink RX11 33 "OssuaryVault" "shelf" "LOssuaryVault$Shelf;") (by decide +kernel)) (fun _ h => h) rfl dX11_withShelf_116 ?_
    refine xr_getN C (Cn := RX9) (T := TX9) (N := 7) (by decide +kernel) hH3.1 rfl 5 (by decide) (va_Nw.use rfl (C.2.2.1 ("OssuaryVault", 233, "OssuaryVault$Shelf", "leaderPlace", "I", "OssuaryVault") (by decide +kernel))) (fun _ h => h) rfl dX11_withShelf_119 ?_
    refine xr_i2l C dX11_withShelf_122 ?_
    refine xr_callS2l C (c_then l G M3 _ _) (cwS 2 C.1.2.2.2.2 gX11_withShelf_X11_then rfl rfl rfl (by decide +kernel) ⟨Nat.le_of_ble_eq_true rfl, Nat.le_of_ble_eq_true rfl⟩) (Nat.le_of_ble_eq_true rfl) ⟨by dsimp only; omega, by dsimp only; omega⟩ dX11_withShelf_123 (fun rt M9 hp9 => ?_)
    obtain ⟨rfl, rfl⟩ := hp9
    refine xr_aload_n C dX11_withShelf_126 rfl ?_
    refine xr_get C (Cn := RX11) (T := TX11) (N := 5) (by decide +kernel) o3 rfl 2 (by decide) (C.1.2.2.2.2 (.fieldLink RX11 33 "OssuaryVault" "shelf" "LOssuaryVault$Shelf;") (by decide +kernel)) (fun _ h => h) rfl dX11_withShelf_127 ?_
    refine xr_getN C (Cn := RX9) (T := TX9) (N := 7) (by decide +kernel) hH3.1 rfl 6 (by decide) (va_Nw.use rfl (C.2.2.1 ("OssuaryVault", 236, "OssuaryVault$Shelf", "members", "I", "OssuaryVault") (by decide +kernel))) (fun _ h => h) rfl dX11_withShelf_130 ?_
    refine xr_i2l C dX11_withShelf_133 ?_
    refine xr_callS2l C (c_then l G M3 _ _) (cwS 2 C.1.2.2.2.2 gX11_withShelf_X11_then rfl rfl rfl (by decide +kernel) ⟨Nat.le_of_ble_eq_true rfl, Nat.le_of_ble_eq_true rfl⟩) (Nat.le_of_ble_eq_true rfl) ⟨by dsimp only; omega, by dsimp only; omega⟩ dX11_withShelf_134 (fun rt M9 hp9 => ?_)
    obtain ⟨rfl, rfl⟩ := hp9
    refine xr_aload_n C dX11_withShelf_137 rfl ?_
    refine xr_get C (Cn := RX11) (T := TX11) (N := 5) (by decide +kernel) o3 rfl 2 (by decide) (C.1.2.2.2.2 (.fieldLink RX11 33 "OssuaryVault" "shelf" "LOssuaryVault$Shelf;") (by decide +kernel)) (fun _ h => h) rfl dX11_withShelf_138 ?_
    by_cases hld : (svS h d 16).1 < 0
    · refine xr_callV0i C (c_surplusN l G La hI pv h d vd3 _ _ _ _ M3 hP3 hH3 (by omega)) (cwV 0 C.1.2.2.2.2 gX11_withShelf_X9_surplus rfl rfl rfl (by decide +kernel) ⟨Nat.le_of_ble_eq_true rfl, Nat.le_of_ble_eq_true rfl⟩) hH3.1 rfl (Nat.le_of_ble_eq_true rfl) ⟨by dsimp only; omega, by dsimp only; omega⟩ dX11_withShelf_141 (fun r2 M9 hp9 => ?_)
      obtain ⟨rfl, rfl⟩ := hp9
      have hsp : spF h d = -1 := by
        unfold spF
        rw [if_pos hld]
      rw [← hsp]
      refine xr_i2l C dX11_withShelf_144 ?_
      refine xr_callS2l C (c_then l G M3 _ _) (cwS 2 C.1.2.2.2.2 gX11_withShelf_X11_then rfl rfl rfl (by decide +kernel) ⟨Nat.le_of_ble_eq_true rfl, Nat.le_of_ble_eq_true rfl⟩) (Nat.le_of_ble_eq_true rfl) ⟨by dsimp only; omega, by dsimp only; omega⟩ dX11_withShelf_145 (fun rt M9 hp9 => ?_)
      obtain ⟨rfl, rfl⟩ := hp9
      exact xr_lret C hr hlk ⟨_, rfl, rfl, ⟨vd3, hP3, hH3⟩, hF3⟩ (by omega) (by omega) dX11_withShelf_148
    · refine xr_callV0i C (c_surplus l G La hI pv h d vd3 _ _ _ _ M3 hP3 hH3 (svS h d 16).1.toNat (by omega) (by omega) (by omega)) (cwV 0 C.1.2.2.2.2 gX11_withShelf_X9_surplus rfl rfl rfl (by decide +kernel) ⟨Nat.le_of_ble_eq_true rfl, Nat.le_of_ble_eq_true rfl⟩) hH3.1 rfl (Nat.le_of_ble_eq_true rfl) ⟨by dsimp only; omega, by dsimp only; omega⟩ dX11_withShelf_141 (fun r3 M9 hp9 => ?_)
      obtain ⟨rfl, rfl⟩ := hp9
      have hsp : spF h d = max (-1) ((svS h d 16).2.1 - (mq_gd (d (svS h d 16).1.toNat) 2 : Int)) := by
        unfold spF
        rw [if_neg hld]
      rw [← hsp]
      refine xr_i2l C dX11_withShelf_144 ?_
      refine xr_callS2l C (c_then l G M3 _ _) (cwS 2 C.1.2.2.2.2 gX11_withShelf_X11_then rfl rfl rfl (by decide +kernel) ⟨Nat.le_of_ble_eq_true rfl, Nat.le_of_ble_eq_true rfl⟩) (Nat.le_of_ble_eq_true rfl) ⟨by dsimp only; omega, by dsimp only; omega⟩ dX11_withShelf_145 (fun rt M9 hp9 => ?_)
      obtain ⟨rfl, rfl⟩ := hp9
      exact xr_lret C hr hlk ⟨_, rfl, rfl, ⟨vd3, hP3, hH3⟩, hF3⟩ (by omega) (by omega) dX11_withShelf_148
  · have hil : i < 16 := by omega
    have hv3 := hH3.2.2.2.2 i (by omega)
    have hpi := hP.1 i (by omega)
    have hwb := mq_b_rng (vWhl (h i) (d i))
    refine xr_aload_n C dX11_withShelf_12 rfl ?_
    refine xr_get C (Cn := RX11) (T := TX11) (N := 5) (by decide +kernel) o3 rfl 2 (by decide) (C.1.2.2.2.2 (.fieldLink RX11 33 "OssuaryVault" "shelf" "LOssuaryVault$Shelf;") (by decide +kernel)) (fun _ h => h) rfl dX11_withShelf_13 ?_
    refine xr_iload C dX11_withShelf_16 rfl ?_
    refine xr_callV1a C (c_shAt l G La hI pv h d vd3 _ _ _ _ M3 hP3 hH3 i hil) (cwV 1 C.1.2.2.2.2 gX11_withShelf_X9_at rfl rfl rfl (by decide +kernel) ⟨Nat.le_of_ble_eq_true rfl, Nat.le_of_ble_eq_true rfl⟩) hH3.1 rfl (Nat.le_of_ble_eq_true rfl) ⟨by dsimp only; omega, by dsimp only; omega⟩ dX11_withShelf_18 (fun r9 M9 hp9 => ?_)
    obtain ⟨rfl, rfl⟩ := hp9
    refine xr_astore C dX11_withShelf_21 (by decide) rfl ?_
    refine xr_aload C dX11_withShelf_23 rfl ?_
    refine xr_ifnull_s C dX11_withShelf_25 ?_
    refine xr_lload_n C dX11_withShelf_28 rfl ?_
    refine xr_aload C dX11_withShelf_29 rfl ?_
    refine xr_callV0i C (c_vsize l G _ _ _ _ _ _ _ M3 hv3) (cwV 0 C.1.2.2.2.2 gX11_withShelf_X10_size rfl rfl rfl (by decide +kernel) ⟨Nat.le_of_ble_eq_true rfl, Nat.le_of_ble_eq_true rfl⟩) hv3.1 rfl (Nat.le_of_ble_eq_true rfl) ⟨by dsimp only; omega, by dsimp only; omega⟩ dX11_withShelf_31 (fun r4 M9 hp9 => ?_)
    obtain ⟨rfl, rfl⟩ := hp9
    refine xr_i2l C dX11_withShelf_34 ?_
    refine xr_callS2l C (c_then l G M3 _ _) (cwS 2 C.1.2.2.2.2 gX11_withShelf_X11_then rfl rfl rfl (by decide +kernel) ⟨Nat.le_of_ble_eq_true rfl, Nat.le_of_ble_eq_true rfl⟩) (Nat.le_of_ble_eq_true rfl) ⟨by dsimp only; omega, by dsimp only; omega⟩ dX11_withShelf_35 (fun rt M9 hp9 => ?_)
    obtain ⟨rfl, rfl⟩ := hp9
    refine xr_aload C dX11_withShelf_38 rfl ?_
    refine xr_callV0i C (c_isWhole l G _ _ _ _ _ _ _ M3 hv3 _ c3 (mq_vnd hI (hP.1 i (by omega))) (hP3.2.2 i (by omega)) (hP3.2.2 i (by omega)).rng) (cwV 0 C.1.2.2.2.2 gX11_withShelf_X10_isWhole rfl rfl rfl (by decide +kernel) ⟨Nat.le_of_ble_eq_true rfl, Nat.le_of_ble_eq_true rfl⟩) hv3.1 rfl (Nat.le_of_ble_eq_true rfl) ⟨by dsimp only; omega, by dsimp only; omega⟩ dX11_withShelf_40 (fun r2 M4 hp2 => ?_)
    obtain ⟨rfl, ⟨vd2, hV2, hvd⟩, hF2⟩ := hp2
    have F9 : mq_FR La [104 + 3 * pv i, 105 + 3 * pv i, 106 + 3 * pv i] M3 M4 := hF2.mono (by simp)
    have hP4 := hP3.set i (nh := h i) (nd := d i) (nv := vd2) (Or.inr hvd)
    have hH4 := hH3.set hI hP3 (by omega) F9 hV2
    rw [fnU_self, fnU_self] at hP4 hH4
    have F4 : mq_FR La mq_TV M M4 := hF3.tr (F9.sub (fun q hq => mq_TVm.mpr (vtT_l hpi q hq)))
    have o4 := hO.fr hI F4 mq_TVl (by decide)
    have hv4 := hH4.2.2.2.2 i (by omega)
    refine xr_if_eq C dX11_withShelf_43 rfl (by first | omega | (dsimp only; omega)) (fun hq5 => ?_) (fun hq5 => ?_)
    · have hfx : dgO (vWhl (h i) (d i)) = 0 := by
        cases hc : vWhl (h i) (d i)
        all_goals first | rfl | exact absurd hq5 (by rw [hc]; decide)
      refine xr_lconst C dX11_withShelf_50 rfl ?_
      refine xr_callS2l C (c_then l G M4 _ _) (cwS 2 C.1.2.2.2.2 gX11_withShelf_X11_then rfl rfl rfl (by decide +kernel) ⟨Nat.le_of_ble_eq_true rfl, Nat.le_of_ble_eq_true rfl⟩) (Nat.le_of_ble_eq_true rfl) ⟨by dsimp only; omega, by dsimp only; omega⟩ dX11_withShelf_51 (fun rt M9 hp9 => ?_)
      obtain ⟨rfl, rfl⟩ := hp9
      refine xr_lstore_n C dX11_withShelf_54 (by decide) rfl ?_
      refine xr_lload_n C dX11_withShelf_55 rfl ?_
      refine xr_aload_n C dX11_withShelf_56 rfl ?_
      refine xr_get C (Cn := RX11) (T := TX11) (N := 5) (by decide +kernel) o4 rfl 2 (by decide) (C.1.2.2.2.2 (.fieldLink RX11 33 "OssuaryVault" "shelf" "LOssuaryVault$Shelf;") (by decide +kernel)) (fun _ h => h) rfl dX11_withShelf_57 ?_
      refine xr_iload C dX11_withShelf_60 rfl ?_
      refine xr_callV1i C (c_memberNumber l G La hI pv h d _ _ _ _ _ M4 hP4 hH4 i hil) (cwV 1 C.1.2.2.2.2 gX11_withShelf_X9_memberNumber rfl rfl rfl (by decide +kernel) ⟨Nat.le_of_ble_eq_true rfl, Nat.le_of_ble_eq_true rfl⟩) hH4.1 rfl (Nat.le_of_ble_eq_true rfl) ⟨by dsimp only; omega, by dsimp only; omega⟩ dX11_withShelf_62 (fun r6 M9 hp9 => ?_)
      obtain ⟨rfl, rfl⟩ := hp9
      refine xr_i2l C dX11_withShelf_65 ?_
      refine xr_callS2l C (c_then l G M4 _ _) (cwS 2 C.1.2.2.2.2 gX11_withShelf_X11_then rfl rfl rfl (by decide +kernel) ⟨Nat.le_of_ble_eq_true rfl, Nat.le_of_ble_eq_true rfl⟩) (Nat.le_of_ble_eq_true rfl) ⟨by dsimp only; omega, by dsimp only; omega⟩ dX11_withShelf_66 (fun rt M9 hp9 => ?_)
      obtain ⟨rfl, rfl⟩ := hp9
      refine xr_lstore_n C dX11_withShelf_69 (by decide) rfl ?_
      refine xr_iconst (n := 0) C dX11_withShelf_70 (by decide +kernel) ?_
      refine xr_istore C dX11_withShelf_71 (by decide) rfl ?_
      obtain ⟨A, hA⟩ : ∃ A : Int64, A = dgT (dgT (dgT (dgS h d (svS h d 16).2.2.1 x0 i) (dgZ (vsz (h i) (d i)))) 0) (dgZ ((svS h d 16).2.2.1 i)) := ⟨_, rfl⟩
      refine mq_eqL (L2 := [some (.ref (La 0)), some (.long x0), none, some (.long (dgB (d i) A 0)), none, some (.int (zI (i : Int))), some (.ref (La (104 + 3 * pv i))), some (.int (zI ((0 : Nat) : Int)))]) rfl (by rw [hA]; rfl) rfl rfl ?_
      refine mq_loop (σ := Nat) (fun y => y ≤ (d i).length) (fun y => (d i).length - y) (fun y => M4) (fun y => [some (.ref (La 0)), some (.long x0), none, some (.long (dgB (d i) A y)), none, some (.int (zI (i : Int))), some (.ref (La (104 + 3 * pv i))), some (.int (zI (y : Int)))]) (fun y => []) ?_ 0 (Nat.zero_le _)
      intro j hj ih2
      try dsimp only at hj ih2 ⊢
      have hdl := hv4.2.2.2.1
      refine xr_iload C dX11_withShelf_73 rfl ?_
      refine xr_aload C dX11_withShelf_75 rfl ?_
      refine xr_getN C (Cn := RX10) (T := TX10) (N := 4) (by decide +kernel) hv4.1 rfl 1 (by decide) (va_Nw.use rfl (C.2.2.1 ("OssuaryVault", 195, "OssuaryVault$Volume", "bytes", "LOssuaryVault$Bytes;", "OssuaryVault") (by decide +kernel))) (fun _ h => h) rfl dX11_withShelf_77 ?_
      refine xr_callV0i C (c_size l G _ _ _ _ M4 hv4.2) (cwV 0 C.1.2.2.2.2 gX11_withShelf_X0_size rfl rfl rfl (by decide +kernel) ⟨Nat.le_of_ble_eq_true rfl, Nat.le_of_ble_eq_true rfl⟩) hv4.2.1 rfl (Nat.le_of_ble_eq_true rfl) ⟨by dsimp only; omega, by dsimp only; omega⟩ dX11_withShelf_80 (fun r7 M9 hp9 => ?_)
      obtain ⟨rfl, rfl⟩ := hp9
      refine xr_icmp_ge C dX11_withShelf_83 rfl (by first | omega | (dsimp only; omega)) (by first | omega | (dsimp only; omega)) (fun hq8 => ?_) (fun hq8 => ?_)
      · refine xr_iinc C dX11_withShelf_108 rfl (by decide) rfl ?_
        refine xr_goto C dX11_withShelf_111 rfl ?_
        refine mq_drop 6 (mq_drop 7 ?_)
        have hs9 : dgS h d (svS h d 16).2.2.1 x0 (i + 1) = dgB (d i) (dgT (dgT (dgT (dgS h d (svS h d 16).2.2.1 x0 i) (dgZ (vsz (h i) (d i)))) (dgO (vWhl (h i) (d i)))) (dgZ ((svS h d 16).2.2.1 i))) (d i).length := rfl
        rw [hfx, ← hA] at hs9
        refine mq_eqL (L2 := [some (.ref (La 0)), some (.long x0), none, some (.long (dgS h d (svS h d 16).2.2.1 x0 (i + 1))), none, some (.int (zI ((i + 1 : Nat) : Int))), none, none]) rfl (by rw [hs9, show j = (d i).length by omega]; rfl) rfl rfl ?_
        exact ih (i + 1, M4, _) ⟨by dsimp only; omega, hP4, hH4, F4⟩ (by dsimp only; omega)
      · refine xr_lload_n C dX11_withShelf_86 rfl ?_
        refine xr_aload C dX11_withShelf_87 rfl ?_
        refine xr_getN C (Cn := RX10) (T := TX10) (N := 4) (by decide +kernel) hv4.1 rfl 1 (by decide) (va_Nw.use rfl (C.2.2.1 ("OssuaryVault", 195, "OssuaryVault$Volume", "bytes", "LOssuaryVault$Bytes;", "OssuaryVault") (by decide +kernel))) (fun _ h => h) rfl dX11_withShelf_89 ?_
        refine xr_iload C dX11_withShelf_92 rfl ?_
        refine xr_callV1i C (c_at l G _ _ _ _ M4 hv4.2 (j : Int) (by omega)) (cwV 1 C.1.2.2.2.2 gX11_withShelf_X0_at rfl rfl rfl (by decide +kernel) ⟨Nat.le_of_ble_eq_true rfl, Nat.le_of_ble_eq_true rfl⟩) hv4.2.1 rfl (Nat.le_of_ble_eq_true rfl) ⟨by dsimp only; omega, by dsimp only; omega⟩ dX11_withShelf_94 (fun r9 M9 hp9 => ?_)
        obtain ⟨rfl, rfl⟩ := hp9
        refine xr_i2l C dX11_withShelf_97 ?_
        refine xr_callS2l C (c_then l G M4 _ _) (cwS 2 C.1.2.2.2.2 gX11_withShelf_X11_then rfl rfl rfl (by decide +kernel) ⟨Nat.le_of_ble_eq_true rfl, Nat.le_of_ble_eq_true rfl⟩) (Nat.le_of_ble_eq_true rfl) ⟨by dsimp only; omega, by dsimp only; omega⟩ dX11_withShelf_98 (fun rt M9 hp9 => ?_)
        obtain ⟨rfl, rfl⟩ := hp9
        refine xr_lstore_n C dX11_withShelf_101 (by decide) rfl ?_
        refine xr_iinc C dX11_withShelf_102 rfl (by decide) rfl ?_
        refine xr_goto C dX11_withShelf_105 rfl ?_
        exact ih2 (j + 1) (by omega) (by omega)
    · have hfx : dgO (vWhl (h i) (d i)) = 1 := by
        cases hc : vWhl (h i) (d i)
        all_goals first | rfl | exact absurd hq5 (by rw [hc]; decide)
      refine xr_lconst C dX11_withShelf_46 rfl ?_
      refine xr_goto C dX11_withShelf_47 rfl ?_
      refine xr_callS2l C (c_then l G M4 _ _) (cwS 2 C.1.2.2.2.2 gX11_withShelf_X11_then rfl rfl rfl (by decide +kernel) ⟨Nat.le_of_ble_eq_true rfl, Nat.le_of_ble_eq_true rfl⟩) (Nat.le_of_ble_eq_true rfl) ⟨by dsimp only; omega, by dsimp only; omega⟩ dX11_withShelf_51 (fun rt M9 hp9 => ?_)
      obtain ⟨rfl, rfl⟩ := hp9
      refine xr_lstore_n C dX11_withShelf_54 (by decide) rfl ?_
      refine xr_lload_n C dX11_withShelf_55 rfl ?_
      refine xr_aload_n C dX11_withShelf_56 rfl ?_
      refine xr_get C (Cn := RX11) (T := TX11) (N := 5) (by decide +kernel) o4 rfl 2 (by decide) (C.1.2.2.2.2 (.fieldLink RX11 33 "OssuaryVault" "shelf" "LOssuaryVault$Shelf;") (by decide +kernel)) (fun _ h => h) rfl dX11_withShelf_57 ?_
      refine xr_iload C dX11_withShelf_60 rfl ?_
      refine xr_callV1i C (c_memberNumber l G La hI pv h d _ _ _ _ _ M4 hP4 hH4 i hil) (cwV 1 C.1.2.2.2.2 gX11_withShelf_X9_memberNumber rfl rfl rfl (by decide +kernel) ⟨Nat.le_of_ble_eq_true rfl, Nat.le_of_ble_eq_true rfl⟩) hH4.1 rfl (Nat.le_of_ble_eq_true rfl) ⟨by dsimp only; omega, by dsimp only; omega⟩ dX11_withShelf_62 (fun r10 M9 hp9 => ?_)
      obtain ⟨rfl, rfl⟩ := hp9
      refine xr_i2l C dX11_withShelf_65 ?_
      refine xr_callS2l C (c_then l G M4 _ _) (cwS 2 C.1.2.2.2.2 gX11_withShelf_X11_then rfl rfl rfl (by decide +kernel) ⟨Nat.le_of_ble_eq_true rfl, Nat.le_of_ble_eq_true rfl⟩) (Nat.le_of_ble_eq_true rfl) ⟨by dsimp only; omega, by dsimp only; omega⟩ dX11_withShelf_66 (fun rt M9 hp9 => ?_)
      obtain ⟨rfl, rfl⟩ := hp9
      refine xr_lstore_n C dX11_withShelf_69 (by decide) rfl ?_
      refine xr_iconst (n := 0) C dX11_withShelf_70 (by decide +kernel) ?_
      refine xr_istore C dX11_withShelf_71 (by decide) rfl ?_
      obtain ⟨A, hA⟩ : ∃ A : Int64, A = dgT (dgT (dgT (dgS h d (svS h d 16).2.2.1 x0 i) (dgZ (vsz (h i) (d i)))) 1) (dgZ ((svS h d 16).2.2.1 i)) := ⟨_, rfl⟩
      refine mq_eqL (L2 := [some (.ref (La 0)), some (.long x0), none, some (.long (dgB (d i) A 0)), none, some (.int (zI (i : Int))), some (.ref (La (104 + 3 * pv i))), some (.int (zI ((0 : Nat) : Int)))]) rfl (by rw [hA]; rfl) rfl rfl ?_
      refine mq_loop (σ := Nat) (fun y => y ≤ (d i).length) (fun y => (d i).length - y) (fun y => M4) (fun y => [some (.ref (La 0)), some (.long x0), none, some (.long (dgB (d i) A y)), none, some (.int (zI (i : Int))), some (.ref (La (104 + 3 * pv i))), some (.int (zI (y : Int)))]) (fun y => []) ?_ 0 (Nat.zero_le _)
      intro j hj ih2
      try dsimp only at hj ih2 ⊢
      have hdl := hv4.2.2.2.1
      refine xr_iload C dX11_withShelf_73 rfl ?_
      refine xr_aload C dX11_withShelf_75 rfl ?_
      refine xr_getN C (Cn := RX10) (T := TX10) (N := 4) (by decide +kernel) hv4.1 rfl 1 (by decide) (va_Nw.use rfl (C.2.2.1 ("OssuaryVault", 195, "OssuaryVault$Volume", "bytes", "LOssuaryVault$Bytes;", "OssuaryVault") (by decide +kernel))) (fun _ h => h) rfl dX11_withShelf_77 ?_
      refine xr_callV0i C (c_size l G _ _ _ _ M4 hv4.2) (cwV 0 C.1.2.2.2.2 gX11_withShelf_X0_size rfl rfl rfl (by decide +kernel) ⟨Nat.le_of_ble_eq_true rfl, Nat.le_of_ble_eq_true rfl⟩) hv4.2.1 rfl (Nat.le_of_ble_eq_true rfl) ⟨by dsimp only; omega, by dsimp only; omega⟩ dX11_withShelf_80 (fun r11 M9 hp9 => ?_)
      obtain ⟨rfl, rfl⟩ := hp9
      refine xr_icmp_ge C dX11_withShelf_83 rfl (by first | omega | (dsimp only; omega)) (by first | omega | (dsimp only; omega)) (fun hq12 => ?_) (fun hq12 => ?_)
      · refine xr_iinc C dX11_withShelf_108 rfl (by decide) rfl ?_
        refine xr_goto C dX11_withShelf_111 rfl ?_
        refine mq_drop 6 (mq_drop 7 ?_)
        have hs9 : dgS h d (svS h d 16).2.2.1 x0 (i + 1) = dgB (d i) (dgT (dgT (dgT (dgS h d (svS h d 16).2.2.1 x0 i) (dgZ (vsz (h i) (d i)))) (dgO (vWhl (h i) (d i)))) (dgZ ((svS h d 16).2.2.1 i))) (d i).length := rfl
        rw [hfx, ← hA] at hs9
        refine mq_eqL (L2 := [some (.ref (La 0)), some (.long x0), none, some (.long (dgS h d (svS h d 16).2.2.1 x0 (i + 1))), none, some (.int (zI ((i + 1 : Nat) : Int))), none, none]) rfl (by rw [hs9, show j = (d i).length by omega]; rfl) rfl rfl ?_
        exact ih (i + 1, M4, _) ⟨by dsimp only; omega, hP4, hH4, F4⟩ (by dsimp only; omega)
      · refine xr_lload_n C dX11_withShelf_86 rfl ?_
        refine xr_aload C dX11_withShelf_87 rfl ?_
        refine xr_getN C (Cn := RX10) (T := TX10) (N := 4) (by decide +kernel) hv4.1 rfl 1 (by decide) (va_Nw.use rfl (C.2.2.1 ("OssuaryVault", 195, "OssuaryVault$Volume", "bytes", "LOssuaryVault$Bytes;", "OssuaryVault") (by decide +kernel))) (fun _ h => h) rfl dX11_withShelf_89 ?_
        refine xr_iload C dX11_withShelf_92 rfl ?_
        refine xr_callV1i C (c_at l G _ _ _ _ M4 hv4.2 (j : Int) (by omega)) (cwV 1 C.1.2.2.2.2 gX11_withShelf_X0_at rfl rfl rfl (by decide +kernel) ⟨Nat.le_of_ble_eq_true rfl, Nat.le_of_ble_eq_true rfl⟩) hv4.2.1 rfl (Nat.le_of_ble_eq_true rfl) ⟨by dsimp only; omega, by dsimp only; omega⟩ dX11_withShelf_94 (fun r13 M9 hp9 => ?_)
        obtain ⟨rfl, rfl⟩ := hp9
        refine xr_i2l C dX11_withShelf_97 ?_
        refine xr_callS2l C (c_then l G M4 _ _) (cwS 2 C.1.2.2.2.2 gX11_withShelf_X11_then rfl rfl rfl (by decide +kernel) ⟨Nat.le_of_ble_eq_true rfl, Nat.le_of_ble_eq_true rfl⟩) (Nat.le_of_ble_eq_true rfl) ⟨by dsimp only; omega, by dsimp only; omega⟩ dX11_withShelf_98 (fun rt M9 hp9 => ?_)
        obtain ⟨rfl, rfl⟩ := hp9
        refine xr_lstore_n C dX11_withShelf_101 (by decide) rfl ?_
        refine xr_iinc C dX11_withShelf_102 rfl (by decide) rfl ?_
        refine xr_goto C dX11_withShelf_105 rfl ?_
        exact ih2 (j + 1) (by omega) (by omega)
set_option maxHeartbeats 4000000 in
set_option maxRecDepth 100000 in
theorem c_digest (l : Launch) (G : mq_G) (La : Nat → Nat) (hI : mq_inj La) (sh : List Nat) (k : vtD) (h : Nat → Bool) (d : Nat → List Nat) (r : vtR) (M : mq_M) (hV : vtI G M La sh k h d r) : mq_T l yX11_digest wsX11_digest { frames := 6, cells := 0, slots := 0, locals := 129 } G [.ref (La 0)] M (mq_pl (fun r9 M2 => r9 = dgA k h d r ∧ vtI G M2 La sh k h d r ∧ mq_FR La vtA M M2)) 0 0 := by
  refine mq_Met.of (cc := cX11_digest) (maxL := 1) (ret := (some .long)) (by decide) rfl (Nat.le_of_ble_eq_true rfl) rfl rfl ?_
  intro p_ e_ s_ m_ args_ below_ meth_ c_ z_ C hr hlk hname
  obtain ⟨v1, v2, v3, v4, v5, v6, ⟨pv, vd, ld, mb, nu, ho, hP, hH⟩, v8, v9⟩ := id hV
  refine xr_aload_n C dX11_digest_0 rfl ?_
  refine xr_get C (Cn := RX11) (T := TX11) (N := 5) (by decide +kernel) v1 rfl 2 (by decide) (C.1.2.2.2.2 (.fieldLink RX11 33 "OssuaryVault" "shelf" "LOssuaryVault$Shelf;") (by decide +kernel)) (fun _ h => h) rfl dX11_digest_1 ?_
  refine xr_callV0v C (c_survey l G La hI pv h d vd ld mb nu ho M hP hH v2) (cwV 0 C.1.2.2.2.2 gX11_digest_X9_survey rfl rfl rfl (by decide +kernel) ⟨Nat.le_of_ble_eq_true rfl, Nat.le_of_ble_eq_true rfl⟩) hH.1 rfl (Nat.le_of_ble_eq_true rfl) ⟨by dsimp only; omega, by dsimp only; omega⟩ dX11_digest_4 (fun M2 hp2 => ?_)
  obtain ⟨⟨vd2, hP2, hH2⟩, hF2⟩ := hp2
  have hV2 := hV.shelf hI hF2 (fun q hq => mq_TVm.mp hq) ⟨pv, vd2, _, _, _, _, hP2, hH2⟩
  refine xr_aload_n C dX11_digest_7 rfl ?_
  refine xr_aload_n C dX11_digest_8 rfl ?_
  refine xr_aload_n C dX11_digest_9 rfl ?_
  refine xr_ldc2 (k0 := 2473) C (C.1.2.2.2.2 (.constantLong RX11 307 2473) (by decide +kernel)) dX11_digest_10 ?_
  refine xr_callV1l C (c_withDesk l G La hI sh k h d r M2 hV2 2473) (cwV 1 C.1.2.2.2.2 gX11_digest_X11_withDesk rfl rfl rfl (by decide +kernel) ⟨Nat.le_of_ble_eq_true rfl, Nat.le_of_ble_eq_true rfl⟩) hV2.1 rfl (Nat.le_of_ble_eq_true rfl) ⟨by dsimp only; omega, by dsimp only; omega⟩ dX11_digest_13 (fun rt M9 hp9 => ?_)
  obtain ⟨rfl, rfl⟩ := hp9
  refine xr_callV1l C (c_withShelf l G La hI M2 hV2.1 hV2.2.1 pv h d vd2 hP2 hH2 _) (cwV 1 C.1.2.2.2.2 gX11_digest_X11_withShelf rfl rfl rfl (by decide +kernel) ⟨Nat.le_of_ble_eq_true rfl, Nat.le_of_ble_eq_true rfl⟩) hV2.1 rfl (Nat.le_of_ble_eq_true rfl) ⟨by dsimp only; omega, by dsimp only; omega⟩ dX11_digest_16 (fun rt M3 hp3 => ?_)
  obtain ⟨rfl, ⟨vd3, hP3, hH3⟩, hF3⟩ := hp3
  have hV3 := hV2.shelf hI hF3 (fun q hq => mq_TVm.mp hq) ⟨pv, vd3, _, _, _, _, hP3, hH3⟩
  refine xr_callV1l C (c_withReading l G La hI sh k h d _ _ _ _ _ _ _ _ _ _ _ M3 hV3 _) (cwV 1 C.1.2.2.2.2 gX11_digest_X11_withReading rfl rfl rfl (by decide +kernel) ⟨Nat.le_of_ble_eq_true rfl, Nat.le_of_ble_eq_true rfl⟩) hV3.1 rfl (Nat.le_of_ble_eq_true rfl) ⟨by dsimp only; omega, by dsimp only; omega⟩ dX11_digest_19 (fun rt M9 hp9 => ?_)
  obtain ⟨rfl, rfl⟩ := hp9
  exact xr_lret C hr hlk ⟨_, rfl, rfl, hV3, (hF2.all mq_TVl).tr (hF3.all mq_TVl)⟩ (by omega) (by omega) dX11_digest_22
