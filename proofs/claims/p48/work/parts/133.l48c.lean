/-! ===== p48: a content is written on the sheet ===== -/
set_option maxHeartbeats 4000000 in
set_option maxRecDepth 100000 in
theorem l_write (l : Launch) (G : mq_G) (b sn : Nat) (sx : Nat → Int32) (hG : qG G b sn sx) (hsn : sn < 1000) (La : Nat → Nat) (x ka ca : Nat) (hB : ldB La x ka ca) (k : vtD) (h : Nat → Bool) (d : Nat → List Nat) (r : vtR) (dr : Int) (hdr : 0 ≤ dr ∧ dr < 1000000) (M : mq_M) (hD : ldA G M La x b ka ca [] k h d r dr) : mq_T l yX12_write wsX12_write { frames := 3, cells := 2, slots := 300, locals := 67 } G [.ref x, .int (zI 60)] M (mq_pa (fun q M2 => ∃ (sh : List Nat) (dr2 : Int), (sh.length ≤ 60 ∧ dr ≤ dr2 ∧ dr2 ≤ dr + 60) ∧ ldA G M2 La x b ka ca sh k h d r dr2 ∧ cR G M2 La q)) 2 300 := by
  refine mq_Met.of (cc := cX12_write) (maxL := 8) (ret := (some (.array .int))) (by decide) rfl (Nat.le_of_ble_eq_true rfl) rfl rfl ?_
  intro p_ e_ s_ m_ args_ below_ meth_ c_ z_ C hr hlk hname
  refine xr_sipush (n := 240) C dX12_write_0 (by decide +kernel) ?_
  refine xr_newI C (C.1.2.2.2.2 (.arrayClass .int) (by decide +kernel)) mq_tI (by omega) (by dsimp only; omega) (by dsimp only; omega) dX12_write_3 (fun q1 hq1 => ?_)
  refine mq_ren (fun M2 hM2 => ?_)
  have hI : mq_inj La := hB.1
  obtain ⟨hqx, hqk, hqc, hqL⟩ := hD.fresh hq1
  have w0 : wrI G M2 La x b ka ca k h d r q1 0 dr (fun _ => 0) := ⟨⟨[], rfl, hD.new hq1 hM2⟩, by rw [hM2]; exact mq_up_s⟩
  refine xr_astore_n C dX12_write_5 (by decide) rfl ?_
  refine xr_iconst (n := 0) C dX12_write_6 (by decide +kernel) ?_
  refine xr_istore_n C dX12_write_7 (by decide) rfl ?_
  refine xr_aload_n C dX12_write_8 rfl ?_
  refine xr_bipush (n := 6) C dX12_write_9 (by decide +kernel) ?_
  have ld1 := w0.D
  refine xr_callV1i C (l_draw l G sn sx x (La 0) b (dr) (k.1 : Int) ka ca _ ld1 hG hsn (by omega) 6 (by decide)) (cwV 1 C.1.2.2.2.2 gX12_write_X12_draw rfl rfl rfl (by decide +kernel) ⟨Nat.le_of_ble_eq_true rfl, Nat.le_of_ble_eq_true rfl⟩) ld1 rfl (Nat.le_of_ble_eq_true rfl) ⟨by dsimp only; omega, by dsimp only; omega⟩ dX12_write_11 (fun v1 Md1 hp1 => ?_)
  obtain ⟨hv1, hMd1⟩ := hp1
  have w1 := w0.draw hB hqx hMd1
  refine xr_istore C dX12_write_14 (by decide) rfl ?_
  obtain ⟨k0, rfl⟩ := Int.eq_ofNat_of_zero_le hv1.1
  refine mq_loop (σ := Nat × Nat × Int × mq_M × (Nat → Int32)) (fun y => (y.1 ≤ k0 ∧ y.2.1 ≤ 60 ∧ dr + 1 ≤ y.2.2.1 ∧ y.2.2.1 ≤ dr + 1 + 5 * ((k0 - y.1 : Nat) : Int)) ∧ wrI G y.2.2.2.1 La x b ka ca k h d r q1 y.2.1 y.2.2.1 y.2.2.2.2) (fun y => y.1) (fun y => y.2.2.2.1) (fun y => [some (.ref x), some (.int (zI 60)), some (.ref q1), some (.int (zI (y.2.1 : Int))), some (.int (zI (y.1 : Int))), none, none, none]) (fun y => []) ?_ (k0, 0, dr + 1, Md1, fun _ => 0) ⟨⟨Nat.le_refl _, by dsimp only; omega, Int.le_refl _, by dsimp only; omega⟩, w1⟩
  rintro ⟨kk, size, dq, M9, f9⟩ ⟨⟨a1, a2, a3, a4⟩, ww⟩ ih
  dsimp only at a1 a2 a3 a4 ww ih ⊢
  refine xr_iload C dX12_write_16 rfl ?_
  refine xr_if_le C dX12_write_18 rfl (by first | omega | (dsimp only; omega)) (fun hq3 => ?_) (fun hq3 => ?_)
  · refine xr_iload_n C dX12_write_200 rfl ?_
    refine xr_newI C (C.1.2.2.2.2 (.arrayClass .int) (by decide +kernel)) mq_tI (by omega) (by dsimp only; omega) (by dsimp only; omega) dX12_write_201 (fun q4 hq4 => ?_)
    refine mq_ren (fun M5 hM5 => ?_)
    refine xr_astore C dX12_write_203 (by decide) rfl ?_
    refine xr_aload_n C dX12_write_205 rfl ?_
    refine xr_iconst (n := 0) C dX12_write_206 (by decide +kernel) ?_
    refine xr_aload C dX12_write_207 rfl ?_
    refine xr_iconst (n := 0) C dX12_write_209 (by decide +kernel) ?_
    refine xr_iload_n C dX12_write_210 rfl ?_
    obtain ⟨⟨sh, s1, s2⟩, s3⟩ := ww
    have hqq : q1 ≠ q4 := fun e => by rw [e, hq4] at s3; cases s3
    obtain ⟨f1, f2, f3, f4⟩ := s2.fresh hq4
    have r0 : M5 q1 = some (.inl (G.2.1, 240, .inl f9)) := by rw [hM5, mq_up_n hqq]; exact s3
    have r1 : M5 q4 = some (.inl (G.2.1, size, .inl (fun _ => 0))) := by rw [hM5]; exact mq_up_s
    refine xr_copyI (sp := 0) (dp := 0) (k0 := size) C (C.1.2.2.2.2 (.methodLink RX12 64 arraycopyName) (by decide +kernel)) (C.1.2.2.2.2 (.native arraycopyName) (by decide +kernel)) (C.1.2.2.2.2 (.static arraycopyName) (by decide +kernel)) (C.1.2.2.2.2 (.initialized "java/lang/System") (by decide +kernel)) r0 r1 mq_tI mq_tI (by omega) (by omega) ⟨by decide, by decide, by omega⟩ (Nat.le_of_ble_eq_true rfl) (by decide +kernel) dX12_write_211 ?_
    refine mq_ren (fun M6 hM6 => ?_)
    refine xr_aload C dX12_write_214 rfl ?_
    exact xr_aret (v := some q4) C hr (Or.inr ⟨_, rfl⟩) hlk ⟨_, rfl, sh, dq, ⟨by omega, by omega, by omega⟩, (s2.new hq4 hM5).row f1 f2 f3 f4 hM6, fun i hi e => f4 i hi e.symm, size, va_cpy f9 (fun _ => 0) 0 0 size, by rw [hM6]; exact mq_up_s⟩ (by first | omega | (dsimp only; omega)) (by first | omega | (dsimp only; omega)) dX12_write_216
  · refine xr_iload_n C dX12_write_21 rfl ?_
    refine xr_iload_n C dX12_write_22 rfl ?_
    refine xr_icmp_ge C dX12_write_23 rfl (by first | omega | (dsimp only; omega)) (by first | omega | (dsimp only; omega)) (fun hq7 => ?_) (fun hq7 => ?_)
    · refine xr_iload_n C dX12_write_200 rfl ?_
      refine xr_newI C (C.1.2.2.2.2 (.arrayClass .int) (by decide +kernel)) mq_tI (by omega) (by dsimp only; omega) (by dsimp only; omega) dX12_write_201 (fun q8 hq8 => ?_)
      refine mq_ren (fun M9 hM9 => ?_)
      refine xr_astore C dX12_write_203 (by decide) rfl ?_
      refine xr_aload_n C dX12_write_205 rfl ?_
      refine xr_iconst (n := 0) C dX12_write_206 (by decide +kernel) ?_
      refine xr_aload C dX12_write_207 rfl ?_
      refine xr_iconst (n := 0) C dX12_write_209 (by decide +kernel) ?_
      refine xr_iload_n C dX12_write_210 rfl ?_
      obtain ⟨⟨sh, s1, s2⟩, s3⟩ := ww
      have hqq : q1 ≠ q8 := fun e => by rw [e, hq8] at s3; cases s3
      obtain ⟨f1, f2, f3, f4⟩ := s2.fresh hq8
      have r0 : M9 q1 = some (.inl (G.2.1, 240, .inl f9)) := by rw [hM9, mq_up_n hqq]; exact s3
      have r1 : M9 q8 = some (.inl (G.2.1, size, .inl (fun _ => 0))) := by rw [hM9]; exact mq_up_s
      refine xr_copyI (sp := 0) (dp := 0) (k0 := size) C (C.1.2.2.2.2 (.methodLink RX12 64 arraycopyName) (by decide +kernel)) (C.1.2.2.2.2 (.native arraycopyName) (by decide +kernel)) (C.1.2.2.2.2 (.static arraycopyName) (by decide +kernel)) (C.1.2.2.2.2 (.initialized "java/lang/System") (by decide +kernel)) r0 r1 mq_tI mq_tI (by omega) (by omega) ⟨by decide, by decide, by omega⟩ (Nat.le_of_ble_eq_true rfl) (by decide +kernel) dX12_write_211 ?_
      refine mq_ren (fun M10 hM10 => ?_)
      refine xr_aload C dX12_write_214 rfl ?_
      exact xr_aret (v := some q8) C hr (Or.inr ⟨_, rfl⟩) hlk ⟨_, rfl, sh, dq, ⟨by omega, by omega, by omega⟩, (s2.new hq8 hM9).row f1 f2 f3 f4 hM10, fun i hi e => f4 i hi e.symm, size, va_cpy f9 (fun _ => 0) 0 0 size, by rw [hM10]; exact mq_up_s⟩ (by first | omega | (dsimp only; omega)) (by first | omega | (dsimp only; omega)) dX12_write_216
    · refine xr_iload_n C dX12_write_26 rfl ?_
      refine xr_iload_n C dX12_write_27 rfl ?_
      refine xr_isub C dX12_write_28 ?_
      refine xr_iconst (n := 1) C dX12_write_29 (by decide +kernel) ?_
      refine xr_aload_n C dX12_write_30 rfl ?_
      refine xr_aload_n C dX12_write_31 rfl ?_
      refine xr_iconst (n := 3) C dX12_write_32 (by decide +kernel) ?_
      have ld2 := ww.D
      refine xr_callV1i C (l_draw l G sn sx x (La 0) b (dq) (k.1 : Int) ka ca _ ld2 hG hsn (by omega) 3 (by decide)) (cwV 1 C.1.2.2.2.2 gX12_write_X12_draw rfl rfl rfl (by decide +kernel) ⟨Nat.le_of_ble_eq_true rfl, Nat.le_of_ble_eq_true rfl⟩) ld2 rfl (Nat.le_of_ble_eq_true rfl) ⟨by dsimp only; omega, by dsimp only; omega⟩ dX12_write_33 (fun v2 Md2 hp2 => ?_)
      obtain ⟨hv2, hMd2⟩ := hp2
      have w2 := ww.draw hB hqx hMd2
      refine xr_if_ne C dX12_write_36 rfl (by first | omega | (dsimp only; omega)) (fun hq11 => ?_) (fun hq11 => ?_)
      · refine xr_bipush (n := 12) C dX12_write_45 (by decide +kernel) ?_
        have ld3 := w2.D
        refine xr_callV1i C (l_draw l G sn sx x (La 0) b (dq + 1) (k.1 : Int) ka ca _ ld3 hG hsn (by omega) 12 (by decide)) (cwV 1 C.1.2.2.2.2 gX12_write_X12_draw rfl rfl rfl (by decide +kernel) ⟨Nat.le_of_ble_eq_true rfl, Nat.le_of_ble_eq_true rfl⟩) ld3 rfl (Nat.le_of_ble_eq_true rfl) ⟨by dsimp only; omega, by dsimp only; omega⟩ dX12_write_47 (fun v3 Md3 hp3 => ?_)
        obtain ⟨hv3, hMd3⟩ := hp3
        have w3 := w2.draw hB hqx hMd3
        refine xr_iadd C dX12_write_50 ?_
        refine xr_min C (by first | omega | (dsimp only; omega)) (by first | omega | (dsimp only; omega)) (C.1.2.2.2.2 (.methodLink RX12 46 Lib.Math.min.name) (by decide +kernel)) (C.1.2.2.2.2 (.static Lib.Math.min.name) (by decide +kernel)) (C.1.2.2.2.2 (.initialized "java/lang/Math") (by decide +kernel)) (C.1.2.2.2.2 (.code Lib.Math.min.name Lib.Math.min.code 2 (some .int)) (by decide +kernel)) (Nat.le_of_ble_eq_true rfl) (Nat.le_of_ble_eq_true rfl) (by dsimp only; omega) (by dsimp only; omega) dX12_write_51 ?_
        obtain ⟨t, ht, ht1, ht2⟩ : ∃ t : Nat, min ((60 : Int) - (size : Int)) (1 + v3) = (t : Int) ∧ 1 ≤ t ∧ size + t ≤ 60 := ⟨(min ((60 : Int) - (size : Int)) (1 + v3)).toNat, by omega, by omega, by omega⟩
        rw [ht]
        refine xr_istore C dX12_write_54 (by decide) rfl ?_
        refine xr_aload_n C dX12_write_56 rfl ?_
        refine xr_iconst (n := 3) C dX12_write_57 (by decide +kernel) ?_
        have ld4 := w3.D
        refine xr_callV1i C (l_draw l G sn sx x (La 0) b (dq + 1 + 1) (k.1 : Int) ka ca _ ld4 hG hsn (by omega) 3 (by decide)) (cwV 1 C.1.2.2.2.2 gX12_write_X12_draw rfl rfl rfl (by decide +kernel) ⟨Nat.le_of_ble_eq_true rfl, Nat.le_of_ble_eq_true rfl⟩) ld4 rfl (Nat.le_of_ble_eq_true rfl) ⟨by dsimp only; omega, by dsimp only; omega⟩ dX12_write_58 (fun v4 Md4 hp4 => ?_)
        obtain ⟨hv4, hMd4⟩ := hp4
        have w4 := w3.draw hB hqx hMd4
        refine xr_if_le C dX12_write_61 rfl (by first | omega | (dsimp only; omega)) (fun hq12 => ?_) (fun hq12 => ?_)
        · refine xr_aload_n C dX12_write_120 rfl ?_
          refine xr_ldc (k0 := 65536) C (C.1.2.2.2.2 (.constant RX12 54 (zI 65536)) (by decide +kernel)) dX12_write_121 ?_
          have ld5 := w4.D
          refine xr_callV1i C (l_draw l G sn sx x (La 0) b (dq + 1 + 1 + 1) (k.1 : Int) ka ca _ ld5 hG hsn (by omega) 65536 (by decide)) (cwV 1 C.1.2.2.2.2 gX12_write_X12_draw rfl rfl rfl (by decide +kernel) ⟨Nat.le_of_ble_eq_true rfl, Nat.le_of_ble_eq_true rfl⟩) ld5 rfl (Nat.le_of_ble_eq_true rfl) ⟨by dsimp only; omega, by dsimp only; omega⟩ dX12_write_123 (fun v5 Md5 hp5 => ?_)
          obtain ⟨hv5, hMd5⟩ := hp5
          have w5 := w4.draw hB hqx hMd5
          obtain ⟨u5, rfl⟩ := Int.eq_ofNat_of_zero_le hv5.1
          have le5 := w5.D
          obtain ⟨sh5, sa5, sc5⟩ := w5.1
          have sb5 := sc5.V
          refine xr_istore C dX12_write_126 (by decide) rfl ?_
          refine xr_aload_n C dX12_write_128 rfl ?_
          refine xr_get C (Cn := RX12) (T := TX12) (N := 6) (by decide +kernel) le5 rfl 0 (by decide) (C.1.2.2.2.2 (.fieldLink RX12 10 "OssuaryVaultLaw$Desk" "m" "LOssuaryVault;") (by decide +kernel)) (fun _ h => h) rfl dX12_write_129 ?_
          refine xr_iload C dX12_write_132 rfl ?_
          refine xr_iload C dX12_write_134 rfl ?_
          refine xr_callV2i C (c_noise l G La hI sh5 k h d r _ sb5 u5 t (by omega) (by omega) (by omega)) (cwV 2 C.1.2.2.2.2 gX12_write_X11_noise rfl rfl rfl (by decide +kernel) ⟨Nat.le_of_ble_eq_true rfl, Nat.le_of_ble_eq_true rfl⟩) sb5.1 rfl (Nat.le_of_ble_eq_true rfl) ⟨by dsimp only; omega, by dsimp only; omega⟩ dX12_write_136 (fun r9 M6 hp6 => ?_)
          obtain ⟨rfl, ⟨sh6, hl6, hV6⟩, hF6⟩ := hp6
          have w6 := w5.vault (size2 := size + t) hB hqL ⟨sh6, by omega, hV6⟩ hF6
          refine xr_iload_n C dX12_write_139 rfl ?_
          refine xr_iload C dX12_write_140 rfl ?_
          refine xr_iadd C dX12_write_142 ?_
          refine xr_icmp_eq C dX12_write_143 rfl (by omega) (by omega) (fun _ => ?_) (fun hq => absurd hq (by omega))
          refine xr_iconst (n := 0) C dX12_write_148 (by decide +kernel) ?_
          refine xr_istore C dX12_write_149 (by decide) rfl ?_
          refine mq_loop (σ := Nat × mq_M × (Nat → Int32) × Int) (fun y => y.1 ≤ t ∧ wrI G y.2.1 La x b ka ca k h d r q1 (size + t) (dq + 1 + 1 + 1 + 1) y.2.2.1) (fun y => t - y.1) (fun y => y.2.1) (fun y => [some (.ref x), some (.int (zI 60)), some (.ref q1), some (.int (zI ((size + y.1 : Nat) : Int))), some (.int (zI (kk : Int))), some (.int (zI (t : Int))), some (.int (zI y.2.2.2)), some (.int (zI (y.1 : Int)))]) (fun y => []) ?_ (0, M6, f9, (u5 : Int)) ⟨Nat.zero_le _, w6⟩
          rintro ⟨i, M5, f5, y5⟩ ⟨hi, w5⟩ ih5
          dsimp only at hi w5 ih5 ⊢
          refine xr_iload C dX12_write_151 rfl ?_
          refine xr_iload C dX12_write_153 rfl ?_
          refine xr_icmp_ge C dX12_write_155 rfl (by first | omega | (dsimp only; omega)) (by first | omega | (dsimp only; omega)) (fun hq13 => ?_) (fun hq13 => ?_)
          · obtain rfl : i = t := by omega
            refine xr_iinc C dX12_write_194 rfl (by decide) rfl ?_
            refine xr_goto C dX12_write_197 rfl ?_
            refine mq_drop 5 ?_
            refine mq_drop 6 ?_
            refine mq_drop 7 ?_
            rw [show (kk : Int) + -1 = ((kk - 1 : Nat) : Int) by omega]
            exact ih (kk - 1, size + i, dq + 1 + 1 + 1 + 1, M5, f5) ⟨⟨by dsimp only; omega, by dsimp only; omega, by dsimp only; omega, by dsimp only; omega⟩, w5⟩ (by dsimp only; omega)
          · skip
            refine xr_iload C dX12_write_158 rfl ?_
            refine xr_i2l C dX12_write_160 ?_
            refine xr_ldc2 (k0 := 75) C (C.1.2.2.2.2 (.constantLong RX12 58 75) (by decide +kernel)) dX12_write_161 ?_
            refine xr_lmul C dX12_write_164 ?_
            refine xr_ldc2 (k0 := 74) C (C.1.2.2.2.2 (.constantLong RX12 60 74) (by decide +kernel)) dX12_write_165 ?_
            refine xr_ladd C dX12_write_168 ?_
            refine xr_ldc2 (k0 := 65537) C (C.1.2.2.2.2 (.constantLong RX12 62 65537) (by decide +kernel)) dX12_write_169 ?_
            refine xr_lrem C dX12_write_172 (by decide) ?_
            obtain ⟨y6, ey6, hy6⟩ := zI_of (((zI y5).toInt64 * 75 + 74 - ((zI y5).toInt64 * 75 + 74) / 65537 * 65537).toInt32)
            refine xr_l2i (w := y6) C dX12_write_173 ey6 ?_
            refine xr_istore C dX12_write_174 (by decide) rfl ?_
            refine xr_aload_n C dX12_write_176 rfl ?_
            refine xr_iload_n C dX12_write_177 rfl ?_
            refine xr_iinc C dX12_write_178 rfl (by decide) rfl ?_
            refine xr_iload C dX12_write_181 rfl ?_
            refine xr_sipush (n := 255) C dX12_write_183 (by decide +kernel) ?_
            obtain ⟨y7, ey7, hy7⟩ := zI_of (zI y6 &&& zI 255)
            refine xr_iand (w := y7) C dX12_write_186 ey7 ?_
            refine xr_iast C w5.2 mq_tI (by omega) (by omega) (by omega) dX12_write_187 ?_
            refine mq_ren (fun M14 hM14 => ?_)
            refine xr_iinc C dX12_write_188 rfl (by decide) rfl ?_
            refine xr_goto C dX12_write_191 rfl ?_
            rw [show ((size + i : Nat) : Int) + 1 = ((size + (i + 1) : Nat) : Int) by omega, show (i : Int) + 1 = ((i + 1 : Nat) : Int) by omega]
            exact ih5 (i + 1, M14, _, y6) ⟨by dsimp only; omega, w5.made hqx hqk hqc hqL hM14⟩ (by dsimp only; omega)
        · refine xr_aload_n C dX12_write_64 rfl ?_
          refine xr_sipush (n := 256) C dX12_write_65 (by decide +kernel) ?_
          have ld6 := w4.D
          refine xr_callV1i C (l_draw l G sn sx x (La 0) b (dq + 1 + 1 + 1) (k.1 : Int) ka ca _ ld6 hG hsn (by omega) 256 (by decide)) (cwV 1 C.1.2.2.2.2 gX12_write_X12_draw rfl rfl rfl (by decide +kernel) ⟨Nat.le_of_ble_eq_true rfl, Nat.le_of_ble_eq_true rfl⟩) ld6 rfl (Nat.le_of_ble_eq_true rfl) ⟨by dsimp only; omega, by dsimp only; omega⟩ dX12_write_68 (fun v6 Md6 hp6 => ?_)
          obtain ⟨hv6, hMd6⟩ := hp6
          have w6 := w4.draw hB hqx hMd6
          obtain ⟨u6, rfl⟩ := Int.eq_ofNat_of_zero_le hv6.1
          have le6 := w6.D
          obtain ⟨sh6, sa6, sc6⟩ := w6.1
          have sb6 := sc6.V
          refine xr_istore C dX12_write_71 (by decide) rfl ?_
          refine xr_aload_n C dX12_write_73 rfl ?_
          refine xr_get C (Cn := RX12) (T := TX12) (N := 6) (by decide +kernel) le6 rfl 0 (by decide) (C.1.2.2.2.2 (.fieldLink RX12 10 "OssuaryVaultLaw$Desk" "m" "LOssuaryVault;") (by decide +kernel)) (fun _ h => h) rfl dX12_write_74 ?_
          refine xr_iload C dX12_write_77 rfl ?_
          refine xr_iload C dX12_write_79 rfl ?_
          refine xr_callV2i C (c_write l G La hI sh6 k h d r _ sb6 u6 t (by omega) (by omega) (by omega)) (cwV 2 C.1.2.2.2.2 gX12_write_X11_write rfl rfl rfl (by decide +kernel) ⟨Nat.le_of_ble_eq_true rfl, Nat.le_of_ble_eq_true rfl⟩) sb6.1 rfl (Nat.le_of_ble_eq_true rfl) ⟨by dsimp only; omega, by dsimp only; omega⟩ dX12_write_81 (fun r9 M6 hp6 => ?_)
          obtain ⟨rfl, hV6, hF6⟩ := hp6
          have w6 := w6.vault (size2 := size + t) hB hqL ⟨_, by rw [List.length_append, List.length_replicate, sa6], hV6⟩ hF6
          refine xr_iload_n C dX12_write_84 rfl ?_
          refine xr_iload C dX12_write_85 rfl ?_
          refine xr_iadd C dX12_write_87 ?_
          refine xr_icmp_eq C dX12_write_88 rfl (by omega) (by omega) (fun _ => ?_) (fun hq => absurd hq (by omega))
          refine xr_iconst (n := 0) C dX12_write_93 (by decide +kernel) ?_
          refine xr_istore C dX12_write_94 (by decide) rfl ?_
          refine mq_loop (σ := Nat × mq_M × (Nat → Int32)) (fun y => y.1 ≤ t ∧ wrI G y.2.1 La x b ka ca k h d r q1 (size + t) (dq + 1 + 1 + 1 + 1) y.2.2) (fun y => t - y.1) (fun y => y.2.1) (fun y => [some (.ref x), some (.int (zI 60)), some (.ref q1), some (.int (zI ((size + y.1 : Nat) : Int))), some (.int (zI (kk : Int))), some (.int (zI (t : Int))), some (.int (zI (u6 : Int))), some (.int (zI (y.1 : Int)))]) (fun y => []) ?_ (0, M6, f9) ⟨Nat.zero_le _, w6⟩
          rintro ⟨i, M5, f5⟩ ⟨hi, w5⟩ ih5
          dsimp only at hi w5 ih5 ⊢
          refine xr_iload C dX12_write_96 rfl ?_
          refine xr_iload C dX12_write_98 rfl ?_
          refine xr_icmp_ge C dX12_write_100 rfl (by first | omega | (dsimp only; omega)) (by first | omega | (dsimp only; omega)) (fun hq15 => ?_) (fun hq15 => ?_)
          · obtain rfl : i = t := by omega
            refine xr_goto C dX12_write_117 rfl ?_
            refine xr_iinc C dX12_write_194 rfl (by decide) rfl ?_
            refine xr_goto C dX12_write_197 rfl ?_
            refine mq_drop 5 ?_
            refine mq_drop 6 ?_
            refine mq_drop 7 ?_
            rw [show (kk : Int) + -1 = ((kk - 1 : Nat) : Int) by omega]
            exact ih (kk - 1, size + i, dq + 1 + 1 + 1 + 1, M5, f5) ⟨⟨by dsimp only; omega, by dsimp only; omega, by dsimp only; omega, by dsimp only; omega⟩, w5⟩ (by dsimp only; omega)
          · refine xr_aload_n C dX12_write_103 rfl ?_
            refine xr_iload_n C dX12_write_104 rfl ?_
            refine xr_iinc C dX12_write_105 rfl (by decide) rfl ?_
            refine xr_iload C dX12_write_108 rfl ?_
            refine xr_iast C w5.2 mq_tI (by omega) (by omega) (by omega) dX12_write_110 ?_
            refine mq_ren (fun M16 hM16 => ?_)
            refine xr_iinc C dX12_write_111 rfl (by decide) rfl ?_
            refine xr_goto C dX12_write_114 rfl ?_
            rw [show ((size + i : Nat) : Int) + 1 = ((size + (i + 1) : Nat) : Int) by omega, show (i : Int) + 1 = ((i + 1 : Nat) : Int) by omega]
            exact ih5 (i + 1, M16, _) ⟨by dsimp only; omega, w5.made hqx hqk hqc hqL hM16⟩ (by dsimp only; omega)
      · refine xr_sipush (n := 150) C dX12_write_39 (by decide +kernel) ?_
        refine xr_goto C dX12_write_42 rfl ?_
        have ld7 := w2.D
        refine xr_callV1i C (l_draw l G sn sx x (La 0) b (dq + 1) (k.1 : Int) ka ca _ ld7 hG hsn (by omega) 150 (by decide)) (cwV 1 C.1.2.2.2.2 gX12_write_X12_draw rfl rfl rfl (by decide +kernel) ⟨Nat.le_of_ble_eq_true rfl, Nat.le_of_ble_eq_true rfl⟩) ld7 rfl (Nat.le_of_ble_eq_true rfl) ⟨by dsimp only; omega, by dsimp only; omega⟩ dX12_write_47 (fun v7 Md7 hp7 => ?_)
        obtain ⟨hv7, hMd7⟩ := hp7
        have w7 := w2.draw hB hqx hMd7
        refine xr_iadd C dX12_write_50 ?_
        refine xr_min C (by first | omega | (dsimp only; omega)) (by first | omega | (dsimp only; omega)) (C.1.2.2.2.2 (.methodLink RX12 46 Lib.Math.min.name) (by decide +kernel)) (C.1.2.2.2.2 (.static Lib.Math.min.name) (by decide +kernel)) (C.1.2.2.2.2 (.initialized "java/lang/Math") (by decide +kernel)) (C.1.2.2.2.2 (.code Lib.Math.min.name Lib.Math.min.code 2 (some .int)) (by decide +kernel)) (Nat.le_of_ble_eq_true rfl) (Nat.le_of_ble_eq_true rfl) (by dsimp only; omega) (by dsimp only; omega) dX12_write_51 ?_
        obtain ⟨t, ht, ht1, ht2⟩ : ∃ t : Nat, min ((60 : Int) - (size : Int)) (1 + v7) = (t : Int) ∧ 1 ≤ t ∧ size + t ≤ 60 := ⟨(min ((60 : Int) - (size : Int)) (1 + v7)).toNat, by omega, by omega, by omega⟩
        rw [ht]
        refine xr_istore C dX12_write_54 (by decide) rfl ?_
        refine xr_aload_n C dX12_write_56 rfl ?_
        refine xr_iconst (n := 3) C dX12_write_57 (by decide +kernel) ?_
        have ld8 := w7.D
        refine xr_callV1i C (l_draw l G sn sx x (La 0) b (dq + 1 + 1) (k.1 : Int) ka ca _ ld8 hG hsn (by omega) 3 (by decide)) (cwV 1 C.1.2.2.2.2 gX12_write_X12_draw rfl rfl rfl (by decide +kernel) ⟨Nat.le_of_ble_eq_true rfl, Nat.le_of_ble_eq_true rfl⟩) ld8 rfl (Nat.le_of_ble_eq_true rfl) ⟨by dsimp only; omega, by dsimp only; omega⟩ dX12_write_58 (fun v8 Md8 hp8 => ?_)
        obtain ⟨hv8, hMd8⟩ := hp8
        have w8 := w7.draw hB hqx hMd8
        refine xr_if_le C dX12_write_61 rfl (by first | omega | (dsimp only; omega)) (fun hq17 => ?_) (fun hq17 => ?_)
        · refine xr_aload_n C dX12_write_120 rfl ?_
          refine xr_ldc (k0 := 65536) C (C.1.2.2.2.2 (.constant RX12 54 (zI 65536)) (by decide +kernel)) dX12_write_121 ?_
          have ld9 := w8.D
          refine xr_callV1i C (l_draw l G sn sx x (La 0) b (dq + 1 + 1 + 1) (k.1 : Int) ka ca _ ld9 hG hsn (by omega) 65536 (by decide)) (cwV 1 C.1.2.2.2.2 gX12_write_X12_draw rfl rfl rfl (by decide +kernel) ⟨Nat.le_of_ble_eq_true rfl, Nat.le_of_ble_eq_true rfl⟩) ld9 rfl (Nat.le_of_ble_eq_true rfl) ⟨by dsimp only; omega, by dsimp only; omega⟩ dX12_write_123 (fun v9 Md9 hp9 => ?_)
          obtain ⟨hv9, hMd9⟩ := hp9
          have w9 := w8.draw hB hqx hMd9
          obtain ⟨u9, rfl⟩ := Int.eq_ofNat_of_zero_le hv9.1
          have le9 := w9.D
          obtain ⟨sh9, sa9, sc9⟩ := w9.1
          have sb9 := sc9.V
          refine xr_istore C dX12_write_126 (by decide) rfl ?_
          refine xr_aload_n C dX12_write_128 rfl ?_
          refine xr_get C (Cn := RX12) (T := TX12) (N := 6) (by decide +kernel) le9 rfl 0 (by decide) (C.1.2.2.2.2 (.fieldLink RX12 10 "OssuaryVaultLaw$Desk" "m" "LOssuaryVault;") (by decide +kernel)) (fun _ h => h) rfl dX12_write_129 ?_
          refine xr_iload C dX12_write_132 rfl ?_
          refine xr_iload C dX12_write_134 rfl ?_
          refine xr_callV2i C (c_noise l G La hI sh9 k h d r _ sb9 u9 t (by omega) (by omega) (by omega)) (cwV 2 C.1.2.2.2.2 gX12_write_X11_noise rfl rfl rfl (by decide +kernel) ⟨Nat.le_of_ble_eq_true rfl, Nat.le_of_ble_eq_true rfl⟩) sb9.1 rfl (Nat.le_of_ble_eq_true rfl) ⟨by dsimp only; omega, by dsimp only; omega⟩ dX12_write_136 (fun r9 M6 hp6 => ?_)
          obtain ⟨rfl, ⟨sh6, hl6, hV6⟩, hF6⟩ := hp6
          have w6 := w9.vault (size2 := size + t) hB hqL ⟨sh6, by omega, hV6⟩ hF6
          refine xr_iload_n C dX12_write_139 rfl ?_
          refine xr_iload C dX12_write_140 rfl ?_
          refine xr_iadd C dX12_write_142 ?_
          refine xr_icmp_eq C dX12_write_143 rfl (by omega) (by omega) (fun _ => ?_) (fun hq => absurd hq (by omega))
          refine xr_iconst (n := 0) C dX12_write_148 (by decide +kernel) ?_
          refine xr_istore C dX12_write_149 (by decide) rfl ?_
          refine mq_loop (σ := Nat × mq_M × (Nat → Int32) × Int) (fun y => y.1 ≤ t ∧ wrI G y.2.1 La x b ka ca k h d r q1 (size + t) (dq + 1 + 1 + 1 + 1) y.2.2.1) (fun y => t - y.1) (fun y => y.2.1) (fun y => [some (.ref x), some (.int (zI 60)), some (.ref q1), some (.int (zI ((size + y.1 : Nat) : Int))), some (.int (zI (kk : Int))), some (.int (zI (t : Int))), some (.int (zI y.2.2.2)), some (.int (zI (y.1 : Int)))]) (fun y => []) ?_ (0, M6, f9, (u9 : Int)) ⟨Nat.zero_le _, w6⟩
          rintro ⟨i, M5, f5, y5⟩ ⟨hi, w5⟩ ih5
          dsimp only at hi w5 ih5 ⊢
          refine xr_iload C dX12_write_151 rfl ?_
          refine xr_iload C dX12_write_153 rfl ?_
          refine xr_icmp_ge C dX12_write_155 rfl (by first | omega | (dsimp only; omega)) (by first | omega | (dsimp only; omega)) (fun hq18 => ?_) (fun hq18 => ?_)
          · obtain rfl : i = t := by omega
            refine xr_iinc C dX12_write_194 rfl (by decide) rfl ?_
            refine xr_goto C dX12_write_197 rfl ?_
            refine mq_drop 5 ?_
            refine mq_drop 6 ?_
            refine mq_drop 7 ?_
            rw [show (kk : Int) + -1 = ((kk - 1 : Nat) : Int) by omega]
            exact ih (kk - 1, size + i, dq + 1 + 1 + 1 + 1, M5, f5) ⟨⟨by dsimp only; omega, by dsimp only; omega, by dsimp only; omega, by dsimp only; omega⟩, w5⟩ (by dsimp only; omega)
          · skip
            refine xr_iload C dX12_write_158 rfl ?_
            refine xr_i2l C dX12_write_160 ?_
            refine xr_ldc2 (k0 := 75) C (C.1.2.2.2.2 (.constantLong RX12 58 75) (by decide +kernel)) dX12_write_161 ?_
            refine xr_lmul C dX12_write_164 ?_
            refine xr_ldc2 (k0 := 74) C (C.1.2.2.2.2 (.constantLong RX12 60 74) (by decide +kernel)) dX12_write_165 ?_
            refine xr_ladd C dX12_write_168 ?_
            refine xr_ldc2 (k0 := 65537) C (C.1.2.2.2.2 (.constantLong RX12 62 65537) (by decide +kernel)) dX12_write_169 ?_
            refine xr_lrem C dX12_write_172 (by decide) ?_
            obtain ⟨y6, ey6, hy6⟩ := zI_of (((zI y5).toInt64 * 75 + 74 - ((zI y5).toInt64 * 75 + 74) / 65537 * 65537).toInt32)
            refine xr_l2i (w := y6) C dX12_write_173 ey6 ?_
            refine xr_istore C dX12_write_174 (by decide) rfl ?_
            refine xr_aload_n C dX12_write_176 rfl ?_
            refine xr_iload_n C dX12_write_177 rfl ?_
            refine xr_iinc C dX12_write_178 rfl (by decide) rfl ?_
            refine xr_iload C dX12_write_181 rfl ?_
            refine xr_sipush (n := 255) C dX12_write_183 (by decide +kernel) ?_
            obtain ⟨y7, ey7, hy7⟩ := zI_of (zI y6 &&& zI 255)
            refine xr_iand (w := y7) C dX12_write_186 ey7 ?_
            refine xr_iast C w5.2 mq_tI (by omega) (by omega) (by omega) dX12_write_187 ?_
            refine mq_ren (fun M19 hM19 => ?_)
            refine xr_iinc C dX12_write_188 rfl (by decide) rfl ?_
            refine xr_goto C dX12_write_191 rfl ?_
            rw [show ((size + i : Nat) : Int) + 1 = ((size + (i + 1) : Nat) : Int) by omega, show (i : Int) + 1 = ((i + 1 : Nat) : Int) by omega]
            exact ih5 (i + 1, M19, _, y6) ⟨by dsimp only; omega, w5.made hqx hqk hqc hqL hM19⟩ (by dsimp only; omega)
        · refine xr_aload_n C dX12_write_64 rfl ?_
          refine xr_sipush (n := 256) C dX12_write_65 (by decide +kernel) ?_
          have ld10 := w8.D
          refine xr_callV1i C (l_draw l G sn sx x (La 0) b (dq + 1 + 1 + 1) (k.1 : Int) ka ca _ ld10 hG hsn (by omega) 256 (by decide)) (cwV 1 C.1.2.2.2.2 gX12_write_X12_draw rfl rfl rfl (by decide +kernel) ⟨Nat.le_of_ble_eq_true rfl, Nat.le_of_ble_eq_true rfl⟩) ld10 rfl (Nat.le_of_ble_eq_true rfl) ⟨by dsimp only; omega, by dsimp only; omega⟩ dX12_write_68 (fun v10 Md10 hp10 => ?_)
          obtain ⟨hv10, hMd10⟩ := hp10
          have w10 := w8.draw hB hqx hMd10
          obtain ⟨u10, rfl⟩ := Int.eq_ofNat_of_zero_le hv10.1
          have le10 := w10.D
          obtain ⟨sh10, sa10, sc10⟩ := w10.1
          have sb10 := sc10.V
          refine xr_istore C dX12_write_71 (by decide) rfl ?_
          refine xr_aload_n C dX12_write_73 rfl ?_
          refine xr_get C (Cn := RX12) (T := TX12) (N := 6) (by decide +kernel) le10 rfl 0 (by decide) (C.1.2.2.2.2 (.fieldLink RX12 10 "OssuaryVaultLaw$Desk" "m" "LOssuaryVault;") (by decide +kernel)) (fun _ h => h) rfl dX12_write_74 ?_
          refine xr_iload C dX12_write_77 rfl ?_
          refine xr_iload C dX12_write_79 rfl ?_
          refine xr_callV2i C (c_write l G La hI sh10 k h d r _ sb10 u10 t (by omega) (by omega) (by omega)) (cwV 2 C.1.2.2.2.2 gX12_write_X11_write rfl rfl rfl (by decide +kernel) ⟨Nat.le_of_ble_eq_true rfl, Nat.le_of_ble_eq_true rfl⟩) sb10.1 rfl (Nat.le_of_ble_eq_true rfl) ⟨by dsimp only; omega, by dsimp only; omega⟩ dX12_write_81 (fun r9 M6 hp6 => ?_)
          obtain ⟨rfl, hV6, hF6⟩ := hp6
          have w6 := w10.vault (size2 := size + t) hB hqL ⟨_, by rw [List.length_append, List.length_replicate, sa10], hV6⟩ hF6
          refine xr_iload_n C dX12_write_84 rfl ?_
          refine xr_iload C dX12_write_85 rfl ?_
          refine xr_iadd C dX12_write_87 ?_
          refine xr_icmp_eq C dX12_write_88 rfl (by omega) (by omega) (fun _ => ?_) (fun hq => absurd hq (by omega))
          refine xr_iconst (n := 0) C dX12_write_93 (by decide +kernel) ?_
          refine xr_istore C dX12_write_94 (by decide) rfl ?_
          refine mq_loop (σ := Nat × mq_M × (Nat → Int32)) (fun y => y.1 ≤ t ∧ wrI G y.2.1 La x b ka ca k h d r q1 (size + t) (dq + 1 + 1 + 1 + 1) y.2.2) (fun y => t - y.1) (fun y => y.2.1) (fun y => [some (.ref x), some (.int (zI 60)), some (.ref q1), some (.int (zI ((size + y.1 : Nat) : Int))), some (.int (zI (kk : Int))), some (.int (zI (t : Int))), some (.int (zI (u10 : Int))), some (.int (zI (y.1 : Int)))]) (fun y => []) ?_ (0, M6, f9) ⟨Nat.zero_le _, w6⟩
          rintro ⟨i, M5, f5⟩ ⟨hi, w5⟩ ih5
          dsimp only at hi w5 ih5 ⊢
          refine xr_iload C dX12_write_96 rfl ?_
          refine xr_iload C dX12_write_98 rfl ?_
          refine xr_icmp_ge C dX12_write_100 rfl (by first | omega | (dsimp only; omega)) (by first | omega | (dsimp only; omega)) (fun hq20 => ?_) (fun hq20 => ?_)
          · obtain rfl : i = t := by omega
            refine xr_goto C dX12_write_117 rfl ?_
            refine xr_iinc C dX12_write_194 rfl (by decide) rfl ?_
            refine xr_goto C dX12_write_197 rfl ?_
            refine mq_drop 5 ?_
            refine mq_drop 6 ?_
            refine mq_drop 7 ?_
            rw [show (kk : Int) + -1 = ((kk - 1 : Nat) : Int) by omega]
            exact ih (kk - 1, size + i, dq + 1 + 1 + 1 + 1, M5, f5) ⟨⟨by dsimp only; omega, by dsimp only; omega, by dsimp only; omega, by dsimp only; omega⟩, w5⟩ (by dsimp only; omega)
          · refine xr_aload_n C dX12_write_103 rfl ?_
            refine xr_iload_n C dX12_write_104 rfl ?_
            refine xr_iinc C dX12_write_105 rfl (by decide) rfl ?_
            refine xr_iload C dX12_write_108 rfl ?_
            refine xr_iast C w5.2 mq_tI (by omega) (by omega) (by omega) dX12_write_110 ?_
            refine mq_ren (fun M21 hM21 => ?_)
            refine xr_iinc C dX12_write_111 rfl (by decide) rfl ?_
            refine xr_goto C dX12_write_114 rfl ?_
            rw [show ((size + i : Nat) : Int) + 1 = ((size + (i + 1) : Nat) : Int) by omega, show (i : Int) + 1 = ((i + 1 : Nat) : Int) by omega]
            exact ih5 (i + 1, M21, _) ⟨by dsimp only; omega, w5.made hqx hqk hqc hqL hM21⟩ (by dsimp only; omega)
