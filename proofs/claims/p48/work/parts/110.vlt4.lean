set_option maxHeartbeats 4000000 in
set_option maxRecDepth 100000 in
theorem c_isWord (l : Launch) (G : mq_G) (M : mq_M) (v : Nat) (hv : v < 65536) : mq_T l yX11_isWord wsX11_isWord { frames := 0, cells := 0, slots := 0, locals := 0 } G [.int (zI (v : Int))] M (mq_ri M 1) 0 0 := by
  refine mq_Met.of (cc := cX11_isWord) (maxL := 1) (ret := (some .boolean)) (by decide) rfl (Nat.le_of_ble_eq_true rfl) rfl rfl ?_
  intro p_ e_ s_ m_ args_ below_ meth_ c_ z_ C hr hlk hname
  refine xr_iload_n C dX11_isWord_0 rfl ?_
  refine xr_if_lt C dX11_isWord_1 rfl (by first | omega | (dsimp only; omega)) (fun hq => absurd hq (by omega)) (fun _ => ?_)
  refine xr_iload_n C dX11_isWord_4 rfl ?_
  refine xr_ldcw (k0 := 65535) C (C.1.2.2.2.2 (.constant RX11 344 (zI 65535)) (by decide +kernel)) dX11_isWord_5 ?_
  refine xr_icmp_gt C dX11_isWord_8 rfl (by first | omega | (dsimp only; omega)) (by first | omega | (dsimp only; omega)) (fun hq => absurd hq (by omega)) (fun _ => ?_)
  refine xr_iconst (n := 1) C dX11_isWord_11 (by decide +kernel) ?_
  refine xr_goto C dX11_isWord_12 rfl ?_
  exact xr_zret C hr (by decide +kernel) hlk ⟨_, rfl, rfl, rfl⟩ (by omega) (by omega) dX11_isWord_16
set_option maxHeartbeats 4000000 in
set_option maxRecDepth 100000 in
theorem c_write (l : Launch) (G : mq_G) (La : Nat → Nat) (hI : mq_inj La) (sh : List Nat) (k : vtD) (h : Nat → Bool) (d : Nat → List Nat) (r : vtR) (M : mq_M) (hV : vtI G M La sh k h d r) (v t : Nat) (hv : v < 256) (ht : 1 ≤ t ∧ t ≤ 200) (hroom : sh.length + t ≤ 240) : mq_T l yX11_write wsX11_write { frames := 2, cells := 0, slots := 0, locals := 44 } G [.ref (La 0), .int (zI (v : Int)), .int (zI (t : Int))] M (mq_pi (fun r9 M2 => r9 = ((sh.length + t : Nat) : Int) ∧ vtI G M2 La (sh ++ List.replicate t v) k h d r ∧ mq_FR La vtA M M2)) 0 0 := by
  refine mq_Met.of (cc := cX11_write) (maxL := 3) (ret := (some .int)) (by decide) rfl (Nat.le_of_ble_eq_true rfl) rfl rfl ?_
  intro p_ e_ s_ m_ args_ below_ meth_ c_ z_ C hr hlk hname
  obtain ⟨v1, v2, v3, v4, ⟨ds, v5⟩, ⟨pf, hKP, hK⟩, v7, v8, v9⟩ := id hV
  have hT2 : ∀ q ∈ [7, 8], (6 ≤ q ∧ q < 12) ∨ (24 ≤ q ∧ q < 104) := by decide
  have hT3 : ∀ q ∈ [7, 8], q < 275 := by decide
  refine xr_iload_n C dX11_write_0 rfl ?_
  refine xr_callS1i C (c_isByte l G M v hv) (cwS 1 C.1.2.2.2.2 gX11_write_X11_isByte rfl rfl rfl (by decide +kernel) ⟨Nat.le_of_ble_eq_true rfl, Nat.le_of_ble_eq_true rfl⟩) (Nat.le_of_ble_eq_true rfl) ⟨by dsimp only; omega, by dsimp only; omega⟩ dX11_write_1 (fun r1 M9 hp9 => ?_)
  obtain ⟨rfl, rfl⟩ := hp9
  refine xr_if_eq C dX11_write_4 rfl (by first | omega | (dsimp only; omega)) (fun hq => absurd hq (by decide)) (fun _ => ?_)
  refine xr_iload_n C dX11_write_7 rfl ?_
  refine xr_iconst (n := 1) C dX11_write_8 (by decide +kernel) ?_
  refine xr_icmp_lt C dX11_write_9 rfl (by first | omega | (dsimp only; omega)) (by first | omega | (dsimp only; omega)) (fun hq => absurd hq (by omega)) (fun _ => ?_)
  refine xr_iload_n C dX11_write_12 rfl ?_
  refine xr_sipush (n := 200) C dX11_write_13 (by decide +kernel) ?_
  refine xr_icmp_le C dX11_write_16 rfl (by first | omega | (dsimp only; omega)) (by first | omega | (dsimp only; omega)) (fun _ => ?_) (fun hq => absurd hq (by omega))
  refine xr_aload_n C dX11_write_29 rfl ?_
  refine xr_get C (Cn := RX11) (T := TX11) (N := 5) (by decide +kernel) v1 rfl 1 (by decide) (C.1.2.2.2.2 (.fieldLink RX11 24 "OssuaryVault" "desk" "LOssuaryVault$Desk;") (by decide +kernel)) (fun _ h => h) rfl dX11_write_30 ?_
  refine xr_getN C (Cn := RX2) (T := TX2) (N := 5) (by decide +kernel) hK.1 rfl 1 (by decide) (va_Nw.use rfl (C.2.2.1 ("OssuaryVault", 89, "OssuaryVault$Desk", "sheet", "LOssuaryVault$Bytes;", "OssuaryVault") (by decide +kernel))) (fun _ h => h) rfl dX11_write_33 ?_
  refine xr_callV0i C (c_size l G _ _ _ _ M v4) (cwV 0 C.1.2.2.2.2 gX11_write_X0_size rfl rfl rfl (by decide +kernel) ⟨Nat.le_of_ble_eq_true rfl, Nat.le_of_ble_eq_true rfl⟩) v4.1 rfl (Nat.le_of_ble_eq_true rfl) ⟨by dsimp only; omega, by dsimp only; omega⟩ dX11_write_36 (fun r2 M9 hp9 => ?_)
  obtain ⟨rfl, rfl⟩ := hp9
  refine xr_iload_n C dX11_write_39 rfl ?_
  refine xr_iadd C dX11_write_40 ?_
  refine xr_sipush (n := 240) C dX11_write_41 (by decide +kernel) ?_
  refine xr_icmp_le C dX11_write_44 rfl (by first | omega | (dsimp only; omega)) (by first | omega | (dsimp only; omega)) (fun _ => ?_) (fun hq => absurd hq (by omega))
  refine xr_aload_n C dX11_write_57 rfl ?_
  refine xr_get C (Cn := RX11) (T := TX11) (N := 5) (by decide +kernel) v1 rfl 1 (by decide) (C.1.2.2.2.2 (.fieldLink RX11 24 "OssuaryVault" "desk" "LOssuaryVault$Desk;") (by decide +kernel)) (fun _ h => h) rfl dX11_write_58 ?_
  refine xr_getN C (Cn := RX2) (T := TX2) (N := 5) (by decide +kernel) hK.1 rfl 1 (by decide) (va_Nw.use rfl (C.2.2.1 ("OssuaryVault", 89, "OssuaryVault$Desk", "sheet", "LOssuaryVault$Bytes;", "OssuaryVault") (by decide +kernel))) (fun _ h => h) rfl dX11_write_61 ?_
  refine xr_iload_n C dX11_write_64 rfl ?_
  refine xr_iload_n C dX11_write_65 rfl ?_
  refine xr_callV2v C (c_addTimes l G _ _ _ _ M v4 v hv t hroom) (cwV 2 C.1.2.2.2.2 gX11_write_X0_addTimes rfl rfl rfl (by decide +kernel) ⟨Nat.le_of_ble_eq_true rfl, Nat.le_of_ble_eq_true rfl⟩) v4.1 rfl (Nat.le_of_ble_eq_true rfl) ⟨by dsimp only; omega, by dsimp only; omega⟩ dX11_write_66 (fun M2 hp2 => ?_)
  obtain ⟨hB2, hF2⟩ := hp2
  have hF2b : mq_FR La [7, 8] M M2 := hF2
  have hV9 := hV.desk hI hF2b hT2 hB2 ⟨ds, v5.fR hI (by decide) hF2b hT3 (by decide) (by decide)⟩ (vtK.fr hI ⟨pf, hKP, hK⟩ hF2b hT3 (fun q hq => by simp; omega))
  have F8 := hF2b.all hT3
  obtain ⟨pf2, hKP2, hK2⟩ := hV9.2.2.2.2.2.1
  refine xr_aload_n C dX11_write_69 rfl ?_
  refine xr_get C (Cn := RX11) (T := TX11) (N := 5) (by decide +kernel) hV9.1 rfl 1 (by decide) (C.1.2.2.2.2 (.fieldLink RX11 24 "OssuaryVault" "desk" "LOssuaryVault$Desk;") (by decide +kernel)) (fun _ h => h) rfl dX11_write_70 ?_
  refine xr_getN C (Cn := RX2) (T := TX2) (N := 5) (by decide +kernel) hK2.1 rfl 1 (by decide) (va_Nw.use rfl (C.2.2.1 ("OssuaryVault", 89, "OssuaryVault$Desk", "sheet", "LOssuaryVault$Bytes;", "OssuaryVault") (by decide +kernel))) (fun _ h => h) rfl dX11_write_73 ?_
  refine xr_callV0i C (c_size l G _ _ _ _ M2 hB2) (cwV 0 C.1.2.2.2.2 gX11_write_X0_size rfl rfl rfl (by decide +kernel) ⟨Nat.le_of_ble_eq_true rfl, Nat.le_of_ble_eq_true rfl⟩) hB2.1 rfl (Nat.le_of_ble_eq_true rfl) ⟨by dsimp only; omega, by dsimp only; omega⟩ dX11_write_76 (fun r3 M9 hp9 => ?_)
  obtain ⟨rfl, rfl⟩ := hp9
  rw [List.length_append, List.length_replicate]
  exact xr_iret C hr hlk ⟨_, rfl, rfl, hV9, F8⟩ (by omega) (by omega) dX11_write_79
set_option maxHeartbeats 4000000 in
set_option maxRecDepth 100000 in
theorem c_noise (l : Launch) (G : mq_G) (La : Nat → Nat) (hI : mq_inj La) (sh : List Nat) (k : vtD) (h : Nat → Bool) (d : Nat → List Nat) (r : vtR) (M : mq_M) (hV : vtI G M La sh k h d r) (v t : Nat) (hv : v < 65536) (ht : 1 ≤ t ∧ t ≤ 240) (hroom : sh.length + t ≤ 240) : mq_T l yX11_noise wsX11_noise { frames := 1, cells := 0, slots := 0, locals := 21 } G [.ref (La 0), .int (zI (v : Int)), .int (zI (t : Int))] M (mq_pi (fun r9 M2 => r9 = ((sh.length + t : Nat) : Int) ∧ (∃ sh2 : List Nat, sh2.length = sh.length + t ∧ vtI G M2 La sh2 k h d r) ∧ mq_FR La vtA M M2)) 0 0 := by
  refine mq_Met.of (cc := cX11_noise) (maxL := 5) (ret := (some .int)) (by decide) rfl (Nat.le_of_ble_eq_true rfl) rfl rfl ?_
  intro p_ e_ s_ m_ args_ below_ meth_ c_ z_ C hr hlk hname
  obtain ⟨v1, v2, v3, v4, ⟨ds, v5⟩, ⟨pf, hKP, hK⟩, v7, v8, v9⟩ := id hV
  have hT2 : ∀ q ∈ [7, 8], (6 ≤ q ∧ q < 12) ∨ (24 ≤ q ∧ q < 104) := by decide
  have hT3 : ∀ q ∈ [7, 8], q < 275 := by decide
  refine xr_iload_n C dX11_noise_0 rfl ?_
  refine xr_callS1i C (c_isWord l G M v hv) (cwS 1 C.1.2.2.2.2 gX11_noise_X11_isWord rfl rfl rfl (by decide +kernel) ⟨Nat.le_of_ble_eq_true rfl, Nat.le_of_ble_eq_true rfl⟩) (Nat.le_of_ble_eq_true rfl) ⟨by dsimp only; omega, by dsimp only; omega⟩ dX11_noise_1 (fun r1 M9 hp9 => ?_)
  obtain ⟨rfl, rfl⟩ := hp9
  refine xr_if_eq C dX11_noise_4 rfl (by first | omega | (dsimp only; omega)) (fun hq => absurd hq (by decide)) (fun _ => ?_)
  refine xr_iload_n C dX11_noise_7 rfl ?_
  refine xr_iconst (n := 1) C dX11_noise_8 (by decide +kernel) ?_
  refine xr_icmp_lt C dX11_noise_9 rfl (by first | omega | (dsimp only; omega)) (by first | omega | (dsimp only; omega)) (fun hq => absurd hq (by omega)) (fun _ => ?_)
  refine xr_iload_n C dX11_noise_12 rfl ?_
  refine xr_sipush (n := 240) C dX11_noise_13 (by decide +kernel) ?_
  refine xr_icmp_le C dX11_noise_16 rfl (by first | omega | (dsimp only; omega)) (by first | omega | (dsimp only; omega)) (fun _ => ?_) (fun hq => absurd hq (by omega))
  refine xr_aload_n C dX11_noise_29 rfl ?_
  refine xr_get C (Cn := RX11) (T := TX11) (N := 5) (by decide +kernel) v1 rfl 1 (by decide) (C.1.2.2.2.2 (.fieldLink RX11 24 "OssuaryVault" "desk" "LOssuaryVault$Desk;") (by decide +kernel)) (fun _ h => h) rfl dX11_noise_30 ?_
  refine xr_getN C (Cn := RX2) (T := TX2) (N := 5) (by decide +kernel) hK.1 rfl 1 (by decide) (va_Nw.use rfl (C.2.2.1 ("OssuaryVault", 89, "OssuaryVault$Desk", "sheet", "LOssuaryVault$Bytes;", "OssuaryVault") (by decide +kernel))) (fun _ h => h) rfl dX11_noise_33 ?_
  refine xr_callV0i C (c_size l G _ _ _ _ M v4) (cwV 0 C.1.2.2.2.2 gX11_noise_X0_size rfl rfl rfl (by decide +kernel) ⟨Nat.le_of_ble_eq_true rfl, Nat.le_of_ble_eq_true rfl⟩) v4.1 rfl (Nat.le_of_ble_eq_true rfl) ⟨by dsimp only; omega, by dsimp only; omega⟩ dX11_noise_36 (fun r2 M9 hp9 => ?_)
  obtain ⟨rfl, rfl⟩ := hp9
  refine xr_iload_n C dX11_noise_39 rfl ?_
  refine xr_iadd C dX11_noise_40 ?_
  refine xr_sipush (n := 240) C dX11_noise_41 (by decide +kernel) ?_
  refine xr_icmp_le C dX11_noise_44 rfl (by first | omega | (dsimp only; omega)) (by first | omega | (dsimp only; omega)) (fun _ => ?_) (fun hq => absurd hq (by omega))
  refine xr_iload_n C dX11_noise_57 rfl ?_
  refine xr_istore_n C dX11_noise_58 (by decide) rfl ?_
  refine xr_iconst (n := 0) C dX11_noise_59 (by decide +kernel) ?_
  refine xr_istore C dX11_noise_60 (by decide) rfl ?_
  refine mq_loop (σ := Nat × mq_M × Nat × List Nat) (fun y => y.1 ≤ t ∧ y.2.2.1 < 65537 ∧ y.2.2.2.length = sh.length + y.1 ∧ vtI G y.2.1 La y.2.2.2 k h d r ∧ mq_FR La vtA M y.2.1) (fun y => t - y.1) (fun y => y.2.1) (fun y => [some (.ref (La 0)), some (.int (zI (v : Int))), some (.int (zI (t : Int))), some (.int (zI (y.2.2.1 : Int))), some (.int (zI (y.1 : Int)))]) (fun y => []) ?_ (0, M, v, sh) ⟨Nat.zero_le _, by dsimp only; omega, rfl, hV, mq_F.rf⟩
  rintro ⟨i, M3, x3, sh3⟩ ⟨hi, hx3, hl3, hV3, hF3⟩ ih
  dsimp only at hi hx3 hl3 hV3 hF3 ih ⊢
  obtain ⟨v1, v2, v3, v4, ⟨ds, v5⟩, ⟨pf, hKP, hK⟩, v7, v8, v9⟩ := id hV3
  refine xr_iload C dX11_noise_62 rfl ?_
  refine xr_iload_n C dX11_noise_64 rfl ?_
  refine xr_icmp_ge C dX11_noise_65 rfl (by first | omega | (dsimp only; omega)) (by first | omega | (dsimp only; omega)) (fun hq3 => ?_) (fun hq3 => ?_)
  · refine xr_aload_n C dX11_noise_100 rfl ?_
    refine xr_get C (Cn := RX11) (T := TX11) (N := 5) (by decide +kernel) v1 rfl 1 (by decide) (C.1.2.2.2.2 (.fieldLink RX11 24 "OssuaryVault" "desk" "LOssuaryVault$Desk;") (by decide +kernel)) (fun _ h => h) rfl dX11_noise_101 ?_
    refine xr_getN C (Cn := RX2) (T := TX2) (N := 5) (by decide +kernel) hK.1 rfl 1 (by decide) (va_Nw.use rfl (C.2.2.1 ("OssuaryVault", 89, "OssuaryVault$Desk", "sheet", "LOssuaryVault$Bytes;", "OssuaryVault") (by decide +kernel))) (fun _ h => h) rfl dX11_noise_104 ?_
    refine xr_callV0i C (c_size l G _ _ _ _ M3 v4) (cwV 0 C.1.2.2.2.2 gX11_noise_X0_size rfl rfl rfl (by decide +kernel) ⟨Nat.le_of_ble_eq_true rfl, Nat.le_of_ble_eq_true rfl⟩) v4.1 rfl (Nat.le_of_ble_eq_true rfl) ⟨by dsimp only; omega, by dsimp only; omega⟩ dX11_noise_107 (fun r4 M9 hp9 => ?_)
    obtain ⟨rfl, rfl⟩ := hp9
    rw [hl3, show i = t by omega]
    exact xr_iret C hr hlk ⟨_, rfl, rfl, ⟨sh3, by omega, hV3⟩, hF3⟩ (by omega) (by omega) dX11_noise_110
  · refine xr_iload_n C dX11_noise_68 rfl ?_
    refine xr_bipush (n := 75) C dX11_noise_69 (by decide +kernel) ?_
    refine xr_imul C dX11_noise_71 ?_
    refine xr_bipush (n := 74) C dX11_noise_72 (by decide +kernel) ?_
    refine xr_iadd C dX11_noise_74 ?_
    refine xr_ldc (k0 := 65537) C (C.1.2.2.2.2 (.constant RX11 113 (zI 65537)) (by decide +kernel)) dX11_noise_75 ?_
    refine xr_irem C dX11_noise_77 (by omega) (by omega) ?_
    refine xr_istore_n C dX11_noise_78 (by decide) rfl ?_
    refine xr_aload_n C dX11_noise_79 rfl ?_
    refine xr_get C (Cn := RX11) (T := TX11) (N := 5) (by decide +kernel) v1 rfl 1 (by decide) (C.1.2.2.2.2 (.fieldLink RX11 24 "OssuaryVault" "desk" "LOssuaryVault$Desk;") (by decide +kernel)) (fun _ h => h) rfl dX11_noise_80 ?_
    refine xr_getN C (Cn := RX2) (T := TX2) (N := 5) (by decide +kernel) hK.1 rfl 1 (by decide) (va_Nw.use rfl (C.2.2.1 ("OssuaryVault", 89, "OssuaryVault$Desk", "sheet", "LOssuaryVault$Bytes;", "OssuaryVault") (by decide +kernel))) (fun _ h => h) rfl dX11_noise_83 ?_
    refine xr_iload_n C dX11_noise_86 rfl ?_
    refine xr_sipush (n := 256) C dX11_noise_87 (by decide +kernel) ?_
    refine xr_irem C dX11_noise_90 (by omega) (by omega) ?_
    have hx4b : (x3 * 75 + 74) % 65537 < 65537 := Nat.mod_lt _ (by decide)
    have hx5b : (x3 * 75 + 74) % 65537 % 256 < 256 := Nat.mod_lt _ (by decide)
    rw [show ((x3 : Int) * 75 + 74) % 65537 = (((x3 * 75 + 74) % 65537 : Nat) : Int) by omega, show (((x3 * 75 + 74) % 65537 : Nat) : Int) % 256 = (((x3 * 75 + 74) % 65537 % 256 : Nat) : Int) by omega]
    refine xr_callV1v C (c_add l G _ _ _ _ M3 v4 _ hx5b (by omega)) (cwV 1 C.1.2.2.2.2 gX11_noise_X0_add rfl rfl rfl (by decide +kernel) ⟨Nat.le_of_ble_eq_true rfl, Nat.le_of_ble_eq_true rfl⟩) v4.1 rfl (Nat.le_of_ble_eq_true rfl) ⟨by dsimp only; omega, by dsimp only; omega⟩ dX11_noise_91 (fun M4 hp4 => ?_)
    obtain ⟨hB4, hF4⟩ := hp4
    have hF4b : mq_FR La [7, 8] M3 M4 := hF4
    have hV4 := hV3.desk hI hF4b hT2 hB4 ⟨ds, v5.fR hI (by decide) hF4b hT3 (by decide) (by decide)⟩ (vtK.fr hI ⟨pf, hKP, hK⟩ hF4b hT3 (fun q hq => by simp; omega))
    refine xr_iinc C dX11_noise_94 rfl (by decide) rfl ?_
    refine xr_goto C dX11_noise_97 rfl ?_
    exact ih (i + 1, M4, (x3 * 75 + 74) % 65537, _) ⟨by dsimp only; omega, hx4b, by dsimp only; rw [List.length_append, hl3]; rfl, hV4, hF3.tr (hF4b.all hT3)⟩ (by dsimp only; omega)
set_option maxHeartbeats 4000000 in
set_option maxRecDepth 100000 in
theorem c_store (l : Launch) (G : mq_G) (La : Nat → Nat) (hI : mq_inj La) (sh : List Nat) (k : vtD) (h : Nat → Bool) (d : Nat → List Nat) (r : vtR) (M : mq_M) (hV : vtI G M La sh k h d r) (k2 : Nat) (hk2 : k2 < 65536) (hroom : k.1 < 16 ∨ 0 ≤ dkOf k.1 k.2.1 k2) : mq_T l yX11_store wsX11_store { frames := 6, cells := 0, slots := 0, locals := 136 } G [.ref (La 0), .int (zI (k2 : Int))] M (mq_pi (fun r9 M2 => ∃ kk : vtD, kk.1 = (if 0 ≤ dkOf k.1 k.2.1 k2 then k.1 else k.1 + 1) ∧ (if 0 ≤ dkOf k.1 k.2.1 k2 then kk.2.1 = k.2.1 else ∀ j, j < k.1 + 1 → kk.2.1 j = fnI k.2.1 (dkPl k.1 k.2.1 k2) k2 j) ∧ r9 = (kk.1 : Int) ∧ vtI G M2 La [] kk h d r ∧ mq_FR La vtA M M2)) 0 0 := by
  refine mq_Met.of (cc := cX11_store) (maxL := 2) (ret := (some .int)) (by decide) rfl (Nat.le_of_ble_eq_true rfl) rfl rfl ?_
  intro p_ e_ s_ m_ args_ below_ meth_ c_ z_ C hr hlk hname
  obtain ⟨v1, v2, v3, v4, ⟨ds, v5⟩, ⟨pf, hKP, hK⟩, v7, v8, v9⟩ := id hV
  have hT2 : ∀ q ∈ [7, 8], (6 ≤ q ∧ q < 12) ∨ (24 ≤ q ∧ q < 104) := by decide
  have hT3 : ∀ q ∈ [7, 8], q < 275 := by decide
  refine xr_iload_n C dX11_store_0 rfl ?_
  refine xr_callS1i C (c_isWord l G M k2 hk2) (cwS 1 C.1.2.2.2.2 gX11_store_X11_isWord rfl rfl rfl (by decide +kernel) ⟨Nat.le_of_ble_eq_true rfl, Nat.le_of_ble_eq_true rfl⟩) (Nat.le_of_ble_eq_true rfl) ⟨by dsimp only; omega, by dsimp only; omega⟩ dX11_store_1 (fun r1 M9 hp9 => ?_)
  obtain ⟨rfl, rfl⟩ := hp9
  refine xr_if_ne C dX11_store_4 rfl (by first | omega | (dsimp only; omega)) (fun _ => ?_) (fun hq => absurd hq (by decide))
  refine xr_aload_n C dX11_store_17 rfl ?_
  refine xr_get C (Cn := RX11) (T := TX11) (N := 5) (by decide +kernel) v1 rfl 1 (by decide) (C.1.2.2.2.2 (.fieldLink RX11 24 "OssuaryVault" "desk" "LOssuaryVault$Desk;") (by decide +kernel)) (fun _ h => h) rfl dX11_store_18 ?_
  refine xr_iload_n C dX11_store_21 rfl ?_
  refine xr_callV1i C (c_hasRoomFor l G La hI pf _ _ _ _ _ M hKP hK k2 hk2) (cwV 1 C.1.2.2.2.2 gX11_store_X2_hasRoomFor rfl rfl rfl (by decide +kernel) ⟨Nat.le_of_ble_eq_true rfl, Nat.le_of_ble_eq_true rfl⟩) hK.1 rfl (Nat.le_of_ble_eq_true rfl) ⟨by dsimp only; omega, by dsimp only; omega⟩ dX11_store_22 (fun r2 M9 hp9 => ?_)
  obtain ⟨rfl, rfl⟩ := hp9
  rw [if_pos hroom]
  refine xr_if_ne C dX11_store_25 rfl (by first | omega | (dsimp only; omega)) (fun _ => ?_) (fun hq => absurd hq (by decide))
  refine xr_aload_n C dX11_store_38 rfl ?_
  refine xr_get C (Cn := RX11) (T := TX11) (N := 5) (by decide +kernel) v1 rfl 1 (by decide) (C.1.2.2.2.2 (.fieldLink RX11 24 "OssuaryVault" "desk" "LOssuaryVault$Desk;") (by decide +kernel)) (fun _ h => h) rfl dX11_store_39 ?_
  refine xr_iload_n C dX11_store_42 rfl ?_
  refine xr_aload_n C dX11_store_43 rfl ?_
  refine xr_get C (Cn := RX11) (T := TX11) (N := 5) (by decide +kernel) v1 rfl 1 (by decide) (C.1.2.2.2.2 (.fieldLink RX11 24 "OssuaryVault" "desk" "LOssuaryVault$Desk;") (by decide +kernel)) (fun _ h => h) rfl dX11_store_44 ?_
  refine xr_getN C (Cn := RX2) (T := TX2) (N := 5) (by decide +kernel) hK.1 rfl 1 (by decide) (va_Nw.use rfl (C.2.2.1 ("OssuaryVault", 89, "OssuaryVault$Desk", "sheet", "LOssuaryVault$Bytes;", "OssuaryVault") (by decide +kernel))) (fun _ h => h) rfl dX11_store_47 ?_
  refine xr_callV2v C (c_dkPut l G La hI pf _ _ _ _ _ M hKP hK v2 7 240 sh (by decide) (by decide) v4 v4.2.2.1 k2 hk2 hroom) (cwV 2 C.1.2.2.2.2 gX11_store_X2_put rfl rfl rfl (by decide +kernel) ⟨Nat.le_of_ble_eq_true rfl, Nat.le_of_ble_eq_true rfl⟩) hK.1 rfl (Nat.le_of_ble_eq_true rfl) ⟨by dsimp only; omega, by dsimp only; omega⟩ dX11_store_50 (fun M2 hp2 => ?_)
  obtain ⟨⟨pf2, n2, ky2, c2, pk2, ck2, hKP2, hK2, hn2, hy2⟩, hF2⟩ := hp2
  have hTD : ∀ q ∈ mq_TD, q < 275 := fun q hq => by have := mq_TDm.mp hq; omega
  have nTD : ∀ q, (q ≠ 6 ∧ q ≠ 11 ∧ (q < 24 ∨ 104 ≤ q)) → q ∉ mq_TD := fun q hq hm => by have := mq_TDm.mp hm; omega
  have b2 := v4.fR hI (by decide) hF2 hTD (nTD _ (by decide)) (nTD _ (by decide))
  have hV2 := hV.desk (k2 := (n2, ky2, c2, pk2, ck2)) hI hF2 (fun q hq => by have := mq_TDm.mp hq; omega) b2 ⟨ds, v5.fR hI (by decide) hF2 hTD (nTD _ (by decide)) (nTD _ (by decide))⟩ ⟨pf2, hKP2, hK2⟩
  refine xr_aload_n C dX11_store_53 rfl ?_
  refine xr_get C (Cn := RX11) (T := TX11) (N := 5) (by decide +kernel) hV2.1 rfl 1 (by decide) (C.1.2.2.2.2 (.fieldLink RX11 24 "OssuaryVault" "desk" "LOssuaryVault$Desk;") (by decide +kernel)) (fun _ h => h) rfl dX11_store_54 ?_
  refine xr_getN C (Cn := RX2) (T := TX2) (N := 5) (by decide +kernel) hK2.1 rfl 1 (by decide) (va_Nw.use rfl (C.2.2.1 ("OssuaryVault", 89, "OssuaryVault$Desk", "sheet", "LOssuaryVault$Bytes;", "OssuaryVault") (by decide +kernel))) (fun _ h => h) rfl dX11_store_57 ?_
  refine xr_callV0v C (c_clear l G _ _ _ _ M2 b2) (cwV 0 C.1.2.2.2.2 gX11_store_X0_clear rfl rfl rfl (by decide +kernel) ⟨Nat.le_of_ble_eq_true rfl, Nat.le_of_ble_eq_true rfl⟩) b2.1 rfl (Nat.le_of_ble_eq_true rfl) ⟨by dsimp only; omega, by dsimp only; omega⟩ dX11_store_60 (fun M3 hp3 => ?_)
  obtain ⟨hB3, hF3⟩ := hp3
  have hF3b : mq_FR La [7] M2 M3 := hF3
  obtain ⟨e1, e2, e3, e4, ⟨dz, e5⟩, e6, e7, e8, e9⟩ := id hV2
  have hV3 := hV2.desk hI hF3b (by decide) hB3 ⟨dz, e5.fR hI (by decide) hF3b (by decide) (by decide) (by decide)⟩ (e6.fr hI hF3b (by decide) (fun q hq => by simp; omega))
  obtain ⟨pf3, hKP3, hK3⟩ := hV3.2.2.2.2.2.1
  refine xr_aload_n C dX11_store_63 rfl ?_
  refine xr_get C (Cn := RX11) (T := TX11) (N := 5) (by decide +kernel) hV3.1 rfl 1 (by decide) (C.1.2.2.2.2 (.fieldLink RX11 24 "OssuaryVault" "desk" "LOssuaryVault$Desk;") (by decide +kernel)) (fun _ h => h) rfl dX11_store_64 ?_
  refine xr_callV0i C (c_dkCount l G La hI pf3 _ _ _ _ _ M3 hKP3 hK3) (cwV 0 C.1.2.2.2.2 gX11_store_X2_count rfl rfl rfl (by decide +kernel) ⟨Nat.le_of_ble_eq_true rfl, Nat.le_of_ble_eq_true rfl⟩) hK3.1 rfl (Nat.le_of_ble_eq_true rfl) ⟨by dsimp only; omega, by dsimp only; omega⟩ dX11_store_67 (fun r3 M9 hp9 => ?_)
  obtain ⟨rfl, rfl⟩ := hp9
  exact xr_iret C hr hlk ⟨_, rfl, (n2, ky2, c2, pk2, ck2), hn2, hy2, rfl, hV3, (hF2.all hTD).tr (hF3b.all (by decide))⟩ (by omega) (by omega) dX11_store_70
set_option maxHeartbeats 4000000 in
set_option maxRecDepth 100000 in
theorem c_build (l : Launch) (G : mq_G) (La : Nat → Nat) (hI : mq_inj La) (sh : List Nat) (k : vtD) (h : Nat → Bool) (d : Nat → List Nat) (r : vtR) (M : mq_M) (hV : vtI G M La sh k h d r) (dn pn : Nat) (hdn : 0 < dn ∧ dn ≤ 10) (hpn : pn ≤ 6) : mq_T l yX11_build wsX11_build { frames := 6, cells := 0, slots := 0, locals := 143 } G [.ref (La 0), .int (zI (dn : Int)), .int (zI (pn : Int))] M (mq_pi (fun r9 M2 => 1 ≤ r9 ∧ r9 < 100000 ∧ (k.1 = 0 → r9 = (bdS 6 dn : Nat)) ∧ (∃ (S : List Nat) (h2 : Nat → Bool) (d2 : Nat → List Nat), (∀ i, i < 16 → h2 i = fwH dn pn i ∧ d2 i = fwD S dn pn i) ∧ vtI G M2 La sh k h2 d2 (false, r.2)) ∧ mq_FR La vtA M M2)) 0 0 := by
  refine mq_Met.of (cc := cX11_build) (maxL := 4) (ret := (some .int)) (by decide) rfl (Nat.le_of_ble_eq_true rfl) rfl rfl ?_
  intro p_ e_ s_ m_ args_ below_ meth_ c_ z_ C hr hlk hname
  obtain ⟨v1, v2, v3, v4, ⟨ds, v5⟩, ⟨pf, hKP, hK⟩, v7, v8, v9⟩ := id hV
  obtain ⟨hR, hrr, hn40⟩ := id v9
  refine xr_iload_n C dX11_build_0 rfl ?_
  refine xr_iconst (n := 1) C dX11_build_1 (by decide +kernel) ?_
  refine xr_icmp_lt C dX11_build_2 rfl (by first | omega | (dsimp only; omega)) (by first | omega | (dsimp only; omega)) (fun hq => absurd hq (by omega)) (fun _ => ?_)
  refine xr_iload_n C dX11_build_5 rfl ?_
  refine xr_bipush (n := 10) C dX11_build_6 (by decide +kernel) ?_
  refine xr_icmp_gt C dX11_build_8 rfl (by first | omega | (dsimp only; omega)) (by first | omega | (dsimp only; omega)) (fun hq => absurd hq (by omega)) (fun _ => ?_)
  refine xr_iload_n C dX11_build_11 rfl ?_
  refine xr_if_lt C dX11_build_12 rfl (by first | omega | (dsimp only; omega)) (fun hq => absurd hq (by omega)) (fun _ => ?_)
  refine xr_iload_n C dX11_build_15 rfl ?_
  refine xr_bipush (n := 6) C dX11_build_16 (by decide +kernel) ?_
  refine xr_icmp_le C dX11_build_18 rfl (by first | omega | (dsimp only; omega)) (by first | omega | (dsimp only; omega)) (fun _ => ?_) (fun hq => absurd hq (by omega))
  refine xr_aload_n C dX11_build_31 rfl ?_
  refine xr_get C (Cn := RX11) (T := TX11) (N := 5) (by decide +kernel) v1 rfl 4 (by decide) (C.1.2.2.2.2 (.fieldLink RX11 49 "OssuaryVault" "reading" "LOssuaryVault$Reading;") (by decide +kernel)) (fun _ h => h) rfl dX11_build_32 ?_
  refine xr_callV0v C (c_close l G La hI _ _ _ _ _ _ _ _ _ _ _ M hR) (cwV 0 C.1.2.2.2.2 gX11_build_X7_close rfl rfl rfl (by decide +kernel) ⟨Nat.le_of_ble_eq_true rfl, Nat.le_of_ble_eq_true rfl⟩) hR.1 rfl (Nat.le_of_ble_eq_true rfl) ⟨by dsimp only; omega, by dsimp only; omega⟩ dX11_build_35 (fun M2 hp2 => ?_)
  obtain ⟨hR2, hF2⟩ := hp2
  have hV2 := hV.read (r2 := (false, r.2)) hI hF2 (by decide) ⟨hR2, hrr, hn40⟩
  obtain ⟨e1, e2, e3, e4, ⟨dz, e5⟩, ⟨pf2, hKP2, hK2⟩, e7, e8, e9⟩ := id hV2
  refine xr_aload_n C dX11_build_38 rfl ?_
  refine xr_get C (Cn := RX11) (T := TX11) (N := 5) (by decide +kernel) e1 rfl 1 (by decide) (C.1.2.2.2.2 (.fieldLink RX11 24 "OssuaryVault" "desk" "LOssuaryVault$Desk;") (by decide +kernel)) (fun _ h => h) rfl dX11_build_39 ?_
  refine xr_callV0a C (c_writtenStream l G La hI pf2 _ _ _ _ _ M2 hKP2 hK2 e2 dz e5) (cwV 0 C.1.2.2.2.2 gX11_build_X2_writtenStream rfl rfl rfl (by decide +kernel) ⟨Nat.le_of_ble_eq_true rfl, Nat.le_of_ble_eq_true rfl⟩) hK2.1 rfl (Nat.le_of_ble_eq_true rfl) ⟨by dsimp only; omega, by dsimp only; omega⟩ dX11_build_42 (fun r3 M3 hp3 => ?_)
  obtain ⟨rfl, ⟨S2, hS2, hB3⟩, hF3⟩ := hp3
  have hT9 : ∀ q ∈ [9, 10], q < 275 := by decide
  have hV3 := hV2.desk hI hF3 (by decide) (e4.fR hI (by decide) hF3 hT9 (by decide) (by decide)) ⟨S2, hB3⟩ (vtK.fr hI ⟨pf2, hKP2, hK2⟩ hF3 hT9 (fun q hq => by simp; omega))
  obtain ⟨f1, f2, f3, f4, f5, f6, ⟨pv, vd, ld, mb, nu, ho, hP, hH⟩, f8, f9⟩ := id hV3
  have hl3 := hB3.2.2.1
  have hbl := bdS_le2 (s := S2.length) (dn := dn) (by omega) hdn.1
  have hbp := bdS_pos (s := S2.length) (dn := dn) (by omega) hdn.1
  refine xr_astore_n C dX11_build_45 (by decide) rfl ?_
  refine xr_aload_n C dX11_build_46 rfl ?_
  refine xr_get C (Cn := RX11) (T := TX11) (N := 5) (by decide +kernel) f1 rfl 2 (by decide) (C.1.2.2.2.2 (.fieldLink RX11 33 "OssuaryVault" "shelf" "LOssuaryVault$Shelf;") (by decide +kernel)) (fun _ h => h) rfl dX11_build_47 ?_
  refine xr_aload_n C dX11_build_50 rfl ?_
  refine xr_iload_n C dX11_build_51 rfl ?_
  refine xr_iload_n C dX11_build_52 rfl ?_
  refine xr_callV3i C (c_fillWith l G La hI pv h d vd ld mb nu ho M3 hP hH f3 f2 9 4070 S2 (by decide) (by decide) (by decide) hB3 dn pn hdn hpn (by omega) (by omega)) (cwV 3 C.1.2.2.2.2 gX11_build_X9_fillWith rfl rfl rfl (by decide +kernel) ⟨Nat.le_of_ble_eq_true rfl, Nat.le_of_ble_eq_true rfl⟩) hH.1 rfl (Nat.le_of_ble_eq_true rfl) ⟨by dsimp only; omega, by dsimp only; omega⟩ dX11_build_53 (fun r4 M4 hp4 => ?_)
  obtain ⟨rfl, ⟨pv2, h2, d2, vd2, hP2, hH2, hA2⟩, hF4⟩ := hp4
  have hV4 := hV3.shelf hI hF4 (fun q hq => by have := mq_TTm.mp hq; omega) ⟨pv2, vd2, _, _, _, _, hP2, hH2⟩
  have hB4 := hB3.fR hI (by decide) hF4 mq_TTl (fun hm => by have := mq_TTm.mp hm; omega) (fun hm => by have := mq_TTm.mp hm; omega)
  refine xr_pop C dX11_build_56 rfl ?_
  refine xr_aload_n C dX11_build_57 rfl ?_
  refine xr_callV0i C (c_size l G _ _ _ _ M4 hB4) (cwV 0 C.1.2.2.2.2 gX11_build_X0_size rfl rfl rfl (by decide +kernel) ⟨Nat.le_of_ble_eq_true rfl, Nat.le_of_ble_eq_true rfl⟩) hB4.1 rfl (Nat.le_of_ble_eq_true rfl) ⟨by dsimp only; omega, by dsimp only; omega⟩ dX11_build_58 (fun r1 M9 hp9 => ?_)
  obtain ⟨rfl, rfl⟩ := hp9
  refine xr_iload_n C dX11_build_61 rfl ?_
  refine xr_callS2i C (c_bodySize l G M4 S2.length dn (by omega) (by omega)) (cwS 2 C.1.2.2.2.2 gX11_build_X11_bodySize rfl rfl rfl (by decide +kernel) ⟨Nat.le_of_ble_eq_true rfl, Nat.le_of_ble_eq_true rfl⟩) (Nat.le_of_ble_eq_true rfl) ⟨by dsimp only; omega, by dsimp only; omega⟩ dX11_build_62 (fun r2 M9 hp9 => ?_)
  obtain ⟨rfl, rfl⟩ := hp9
  exact xr_iret C hr hlk ⟨_, rfl, by omega, by omega, fun hk0 => by rw [hS2.2 hk0], ⟨S2, h2, d2, hA2, hV4⟩, ((hF2.all (by decide)).tr (hF3.all hT9)).tr (hF4.all mq_TTl)⟩ (by omega) (by omega) dX11_build_65
