/-- a row of bytes -/
def rB (G : mq_G) (M : mq_M) (a n : Nat) (f : Nat → Nat) : Prop := (∀ i, f i < 256) ∧ M a = some (.inl (G.2.1, n, .inl (fun i => zI (f i : Int))))
def upn (f : Nat → Nat) (k v : Nat) : Nat → Nat := fun i => if i = k then v else f i
theorem rB.set {G : mq_G} {M M1 : mq_M} {a n k v : Nat} {f : Nat → Nat} (h : rB G M a n f) (hv : v < 256) (hM : M1 = mq_up M a (.inl (G.2.1, n, .inl (upd (fun i => zI (f i : Int)) k (zI (v : Int)))))) : rB G M1 a n (upn f k v) := by
  refine ⟨fun i => ?_, ?_⟩
  · unfold upn
    split
    · exact hv
    · exact h.1 i
  · rw [hM, mq_up_s]
    congr 5
    funext i
    unfold upd upn
    split <;> rfl
theorem rB.new {G : mq_G} {M M1 : mq_M} {a n : Nat} (hM : M1 = mq_up M a (.inl (G.2.1, n, .inl (fun _ => 0)))) : rB G M1 a n (fun _ => 0) := ⟨fun _ => (show (0 : Nat) < 256 by decide), by
  rw [hM, mq_up_s]
  congr 5⟩
theorem rB.eq {G : mq_G} {M M1 : mq_M} {a n : Nat} {f : Nat → Nat} (h : rB G M a n f) (e : M1 a = M a) : rB G M1 a n f := ⟨h.1, e.trans h.2⟩
theorem bdS_cast {b d : Nat} (hd : 0 < d) : ((b + d - 1 : Nat) : Int) / (d : Int) = (bdS b d : Int) := by
  unfold bdS
  rw [if_pos hd]
  exact (Int.natCast_ediv (b + d - 1) d).symm
theorem bdS_6 : ∀ d, 1 ≤ d → d ≤ 10 → 1 ≤ bdS 6 d ∧ bdS 6 d ≤ 6 := by
  intro d h1 h2
  have : ∀ d, d < 11 → 1 ≤ d → 1 ≤ bdS 6 d ∧ bdS 6 d ≤ 6 := by decide
  exact this d (by omega) h1
set_option maxHeartbeats 4000000 in
set_option maxRecDepth 100000 in
theorem m_checked (l : Launch) (G : mq_G) (M : mq_M) (ch v : Nat) (hc : ch < 65536) (hv : v < 256) : mq_T l yX12_checked wsX12_checked { frames := 0, cells := 0, slots := 0, locals := 0 } G [.int (zI (ch : Int)), .int (zI (v : Int))] M (mq_pi (fun r M2 => (∃ n : Nat, r = (n : Int) ∧ n < 65536) ∧ M = M2)) 0 0 := by
  refine mq_Met.of (cc := cX12_checked) (maxL := 4) (ret := (some .int)) (by decide) rfl (Nat.le_of_ble_eq_true rfl) rfl rfl ?_
  intro p_ e_ s_ m_ args_ below_ meth_ c_ z_ C hr hlk hname
  refine xr_iload_n C dX12_checked_0 rfl ?_
  refine xr_iload_n C dX12_checked_1 rfl ?_
  refine xr_bipush (n := 8) C dX12_checked_2 (by decide +kernel) ?_
  refine xr_ishl (w := ((v * 256 : Nat) : Int)) C dX12_checked_4 (zI_shl8 (by omega)) ?_
  refine xr_ixor (w := ((ch ^^^ v * 256 : Nat) : Int)) C dX12_checked_5 (zI_xorN (by omega) (by omega)) ?_
  have hx : ch ^^^ v * 256 < 65536 := Nat.xor_lt_two_pow (n := 16) hc (by omega)
  refine xr_istore_n C dX12_checked_6 (by decide) rfl ?_
  refine xr_iconst (n := 0) C dX12_checked_7 (by decide +kernel) ?_
  refine xr_istore_n C dX12_checked_8 (by decide) rfl ?_
  refine mq_loop (σ := Nat × Nat) (fun y => y.1 ≤ 8 ∧ y.2 < 65536) (fun y => 8 - y.1) (fun y => M) (fun y => [some (.int (zI (ch : Int))), some (.int (zI (v : Int))), some (.int (zI (y.2 : Int))), some (.int (zI (y.1 : Int)))]) (fun y => []) ?_ (0, ch ^^^ v * 256) ⟨Nat.zero_le _, hx⟩
  rintro ⟨k, t⟩ ⟨hk, ht⟩ ih
  dsimp only at hk ht ih ⊢
  refine xr_iload_n C dX12_checked_9 rfl ?_
  refine xr_bipush (n := 8) C dX12_checked_10 (by decide +kernel) ?_
  refine xr_icmp_ge C dX12_checked_12 rfl (by first | omega | (dsimp only; omega)) (by first | omega | (dsimp only; omega)) (fun hq1 => ?_) (fun hq1 => ?_)
  · refine xr_iload_n C dX12_checked_44 rfl ?_
    exact xr_iret C hr hlk ⟨_, rfl, ⟨t, rfl, ht⟩, rfl⟩ (by omega) (by omega) dX12_checked_45
  · refine xr_iload_n C dX12_checked_15 rfl ?_
    refine xr_ldc (k0 := 32768) C (C.1.2.2.2.2 (.constant RX12 81 (zI 32768)) (by decide +kernel)) dX12_checked_16 ?_
    refine xr_icmp_ge C dX12_checked_18 rfl (by first | omega | (dsimp only; omega)) (by first | omega | (dsimp only; omega)) (fun hq2 => ?_) (fun hq2 => ?_)
    · refine xr_iconst (n := 2) C dX12_checked_27 (by decide +kernel) ?_
      refine xr_iload_n C dX12_checked_28 rfl ?_
      refine xr_imul C dX12_checked_29 ?_
      refine xr_ldc (k0 := 65536) C (C.1.2.2.2.2 (.constant RX12 82 (zI 65536)) (by decide +kernel)) dX12_checked_30 ?_
      refine xr_isub C dX12_checked_32 ?_
      refine xr_sipush (n := 4129) C dX12_checked_33 (by decide +kernel) ?_
      rw [show (2 : Int) * (t : Int) - 65536 = ((2 * t - 65536 : Nat) : Int) by omega]
      refine xr_ixor (w := ((2 * t - 65536) ^^^ 4129 : Nat)) C dX12_checked_36 (zI_xorN (a := 2 * t - 65536) (b := 4129) (by omega) (by decide)) ?_
      have hx2 : (2 * t - 65536) ^^^ 4129 < 65536 := Nat.xor_lt_two_pow (n := 16) (by omega) (by decide)
      refine xr_istore_n C dX12_checked_37 (by decide) rfl ?_
      refine xr_iinc C dX12_checked_38 rfl (by decide) rfl ?_
      refine xr_goto C dX12_checked_41 rfl ?_
      exact ih (k + 1, (2 * t - 65536) ^^^ 4129) ⟨by dsimp only; omega, hx2⟩ (by dsimp only; omega)
    · refine xr_iconst (n := 2) C dX12_checked_21 (by decide +kernel) ?_
      refine xr_iload_n C dX12_checked_22 rfl ?_
      refine xr_imul C dX12_checked_23 ?_
      refine xr_goto C dX12_checked_24 rfl ?_
      refine xr_istore_n C dX12_checked_37 (by decide) rfl ?_
      refine xr_iinc C dX12_checked_38 rfl (by decide) rfl ?_
      refine xr_goto C dX12_checked_41 rfl ?_
      rw [show (2 : Int) * (t : Int) = ((2 * t : Nat) : Int) by omega]
      exact ih (k + 1, 2 * t) ⟨by dsimp only; omega, by dsimp only; omega⟩ (by dsimp only; omega)
set_option maxHeartbeats 4000000 in
set_option maxRecDepth 100000 in
theorem m_check (l : Launch) (G : mq_G) (M : mq_M) (a n : Nat) (f : Nat → Nat) (hB : rB G M a n f) (hn : n < 100000) (fr en : Nat) (hfe : fr ≤ en ∧ en ≤ n) : mq_T l yX12_check wsX12_check { frames := 1, cells := 0, slots := 0, locals := 23 } G [.ref a, .int (zI (fr : Int)), .int (zI (en : Int))] M (mq_pi (fun r M2 => (∃ n : Nat, r = (n : Int) ∧ n < 65536) ∧ M = M2)) 0 0 := by
  refine mq_Met.of (cc := cX12_check) (maxL := 5) (ret := (some .int)) (by decide) rfl (Nat.le_of_ble_eq_true rfl) rfl rfl ?_
  intro p_ e_ s_ m_ args_ below_ meth_ c_ z_ C hr hlk hname
  refine xr_ldc (k0 := 65535) C (C.1.2.2.2.2 (.constant RX12 83 (zI 65535)) (by decide +kernel)) dX12_check_0 ?_
  refine xr_istore_n C dX12_check_2 (by decide) rfl ?_
  refine xr_iload_n C dX12_check_3 rfl ?_
  refine xr_istore C dX12_check_4 (by decide) rfl ?_
  refine mq_loop (σ := Nat × Nat) (fun y => fr ≤ y.1 ∧ y.1 ≤ en ∧ y.2 < 65536) (fun y => en - y.1) (fun y => M) (fun y => [some (.ref a), some (.int (zI (fr : Int))), some (.int (zI (en : Int))), some (.int (zI (y.2 : Int))), some (.int (zI (y.1 : Int)))]) (fun y => []) ?_ (fr, 65535) ⟨Nat.le_refl _, hfe.1, Nat.lt_succ_self _⟩
  rintro ⟨k, t⟩ ⟨hk0, hk, ht⟩ ih
  dsimp only at hk0 hk ht ih ⊢
  refine xr_iload C dX12_check_6 rfl ?_
  refine xr_iload_n C dX12_check_8 rfl ?_
  refine xr_icmp_ge C dX12_check_9 rfl (by first | omega | (dsimp only; omega)) (by first | omega | (dsimp only; omega)) (fun hq1 => ?_) (fun hq1 => ?_)
  · refine xr_iload_n C dX12_check_27 rfl ?_
    exact xr_iret C hr hlk ⟨_, rfl, ⟨t, rfl, ht⟩, rfl⟩ (by omega) (by omega) dX12_check_28
  · refine xr_iload_n C dX12_check_12 rfl ?_
    refine xr_aload_n C dX12_check_13 rfl ?_
    refine xr_iload C dX12_check_14 rfl ?_
    refine xr_iald C hB.2 mq_tI (by first | omega | (dsimp only; omega)) (by first | omega | (dsimp only; omega)) (by first | omega | (dsimp only; omega)) dX12_check_16 ?_
    rw [Int.toNat_natCast]
    refine xr_callS2i C (m_checked l G M t (f k) ht (hB.1 k)) (cwS 2 C.1.2.2.2.2 gX12_check_X12_checked rfl rfl rfl (by decide +kernel) ⟨Nat.le_of_ble_eq_true rfl, Nat.le_of_ble_eq_true rfl⟩) (Nat.le_of_ble_eq_true rfl) ⟨by dsimp only; omega, by dsimp only; omega⟩ dX12_check_17 (fun r9 M9 hp9 => ?_)
    obtain ⟨⟨t9, rfl, ht9⟩, rfl⟩ := hp9
    refine xr_istore_n C dX12_check_20 (by decide) rfl ?_
    refine xr_iinc C dX12_check_21 rfl (by decide) rfl ?_
    refine xr_goto C dX12_check_24 rfl ?_
    exact ih (k + 1, t9) ⟨by dsimp only; omega, by dsimp only; omega, ht9⟩ (by dsimp only; omega)
set_option maxHeartbeats 4000000 in
set_option maxRecDepth 100000 in
theorem m_setWord (l : Launch) (G : mq_G) (M : mq_M) (a n : Nat) (f : Nat → Nat) (hB : rB G M a n f) (hn : n < 100000) (k v : Nat) (hk : k + 1 < n) (hv : v < 65536) : mq_T l yX12_setWord wsX12_setWord { frames := 0, cells := 0, slots := 0, locals := 0 } G [.ref a, .int (zI (k : Int)), .int (zI (v : Int))] M (mq_pv (fun M2 => (∃ f2, rB G M2 a n f2) ∧ mq_F [a] M M2)) 0 0 := by
  refine mq_Met.of (cc := cX12_setWord) (maxL := 3) (ret := none) (by decide) rfl (Nat.le_of_ble_eq_true rfl) rfl rfl ?_
  intro p_ e_ s_ m_ args_ below_ meth_ c_ z_ C hr hlk hname
  refine xr_aload_n C dX12_setWord_0 rfl ?_
  refine xr_iload_n C dX12_setWord_1 rfl ?_
  refine xr_iload_n C dX12_setWord_2 rfl ?_
  refine xr_bipush (n := 8) C dX12_setWord_3 (by decide +kernel) ?_
  refine xr_ishr (w := ((v / 256 : Nat) : Int)) C dX12_setWord_5 (zI_shr8 (by omega)) ?_
  refine xr_iast C hB.2 mq_tI (by first | omega | (dsimp only; omega)) (by first | omega | (dsimp only; omega)) (by first | omega | (dsimp only; omega)) dX12_setWord_6 ?_
  refine mq_ren (fun M1 hM1 => ?_)
  rw [Int.toNat_natCast] at hM1
  have hB1 := hB.set (by omega) hM1
  refine xr_aload_n C dX12_setWord_7 rfl ?_
  refine xr_iload_n C dX12_setWord_8 rfl ?_
  refine xr_iconst (n := 1) C dX12_setWord_9 (by decide +kernel) ?_
  refine xr_iadd C dX12_setWord_10 ?_
  refine xr_iload_n C dX12_setWord_11 rfl ?_
  refine xr_sipush (n := 255) C dX12_setWord_12 (by decide +kernel) ?_
  refine xr_iand (w := ((v % 256 : Nat) : Int)) C dX12_setWord_15 (zI_and255 (by omega)) ?_
  rw [show (k : Int) + 1 = ((k + 1 : Nat) : Int) by omega]
  refine xr_iast C hB1.2 mq_tI (by first | omega | (dsimp only; omega)) (by first | omega | (dsimp only; omega)) (by first | omega | (dsimp only; omega)) dX12_setWord_16 ?_
  refine mq_ren (fun M2 hM2 => ?_)
  rw [Int.toNat_natCast] at hM2
  have hB2 := hB1.set (by omega) hM2
  exact xr_vret C hr hlk ⟨rfl, ⟨_, hB2⟩, (mq_F.up hM1 (by simp)).tr (mq_F.up hM2 (by simp))⟩ (by omega) (by omega) dX12_setWord_17
set_option maxHeartbeats 4000000 in
set_option maxRecDepth 100000 in
theorem m_bodySize (l : Launch) (G : mq_G) (M : mq_M) (b d : Nat) (hb : b < 100000) (hd : 0 < d ∧ d < 1000) : mq_T l yX12_bodySize wsX12_bodySize { frames := 0, cells := 0, slots := 0, locals := 0 } G [.int (zI (b : Int)), .int (zI (d : Int))] M (mq_ri M (bdS b d : Int)) 0 0 := by
  refine mq_Met.of (cc := cX12_bodySize) (maxL := 2) (ret := (some .int)) (by decide) rfl (Nat.le_of_ble_eq_true rfl) rfl rfl ?_
  intro p_ e_ s_ m_ args_ below_ meth_ c_ z_ C hr hlk hname
  refine xr_iload_n C dX12_bodySize_0 rfl ?_
  refine xr_iload_n C dX12_bodySize_1 rfl ?_
  refine xr_iadd C dX12_bodySize_2 ?_
  refine xr_iconst (n := 1) C dX12_bodySize_3 (by decide +kernel) ?_
  refine xr_isub C dX12_bodySize_4 ?_
  refine xr_iload_n C dX12_bodySize_5 rfl ?_
  rw [show (b : Int) + (d : Int) - 1 = ((b + d - 1 : Nat) : Int) by omega]
  refine xr_idiv C dX12_bodySize_6 (by omega) (by omega) ?_
  rw [bdS_cast hd.1]
  exact xr_iret C hr hlk ⟨_, rfl, rfl, rfl⟩ (by omega) (by omega) dX12_bodySize_7
set_option maxHeartbeats 4000000 in
set_option maxRecDepth 100000 in
theorem m_volumeCheck (l : Launch) (G : mq_G) (M : mq_M) (a n : Nat) (f : Nat → Nat) (hB : rB G M a n f) (hn : 10 ≤ n ∧ n < 100000) : mq_T l yX12_volumeCheck wsX12_volumeCheck { frames := 2, cells := 0, slots := 0, locals := 47 } G [.ref a, .int (zI (n : Int))] M (mq_pi (fun r M2 => (∃ n : Nat, r = (n : Int) ∧ n < 65536) ∧ M = M2)) 0 0 := by
  refine mq_Met.of (cc := cX12_volumeCheck) (maxL := 4) (ret := (some .int)) (by decide) rfl (Nat.le_of_ble_eq_true rfl) rfl rfl ?_
  intro p_ e_ s_ m_ args_ below_ meth_ c_ z_ C hr hlk hname
  refine xr_aload_n C dX12_volumeCheck_0 rfl ?_
  refine xr_iconst (n := 0) C dX12_volumeCheck_1 (by decide +kernel) ?_
  refine xr_bipush (n := 8) C dX12_volumeCheck_2 (by decide +kernel) ?_
  refine xr_callS3i C (m_check l G M a n f hB hn.2 0 8 (by omega)) (cwS 3 C.1.2.2.2.2 gX12_volumeCheck_X12_check rfl rfl rfl (by decide +kernel) ⟨Nat.le_of_ble_eq_true rfl, Nat.le_of_ble_eq_true rfl⟩) (Nat.le_of_ble_eq_true rfl) ⟨by dsimp only; omega, by dsimp only; omega⟩ dX12_volumeCheck_4 (fun r9 M9 hp9 => ?_)
  obtain ⟨⟨t0, rfl, ht0⟩, rfl⟩ := hp9
  refine xr_istore_n C dX12_volumeCheck_7 (by decide) rfl ?_
  refine xr_bipush (n := 10) C dX12_volumeCheck_8 (by decide +kernel) ?_
  refine xr_istore_n C dX12_volumeCheck_10 (by decide) rfl ?_
  refine mq_loop (σ := Nat × Nat) (fun y => y.1 ≤ n ∧ y.2 < 65536) (fun y => n - y.1) (fun y => M) (fun y => [some (.ref a), some (.int (zI (n : Int))), some (.int (zI (y.2 : Int))), some (.int (zI (y.1 : Int)))]) (fun y => []) ?_ (10, t0) ⟨hn.1, ht0⟩
  rintro ⟨k, t⟩ ⟨hk, ht⟩ ih
  dsimp only at hk ht ih ⊢
  refine xr_iload_n C dX12_volumeCheck_11 rfl ?_
  refine xr_iload_n C dX12_volumeCheck_12 rfl ?_
  refine xr_icmp_ge C dX12_volumeCheck_13 rfl (by first | omega | (dsimp only; omega)) (by first | omega | (dsimp only; omega)) (fun hq1 => ?_) (fun hq1 => ?_)
  · refine xr_iload_n C dX12_volumeCheck_30 rfl ?_
    exact xr_iret C hr hlk ⟨_, rfl, ⟨t, rfl, ht⟩, rfl⟩ (by omega) (by omega) dX12_volumeCheck_31
  · refine xr_iload_n C dX12_volumeCheck_16 rfl ?_
    refine xr_aload_n C dX12_volumeCheck_17 rfl ?_
    refine xr_iload_n C dX12_volumeCheck_18 rfl ?_
    refine xr_iald C hB.2 mq_tI (by first | omega | (dsimp only; omega)) (by first | omega | (dsimp only; omega)) (by first | omega | (dsimp only; omega)) dX12_volumeCheck_19 ?_
    rw [Int.toNat_natCast]
    refine xr_callS2i C (m_checked l G M t (f k) ht (hB.1 k)) (cwS 2 C.1.2.2.2.2 gX12_volumeCheck_X12_checked rfl rfl rfl (by decide +kernel) ⟨Nat.le_of_ble_eq_true rfl, Nat.le_of_ble_eq_true rfl⟩) (Nat.le_of_ble_eq_true rfl) ⟨by dsimp only; omega, by dsimp only; omega⟩ dX12_volumeCheck_20 (fun r9 M9 hp9 => ?_)
    obtain ⟨⟨t9, rfl, ht9⟩, rfl⟩ := hp9
    refine xr_istore_n C dX12_volumeCheck_23 (by decide) rfl ?_
    refine xr_iinc C dX12_volumeCheck_24 rfl (by decide) rfl ?_
    refine xr_goto C dX12_volumeCheck_27 rfl ?_
    exact ih (k + 1, t9) ⟨by dsimp only; omega, ht9⟩ (by dsimp only; omega)
set_option maxHeartbeats 4000000 in
set_option maxRecDepth 100000 in
theorem m_makeVolume (l : Launch) (G : mq_G) (M : mq_M) (a : Nat) (f : Nat → Nat) (hB : rB G M a 6 f) (q dn pn : Nat) (hq : q < dn + pn) (hdn : 1 ≤ dn ∧ dn ≤ 10) (hpn : pn ≤ 6) : mq_T l yX12_makeVolume wsX12_makeVolume { frames := 3, cells := 1, slots := 16, locals := 70 } G [.ref a, .int (zI (q : Int)), .int (zI (dn : Int)), .int (zI (pn : Int))] M (mq_pa (fun r M2 => M r = none ∧ (∃ f2, rB G M2 r (10 + bdS 6 dn) f2) ∧ ∀ z, z ≠ r → M2 z = M z)) 1 16 := by
  refine mq_Met.of (cc := cX12_makeVolume) (maxL := 9) (ret := (some (.array .int))) (by decide) rfl (Nat.le_of_ble_eq_true rfl) rfl rfl ?_
  intro p_ e_ s_ m_ args_ below_ meth_ c_ z_ C hr hlk hname
  obtain ⟨hn1, hn6⟩ := bdS_6 dn hdn.1 hdn.2
  refine xr_aload_n C dX12_makeVolume_0 rfl ?_
  refine xr_alen C hB.2 mq_tI dX12_makeVolume_1 ?_
  refine xr_iload_n C dX12_makeVolume_2 rfl ?_
  refine xr_callS2i C (m_bodySize l G M 6 dn (by decide) (by omega)) (cwS 2 C.1.2.2.2.2 gX12_makeVolume_X12_bodySize rfl rfl rfl (by decide +kernel) ⟨Nat.le_of_ble_eq_true rfl, Nat.le_of_ble_eq_true rfl⟩) (Nat.le_of_ble_eq_true rfl) ⟨by dsimp only; omega, by dsimp only; omega⟩ dX12_makeVolume_3 (fun r1 M9 hp9 => ?_)
  obtain ⟨rfl, rfl⟩ := hp9
  generalize hnn : bdS 6 dn = n at hn1 hn6 ⊢
  refine xr_istore C dX12_makeVolume_6 (by decide) rfl ?_
  refine xr_bipush (n := 10) C dX12_makeVolume_8 (by decide +kernel) ?_
  refine xr_iload C dX12_makeVolume_10 rfl ?_
  refine xr_iadd C dX12_makeVolume_12 ?_
  refine xr_newI C (C.1.2.2.2.2 (.arrayClass .int) (by decide +kernel)) mq_tI (by omega) (by dsimp only; omega) (by dsimp only; omega) dX12_makeVolume_13 (fun q2 hq2 => ?_)
  refine mq_ren (fun M3 hM3 => ?_)
  rw [show ((10 : Int) + (n : Int)).toNat = 10 + n by omega] at hM3
  have hab : a ≠ q2 := fun z => by rw [← z, hB.2] at hq2; cases hq2
  have r1 : rB G M3 q2 (10 + n) (fun _ => 0) := rB.new hM3
  have o1 : ∀ z, z ≠ q2 → M3 z = M z := fun z hz => by rw [hM3, mq_up_n hz]
  have a1 := hB.eq (o1 a hab)
  refine xr_astore C dX12_makeVolume_15 (by decide) rfl ?_
  refine xr_aload C dX12_makeVolume_17 rfl ?_
  refine xr_iconst (n := 0) C dX12_makeVolume_19 (by decide +kernel) ?_
  refine xr_bipush (n := 86) C dX12_makeVolume_20 (by decide +kernel) ?_
  refine xr_iast C r1.2 mq_tI (by first | omega | (dsimp only; omega)) (by first | omega | (dsimp only; omega)) (by first | omega | (dsimp only; omega)) dX12_makeVolume_22 ?_
  refine mq_ren (fun M4 hM4 => ?_)
  have r2 := r1.set (v := 86) (by decide) hM4
  have o2 : ∀ z, z ≠ q2 → M4 z = M z := fun z hz => by rw [hM4, mq_up_n hz]; exact o1 z hz
  have a2 := hB.eq (o2 a hab)
  refine xr_aload C dX12_makeVolume_23 rfl ?_
  refine xr_iconst (n := 1) C dX12_makeVolume_25 (by decide +kernel) ?_
  refine xr_iload_n C dX12_makeVolume_26 rfl ?_
  refine xr_iast C r2.2 mq_tI (by first | omega | (dsimp only; omega)) (by first | omega | (dsimp only; omega)) (by first | omega | (dsimp only; omega)) dX12_makeVolume_27 ?_
  refine mq_ren (fun M5 hM5 => ?_)
  have r3 := r2.set (v := q) (by omega) hM5
  have o3 : ∀ z, z ≠ q2 → M5 z = M z := fun z hz => by rw [hM5, mq_up_n hz]; exact o2 z hz
  have a3 := hB.eq (o3 a hab)
  refine xr_aload C dX12_makeVolume_28 rfl ?_
  refine xr_iconst (n := 2) C dX12_makeVolume_30 (by decide +kernel) ?_
  refine xr_iload_n C dX12_makeVolume_31 rfl ?_
  refine xr_iast C r3.2 mq_tI (by first | omega | (dsimp only; omega)) (by first | omega | (dsimp only; omega)) (by first | omega | (dsimp only; omega)) dX12_makeVolume_32 ?_
  refine mq_ren (fun M6 hM6 => ?_)
  have r4 := r3.set (v := dn) (by omega) hM6
  have o4 : ∀ z, z ≠ q2 → M6 z = M z := fun z hz => by rw [hM6, mq_up_n hz]; exact o3 z hz
  have a4 := hB.eq (o4 a hab)
  refine xr_aload C dX12_makeVolume_33 rfl ?_
  refine xr_iconst (n := 3) C dX12_makeVolume_35 (by decide +kernel) ?_
  refine xr_iload_n C dX12_makeVolume_36 rfl ?_
  refine xr_iast C r4.2 mq_tI (by first | omega | (dsimp only; omega)) (by first | omega | (dsimp only; omega)) (by first | omega | (dsimp only; omega)) dX12_makeVolume_37 ?_
  refine mq_ren (fun M7 hM7 => ?_)
  have r5 := r4.set (v := pn) (by omega) hM7
  have o5 : ∀ z, z ≠ q2 → M7 z = M z := fun z hz => by rw [hM7, mq_up_n hz]; exact o4 z hz
  have a5 := hB.eq (o5 a hab)
  refine xr_aload C dX12_makeVolume_38 rfl ?_
  refine xr_iconst (n := 4) C dX12_makeVolume_40 (by decide +kernel) ?_
  refine xr_iload C dX12_makeVolume_41 rfl ?_
  refine xr_callS3v C (m_setWord l G M7 q2 (10 + n) _ r5 (by omega) 4 n (by omega) (by omega)) (cwS 3 C.1.2.2.2.2 gX12_makeVolume_X12_setWord rfl rfl rfl (by decide +kernel) ⟨Nat.le_of_ble_eq_true rfl, Nat.le_of_ble_eq_true rfl⟩) (Nat.le_of_ble_eq_true rfl) ⟨by dsimp only; omega, by dsimp only; omega⟩ dX12_makeVolume_43 (fun M26 hp9 => ?_)
  obtain ⟨⟨f6, r6⟩, hF6⟩ := hp9
  have o6 : ∀ z, z ≠ q2 → M26 z = M z := fun z hz => (hF6 z (by simp [hz])).trans (o5 z hz)
  have a6 := hB.eq (o6 a hab)
  refine xr_aload C dX12_makeVolume_46 rfl ?_
  refine xr_bipush (n := 6) C dX12_makeVolume_48 (by decide +kernel) ?_
  refine xr_aload_n C dX12_makeVolume_50 rfl ?_
  refine xr_alen C a6.2 mq_tI dX12_makeVolume_51 ?_
  refine xr_callS3v C (m_setWord l G M26 q2 (10 + n) _ r6 (by omega) 6 6 (by omega) (by omega)) (cwS 3 C.1.2.2.2.2 gX12_makeVolume_X12_setWord rfl rfl rfl (by decide +kernel) ⟨Nat.le_of_ble_eq_true rfl, Nat.le_of_ble_eq_true rfl⟩) (Nat.le_of_ble_eq_true rfl) ⟨by dsimp only; omega, by dsimp only; omega⟩ dX12_makeVolume_52 (fun M27 hp9 => ?_)
  obtain ⟨⟨f7, r7⟩, hF7⟩ := hp9
  have o7 : ∀ z, z ≠ q2 → M27 z = M z := fun z hz => (hF7 z (by simp [hz])).trans (o6 z hz)
  have a7 := hB.eq (o7 a hab)
  refine xr_iconst (n := 0) C dX12_makeVolume_55 (by decide +kernel) ?_
  refine xr_istore C dX12_makeVolume_56 (by decide) rfl ?_
  refine mq_loop (σ := Nat × mq_M × (Nat → Nat)) (fun y => y.1 ≤ dn ∧ rB G y.2.1 q2 (10 + n) y.2.2 ∧ ∀ z, z ≠ q2 → y.2.1 z = M z) (fun y => dn - y.1) (fun y => y.2.1) (fun y => [some (.ref a), some (.int (zI (q : Int))), some (.int (zI (dn : Int))), some (.int (zI (pn : Int))), some (.int (zI (n : Int))), some (.ref q2), some (.int (zI (y.1 : Int))), none, none]) (fun y => []) ?_ (0, M27, _) ⟨Nat.zero_le _, r7, o7⟩
  rintro ⟨d, M3, f3⟩ ⟨hd, s1, s2⟩ ih
  dsimp only at hd s1 s2 ih ⊢
  have sa := hB.eq (s2 a hab)
  refine xr_iload C dX12_makeVolume_58 rfl ?_
  refine xr_iload_n C dX12_makeVolume_60 rfl ?_
  refine xr_icmp_ge C dX12_makeVolume_61 rfl (by first | omega | (dsimp only; omega)) (by first | omega | (dsimp only; omega)) (fun hq8 => ?_) (fun hq8 => ?_)
  · refine xr_aload C dX12_makeVolume_158 rfl ?_
    refine xr_bipush (n := 8) C dX12_makeVolume_160 (by decide +kernel) ?_
    refine xr_aload C dX12_makeVolume_162 rfl ?_
    refine xr_aload C dX12_makeVolume_164 rfl ?_
    refine xr_alen C s1.2 mq_tI dX12_makeVolume_166 ?_
    refine xr_callS2i C (m_volumeCheck l G M3 q2 (10 + n) f3 s1 (by omega)) (cwS 2 C.1.2.2.2.2 gX12_makeVolume_X12_volumeCheck rfl rfl rfl (by decide +kernel) ⟨Nat.le_of_ble_eq_true rfl, Nat.le_of_ble_eq_true rfl⟩) (Nat.le_of_ble_eq_true rfl) ⟨by dsimp only; omega, by dsimp only; omega⟩ dX12_makeVolume_167 (fun r9 M9 hp9 => ?_)
    obtain ⟨⟨t9, rfl, ht9⟩, rfl⟩ := hp9
    refine xr_callS3v C (m_setWord l G M3 q2 (10 + n) f3 s1 (by omega) 8 t9 (by omega) ht9) (cwS 3 C.1.2.2.2.2 gX12_makeVolume_X12_setWord rfl rfl rfl (by decide +kernel) ⟨Nat.le_of_ble_eq_true rfl, Nat.le_of_ble_eq_true rfl⟩) (Nat.le_of_ble_eq_true rfl) ⟨by dsimp only; omega, by dsimp only; omega⟩ dX12_makeVolume_170 (fun M9 hp9 => ?_)
    obtain ⟨⟨f9, r9⟩, hF9⟩ := hp9
    refine xr_aload C dX12_makeVolume_173 rfl ?_
    exact xr_aret (v := some q2) C hr (Or.inr ⟨_, rfl⟩) hlk ⟨_, rfl, hq2, ⟨f9, r9⟩, fun z hz => (hF9 z (by simp [hz])).trans (s2 z hz)⟩ (by omega) (by omega) dX12_makeVolume_175
  · refine xr_iload_n C dX12_makeVolume_64 rfl ?_
    refine xr_iload_n C dX12_makeVolume_65 rfl ?_
    refine xr_icmp_ge C dX12_makeVolume_66 rfl (by first | omega | (dsimp only; omega)) (by first | omega | (dsimp only; omega)) (fun hq9 => ?_) (fun hq9 => ?_)
    · refine xr_iload_n C dX12_makeVolume_78 rfl ?_
      refine xr_iload_n C dX12_makeVolume_79 rfl ?_
      refine xr_icmp_ge C dX12_makeVolume_80 rfl (by first | omega | (dsimp only; omega)) (by first | omega | (dsimp only; omega)) (fun _ => ?_) (fun hq => absurd hq (by omega))
      refine xr_iload_n C dX12_makeVolume_87 rfl ?_
      refine xr_iload_n C dX12_makeVolume_88 rfl ?_
      refine xr_isub C dX12_makeVolume_89 ?_
      refine xr_iload C dX12_makeVolume_90 rfl ?_
      rw [show (q : Int) - (dn : Int) = ((q - dn : Nat) : Int) by omega]
      refine xr_callS2i C (m_factor l G M3 (q - dn) d (by omega) (by omega)) (cwS 2 C.1.2.2.2.2 gX12_makeVolume_X12_factor rfl rfl rfl (by decide +kernel) ⟨Nat.le_of_ble_eq_true rfl, Nat.le_of_ble_eq_true rfl⟩) (Nat.le_of_ble_eq_true rfl) ⟨by dsimp only; omega, by dsimp only; omega⟩ dX12_makeVolume_92 (fun r10 M9 hp9 => ?_)
      obtain ⟨rfl, rfl⟩ := hp9
      have hgi := gfI_lt ((128 + (q - dn)) ^^^ d)
      generalize gfI ((128 + (q - dn)) ^^^ d) = by9 at hgi ⊢
      refine xr_istore C dX12_makeVolume_95 (by decide) rfl ?_
      refine xr_iconst (n := 0) C dX12_makeVolume_97 (by decide +kernel) ?_
      refine xr_istore C dX12_makeVolume_98 (by decide) rfl ?_
      refine mq_loop (σ := Nat × mq_M × (Nat → Nat)) (fun y => y.1 ≤ n ∧ rB G y.2.1 q2 (10 + n) y.2.2 ∧ ∀ z, z ≠ q2 → y.2.1 z = M z) (fun y => n - y.1) (fun y => y.2.1) (fun y => [some (.ref a), some (.int (zI (q : Int))), some (.int (zI (dn : Int))), some (.int (zI (pn : Int))), some (.int (zI (n : Int))), some (.ref q2), some (.int (zI (d : Int))), some (.int (zI (by9 : Int))), some (.int (zI (y.1 : Int)))]) (fun y => []) ?_ (0, M3, f3) ⟨Nat.zero_le _, s1, s2⟩
      rintro ⟨i, M4, f4⟩ ⟨hi, t1, t2⟩ ih2
      dsimp only at hi t1 t2 ih2 ⊢
      have ta := hB.eq (t2 a hab)
      have hdn0 : d * n ≤ 10 * 6 := Nat.mul_le_mul (by omega) hn6
      have hcast : (d : Int) * (n : Int) = ((d * n : Nat) : Int) := by simp
      refine xr_iload C dX12_makeVolume_100 rfl ?_
      refine xr_iload C dX12_makeVolume_102 rfl ?_
      refine xr_icmp_ge C dX12_makeVolume_104 rfl (by first | omega | (dsimp only; omega)) (by first | omega | (dsimp only; omega)) (fun hq11 => ?_) (fun hq11 => ?_)
      · refine xr_iinc C dX12_makeVolume_152 rfl (by decide) rfl ?_
        refine xr_goto C dX12_makeVolume_155 rfl ?_
        refine mq_drop 7 (mq_drop 8 ?_)
        exact ih (d + 1, M4, f4) ⟨by dsimp only; omega, t1, t2⟩ (by dsimp only; omega)
      · refine xr_iload C dX12_makeVolume_107 rfl ?_
        refine xr_iload C dX12_makeVolume_109 rfl ?_
        refine xr_imul C dX12_makeVolume_111 ?_
        refine xr_iload C dX12_makeVolume_112 rfl ?_
        refine xr_iadd C dX12_makeVolume_114 ?_
        refine xr_aload_n C dX12_makeVolume_115 rfl ?_
        refine xr_alen C ta.2 mq_tI dX12_makeVolume_116 ?_
        rw [hcast]
        refine xr_icmp_ge C dX12_makeVolume_117 rfl (by first | omega | (dsimp only; omega)) (by first | omega | (dsimp only; omega)) (fun hq12 => ?_) (fun hq12 => ?_)
        · refine xr_iinc C dX12_makeVolume_152 rfl (by decide) rfl ?_
          refine xr_goto C dX12_makeVolume_155 rfl ?_
          refine mq_drop 7 (mq_drop 8 ?_)
          exact ih (d + 1, M4, f4) ⟨by dsimp only; omega, t1, t2⟩ (by dsimp only; omega)
        · have hlt6 : d * n + i < 6 := by have := hq12; first | omega | (dsimp only at this; omega)
          refine xr_aload C dX12_makeVolume_120 rfl ?_
          refine xr_bipush (n := 10) C dX12_makeVolume_122 (by decide +kernel) ?_
          refine xr_iload C dX12_makeVolume_124 rfl ?_
          refine xr_iadd C dX12_makeVolume_126 ?_
          refine xr_dup2 C dX12_makeVolume_127 rfl rfl ?_
          rw [show (10 : Int) + (i : Int) = ((10 + i : Nat) : Int) by omega]
          refine xr_iald C t1.2 mq_tI (by first | omega | (dsimp only; omega)) (by first | omega | (dsimp only; omega)) (by first | omega | (dsimp only; omega)) dX12_makeVolume_128 ?_
          rw [Int.toNat_natCast]
          refine xr_iload C dX12_makeVolume_129 rfl ?_
          refine xr_aload_n C dX12_makeVolume_131 rfl ?_
          refine xr_iload C dX12_makeVolume_132 rfl ?_
          refine xr_iload C dX12_makeVolume_134 rfl ?_
          refine xr_imul C dX12_makeVolume_136 ?_
          refine xr_iload C dX12_makeVolume_137 rfl ?_
          refine xr_iadd C dX12_makeVolume_139 ?_
          rw [show (d : Int) * (n : Int) + (i : Int) = ((d * n + i : Nat) : Int) by omega]
          refine xr_iald C ta.2 mq_tI (by first | omega | (dsimp only; omega)) (by first | omega | (dsimp only; omega)) (by first | omega | (dsimp only; omega)) dX12_makeVolume_140 ?_
          rw [Int.toNat_natCast]
          refine xr_callS2i C (m_times l G M4 by9 (f (d * n + i)) hgi (hB.1 _)) (cwS 2 C.1.2.2.2.2 gX12_makeVolume_X12_times rfl rfl rfl (by decide +kernel) ⟨Nat.le_of_ble_eq_true rfl, Nat.le_of_ble_eq_true rfl⟩) (Nat.le_of_ble_eq_true rfl) ⟨by dsimp only; omega, by dsimp only; omega⟩ dX12_makeVolume_141 (fun r13 M9 hp9 => ?_)
          obtain ⟨rfl, rfl⟩ := hp9
          have hg := gfM_lt by9 (f (d * n + i))
          have hf4 := t1.1 (10 + i)
          refine xr_ixor (w := ((f4 (10 + i) ^^^ gfM by9 (f (d * n + i)) : Nat) : Int)) C dX12_makeVolume_144 (zI_xorN (by omega) (by omega)) ?_
          refine xr_iast C t1.2 mq_tI (by first | omega | (dsimp only; omega)) (by first | omega | (dsimp only; omega)) (by first | omega | (dsimp only; omega)) dX12_makeVolume_145 ?_
          refine mq_ren (fun M14 hM14 => ?_)
          rw [Int.toNat_natCast] at hM14
          have u1 := t1.set (v := f4 (10 + i) ^^^ gfM by9 (f (d * n + i))) (Nat.xor_lt_two_pow (n := 8) hf4 hg) hM14
          have u2 : ∀ z, z ≠ q2 → M14 z = M z := fun z hz => by rw [hM14, mq_up_n hz]; exact t2 z hz
          refine xr_iinc C dX12_makeVolume_146 rfl (by decide) rfl ?_
          refine xr_goto C dX12_makeVolume_149 rfl ?_
          exact ih2 (i + 1, M14, _) ⟨by dsimp only; omega, u1, u2⟩ (by dsimp only; omega)
    · refine xr_iload_n C dX12_makeVolume_69 rfl ?_
      refine xr_iload C dX12_makeVolume_70 rfl ?_
      refine xr_icmp_eq C dX12_makeVolume_72 rfl (by first | omega | (dsimp only; omega)) (by first | omega | (dsimp only; omega)) (fun hq15 => ?_) (fun hq15 => ?_)
      · refine xr_iload_n C dX12_makeVolume_78 rfl ?_
        refine xr_iload_n C dX12_makeVolume_79 rfl ?_
        refine xr_icmp_ge C dX12_makeVolume_80 rfl (by first | omega | (dsimp only; omega)) (by first | omega | (dsimp only; omega)) (fun hq => absurd hq (by omega)) (fun _ => ?_)
        refine xr_iconst (n := 1) C dX12_makeVolume_83 (by decide +kernel) ?_
        refine xr_goto C dX12_makeVolume_84 rfl ?_
        refine xr_istore C dX12_makeVolume_95 (by decide) rfl ?_
        refine xr_iconst (n := 0) C dX12_makeVolume_97 (by decide +kernel) ?_
        refine xr_istore C dX12_makeVolume_98 (by decide) rfl ?_
        refine mq_loop (σ := Nat × mq_M × (Nat → Nat)) (fun y => y.1 ≤ n ∧ rB G y.2.1 q2 (10 + n) y.2.2 ∧ ∀ z, z ≠ q2 → y.2.1 z = M z) (fun y => n - y.1) (fun y => y.2.1) (fun y => [some (.ref a), some (.int (zI (q : Int))), some (.int (zI (dn : Int))), some (.int (zI (pn : Int))), some (.int (zI (n : Int))), some (.ref q2), some (.int (zI (d : Int))), some (.int (zI (1 : Int))), some (.int (zI (y.1 : Int)))]) (fun y => []) ?_ (0, M3, f3) ⟨Nat.zero_le _, s1, s2⟩
        rintro ⟨i, M4, f4⟩ ⟨hi, t1, t2⟩ ih2
        dsimp only at hi t1 t2 ih2 ⊢
        have ta := hB.eq (t2 a hab)
        have hdn0 : d * n ≤ 10 * 6 := Nat.mul_le_mul (by omega) hn6
        have hcast : (d : Int) * (n : Int) = ((d * n : Nat) : Int) := by simp
        refine xr_iload C dX12_makeVolume_100 rfl ?_
        refine xr_iload C dX12_makeVolume_102 rfl ?_
        refine xr_icmp_ge C dX12_makeVolume_104 rfl (by first | omega | (dsimp only; omega)) (by first | omega | (dsimp only; omega)) (fun hq16 => ?_) (fun hq16 => ?_)
        · refine xr_iinc C dX12_makeVolume_152 rfl (by decide) rfl ?_
          refine xr_goto C dX12_makeVolume_155 rfl ?_
          refine mq_drop 7 (mq_drop 8 ?_)
          exact ih (d + 1, M4, f4) ⟨by dsimp only; omega, t1, t2⟩ (by dsimp only; omega)
        · refine xr_iload C dX12_makeVolume_107 rfl ?_
          refine xr_iload C dX12_makeVolume_109 rfl ?_
          refine xr_imul C dX12_makeVolume_111 ?_
          refine xr_iload C dX12_makeVolume_112 rfl ?_
          refine xr_iadd C dX12_makeVolume_114 ?_
          refine xr_aload_n C dX12_makeVolume_115 rfl ?_
          refine xr_alen C ta.2 mq_tI dX12_makeVolume_116 ?_
          rw [hcast]
          refine xr_icmp_ge C dX12_makeVolume_117 rfl (by first | omega | (dsimp only; omega)) (by first | omega | (dsimp only; omega)) (fun hq17 => ?_) (fun hq17 => ?_)
          · refine xr_iinc C dX12_makeVolume_152 rfl (by decide) rfl ?_
            refine xr_goto C dX12_makeVolume_155 rfl ?_
            refine mq_drop 7 (mq_drop 8 ?_)
            exact ih (d + 1, M4, f4) ⟨by dsimp only; omega, t1, t2⟩ (by dsimp only; omega)
          · have hlt6 : d * n + i < 6 := by have := hq17; first | omega | (dsimp only at this; omega)
            refine xr_aload C dX12_makeVolume_120 rfl ?_
            refine xr_bipush (n := 10) C dX12_makeVolume_122 (by decide +kernel) ?_
            refine xr_iload C dX12_makeVolume_124 rfl ?_
            refine xr_iadd C dX12_makeVolume_126 ?_
            refine xr_dup2 C dX12_makeVolume_127 rfl rfl ?_
            rw [show (10 : Int) + (i : Int) = ((10 + i : Nat) : Int) by omega]
            refine xr_iald C t1.2 mq_tI (by first | omega | (dsimp only; omega)) (by first | omega | (dsimp only; omega)) (by first | omega | (dsimp only; omega)) dX12_makeVolume_128 ?_
            rw [Int.toNat_natCast]
            refine xr_iload C dX12_makeVolume_129 rfl ?_
            refine xr_aload_n C dX12_makeVolume_131 rfl ?_
            refine xr_iload C dX12_makeVolume_132 rfl ?_
            refine xr_iload C dX12_makeVolume_134 rfl ?_
            refine xr_imul C dX12_makeVolume_136 ?_
            refine xr_iload C dX12_makeVolume_137 rfl ?_
            refine xr_iadd C dX12_makeVolume_139 ?_
            rw [show (d : Int) * (n : Int) + (i : Int) = ((d * n + i : Nat) : Int) by omega]
            refine xr_iald C ta.2 mq_tI (by first | omega | (dsimp only; omega)) (by first | omega | (dsimp only; omega)) (by first | omega | (dsimp only; omega)) dX12_makeVolume_140 ?_
            rw [Int.toNat_natCast]
            refine xr_callS2i C (m_times l G M4 1 (f (d * n + i)) (by decide) (hB.1 _)) (cwS 2 C.1.2.2.2.2 gX12_makeVolume_X12_times rfl rfl rfl (by decide +kernel) ⟨Nat.le_of_ble_eq_true rfl, Nat.le_of_ble_eq_true rfl⟩) (Nat.le_of_ble_eq_true rfl) ⟨by dsimp only; omega, by dsimp only; omega⟩ dX12_makeVolume_141 (fun r18 M9 hp9 => ?_)
            obtain ⟨rfl, rfl⟩ := hp9
            have hg := gfM_lt 1 (f (d * n + i))
            have hf4 := t1.1 (10 + i)
            refine xr_ixor (w := ((f4 (10 + i) ^^^ gfM 1 (f (d * n + i)) : Nat) : Int)) C dX12_makeVolume_144 (zI_xorN (by omega) (by omega)) ?_
            refine xr_iast C t1.2 mq_tI (by first | omega | (dsimp only; omega)) (by first | omega | (dsimp only; omega)) (by first | omega | (dsimp only; omega)) dX12_makeVolume_145 ?_
            refine mq_ren (fun M19 hM19 => ?_)
            rw [Int.toNat_natCast] at hM19
            have u1 := t1.set (v := f4 (10 + i) ^^^ gfM 1 (f (d * n + i))) (Nat.xor_lt_two_pow (n := 8) hf4 hg) hM19
            have u2 : ∀ z, z ≠ q2 → M19 z = M z := fun z hz => by rw [hM19, mq_up_n hz]; exact t2 z hz
            refine xr_iinc C dX12_makeVolume_146 rfl (by decide) rfl ?_
            refine xr_goto C dX12_makeVolume_149 rfl ?_
            exact ih2 (i + 1, M19, _) ⟨by dsimp only; omega, u1, u2⟩ (by dsimp only; omega)
      · refine xr_goto C dX12_makeVolume_75 rfl ?_
        refine xr_iinc C dX12_makeVolume_152 rfl (by decide) rfl ?_
        refine xr_goto C dX12_makeVolume_155 rfl ?_
        exact ih (d + 1, M3, f3) ⟨by dsimp only; omega, s1, s2⟩ (by dsimp only; omega)
