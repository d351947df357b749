set_option maxHeartbeats 4000000 in
set_option maxRecDepth 100000 in
theorem c_size (l : Launch) (G : mq_G) (b a n : Nat) (d : List Nat) (M : mq_M) (hB : bI G M b a n d) : mq_T l yX0_size wsX0_size { frames := 0, cells := 0, slots := 0, locals := 0 } G [.ref b] M (mq_ri M (d.length : Int)) 0 0 := by
  refine mq_Met.of (cc := cX0_size) (maxL := 1) (ret := (some .int)) (by decide) rfl (Nat.le_of_ble_eq_true rfl) rfl rfl ?_
  intro p_ e_ s_ m_ args_ below_ meth_ c_ z_ C hr hlk hname
  obtain ⟨h1, h2, h3, h4, h5, f, h6, h7⟩ := hB
  refine xr_aload_n C dX0_size_0 rfl ?_
  refine xr_get C (Cn := RX0) (T := TX0) (N := 2) (by decide +kernel) h1 rfl 1 (by decide) (C.1.2.2.2.2 (.fieldLink RX0 13 "OssuaryVault$Bytes" "size" "I") (by decide +kernel)) (fun _ h => h) rfl dX0_size_1 ?_
  exact xr_iret C hr hlk ⟨_, rfl, rfl, rfl⟩ (by omega) (by omega) dX0_size_4
set_option maxHeartbeats 4000000 in
set_option maxRecDepth 100000 in
theorem c_at (l : Launch) (G : mq_G) (b a n : Nat) (d : List Nat) (M : mq_M) (hB : bI G M b a n d) (k : Int) (hk : -2147483648 ≤ k ∧ k < 2147483648) : mq_T l yX0_at wsX0_at { frames := 0, cells := 0, slots := 0, locals := 0 } G [.ref b, .int (zI k)] M (mq_ri M (mq_gd d k : Int)) 0 0 := by
  refine mq_Met.of (cc := cX0_at) (maxL := 2) (ret := (some .int)) (by decide) rfl (Nat.le_of_ble_eq_true rfl) rfl rfl ?_
  intro p_ e_ s_ m_ args_ below_ meth_ c_ z_ C hr hlk hname
  obtain ⟨h1, h2, h3, h4, h5, f, h6, h7⟩ := hB
  refine xr_iload_n C dX0_at_0 rfl ?_
  refine xr_if_lt C dX0_at_1 rfl (by first | omega | (dsimp only; omega)) (fun hq1 => ?_) (fun hq1 => ?_)
  · refine xr_iconst (n := 0) C dX0_at_30 (by decide +kernel) ?_
    exact xr_iret C hr hlk ⟨_, rfl, by simp [mq_gd, show ¬ 0 ≤ k by omega], rfl⟩ (by omega) (by omega) dX0_at_31
  · refine xr_iload_n C dX0_at_4 rfl ?_
    refine xr_aload_n C dX0_at_5 rfl ?_
    refine xr_get C (Cn := RX0) (T := TX0) (N := 2) (by decide +kernel) h1 rfl 1 (by decide) (C.1.2.2.2.2 (.fieldLink RX0 13 "OssuaryVault$Bytes" "size" "I") (by decide +kernel)) (fun _ h => h) rfl dX0_at_6 ?_
    refine xr_icmp_ge C dX0_at_9 rfl (by first | omega | (dsimp only; omega)) (by first | omega | (dsimp only; omega)) (fun hq2 => ?_) (fun hq2 => ?_)
    · refine xr_iconst (n := 0) C dX0_at_30 (by decide +kernel) ?_
      exact xr_iret C hr hlk ⟨_, rfl, by rw [show k = (k.toNat : Int) by omega, mq_gd_nat, List.getD_eq_getElem?_getD, List.getElem?_eq_none (by omega)]; rfl, rfl⟩ (by omega) (by omega) dX0_at_31
    · refine xr_iload_n C dX0_at_12 rfl ?_
      refine xr_aload_n C dX0_at_13 rfl ?_
      refine xr_get C (Cn := RX0) (T := TX0) (N := 2) (by decide +kernel) h1 rfl 0 (by decide) (C.1.2.2.2.2 (.fieldLink RX0 7 "OssuaryVault$Bytes" "cells" "[I") (by decide +kernel)) (fun _ h => h) rfl dX0_at_14 ?_
      refine xr_alen C h6 mq_tI dX0_at_17 ?_
      refine xr_icmp_ge C dX0_at_18 rfl (by first | omega | (dsimp only; omega)) (by first | omega | (dsimp only; omega)) (fun hq => absurd hq (by omega)) (fun _ => ?_)
      refine xr_aload_n C dX0_at_21 rfl ?_
      refine xr_get C (Cn := RX0) (T := TX0) (N := 2) (by decide +kernel) h1 rfl 0 (by decide) (C.1.2.2.2.2 (.fieldLink RX0 7 "OssuaryVault$Bytes" "cells" "[I") (by decide +kernel)) (fun _ h => h) rfl dX0_at_22 ?_
      refine xr_iload_n C dX0_at_25 rfl ?_
      refine xr_iald C h6 mq_tI (by first | omega | (dsimp only; omega)) (by first | omega | (dsimp only; omega)) (by first | omega | (dsimp only; omega)) dX0_at_26 ?_
      rw [h7 k.toNat (by omega)]
      refine xr_goto C dX0_at_27 rfl ?_
      exact xr_iret C hr hlk ⟨_, rfl, by simp [mq_gd, show 0 ≤ k by omega], rfl⟩ (by omega) (by omega) dX0_at_31
set_option maxHeartbeats 4000000 in
set_option maxRecDepth 100000 in
theorem c_word (l : Launch) (G : mq_G) (b a n : Nat) (d : List Nat) (M : mq_M) (hB : bI G M b a n d) (k : Int) (hk : -2147483648 ≤ k ∧ k < 2147483647) : mq_T l yX0_word wsX0_word { frames := 1, cells := 0, slots := 0, locals := 21 } G [.ref b, .int (zI k)] M (mq_ri M (mq_wd d k : Int)) 0 0 := by
  refine mq_Met.of (cc := cX0_word) (maxL := 2) (ret := (some .int)) (by decide) rfl (Nat.le_of_ble_eq_true rfl) rfl rfl ?_
  intro p_ e_ s_ m_ args_ below_ meth_ c_ z_ C hr hlk hname
  refine xr_aload_n C dX0_word_0 rfl ?_
  refine xr_iload_n C dX0_word_1 rfl ?_
  refine xr_callV1i C (c_at l G b a n d M hB k (by omega)) (cwV 1 C.1.2.2.2.2 gX0_word_X0_at rfl rfl rfl (by decide +kernel) ⟨Nat.le_of_ble_eq_true rfl, Nat.le_of_ble_eq_true rfl⟩) hB.1 rfl (Nat.le_of_ble_eq_true rfl) ⟨by dsimp only; omega, by dsimp only; omega⟩ dX0_word_2 (fun r1 M9 hp9 => ?_)
  obtain ⟨rfl, rfl⟩ := hp9
  refine xr_sipush (n := 256) C dX0_word_5 (by decide +kernel) ?_
  refine xr_imul C dX0_word_8 ?_
  refine xr_aload_n C dX0_word_9 rfl ?_
  refine xr_iload_n C dX0_word_10 rfl ?_
  refine xr_iconst (n := 1) C dX0_word_11 (by decide +kernel) ?_
  refine xr_iadd C dX0_word_12 ?_
  refine xr_callV1i C (c_at l G b a n d M hB (k + 1) (by omega)) (cwV 1 C.1.2.2.2.2 gX0_word_X0_at rfl rfl rfl (by decide +kernel) ⟨Nat.le_of_ble_eq_true rfl, Nat.le_of_ble_eq_true rfl⟩) hB.1 rfl (Nat.le_of_ble_eq_true rfl) ⟨by dsimp only; omega, by dsimp only; omega⟩ dX0_word_13 (fun r2 M9 hp9 => ?_)
  obtain ⟨rfl, rfl⟩ := hp9
  refine xr_iadd C dX0_word_16 ?_
  exact xr_iret C hr hlk ⟨_, rfl, by simp [mq_wd], rfl⟩ (by omega) (by omega) dX0_word_17
set_option maxHeartbeats 4000000 in
set_option maxRecDepth 100000 in
theorem c_put (l : Launch) (G : mq_G) (b a n : Nat) (d : List Nat) (M : mq_M) (hB : bI G M b a n d) (k : Int) (hk : -2147483648 ≤ k ∧ k < 2147483648) (v : Nat) (hv : v < 256) : mq_T l yX0_put wsX0_put { frames := 0, cells := 0, slots := 0, locals := 0 } G [.ref b, .int (zI k), .int (zI (v : Int))] M (mq_pv (fun M2 => bI G M2 b a n (mq_put d k v) ∧ mq_F [a] M M2)) 0 0 := by
  refine mq_Met.of (cc := cX0_put) (maxL := 3) (ret := none) (by decide) rfl (Nat.le_of_ble_eq_true rfl) rfl rfl ?_
  intro p_ e_ s_ m_ args_ below_ meth_ c_ z_ C hr hlk hname
  obtain ⟨h1, h2, h3, h4, h5, f, h6, h7⟩ := hB
  refine xr_iload_n C dX0_put_0 rfl ?_
  refine xr_if_lt C dX0_put_1 rfl (by first | omega | (dsimp only; omega)) (fun hq1 => ?_) (fun hq1 => ?_)
  · exact xr_vret C hr hlk ⟨rfl, ⟨by rw [mq_put_len]; exact h1, h2, by rw [mq_put_len]; exact h3, h4, mq_put_lt h5 hv, f, h6, fun i hi => by rw [mq_put_none (by omega)]; exact h7 i (by rw [mq_put_len] at hi; exact hi)⟩, mq_F.rf⟩ (by omega) (by omega) dX0_put_28
  · refine xr_iload_n C dX0_put_4 rfl ?_
    refine xr_aload_n C dX0_put_5 rfl ?_
    refine xr_get C (Cn := RX0) (T := TX0) (N := 2) (by decide +kernel) h1 rfl 1 (by decide) (C.1.2.2.2.2 (.fieldLink RX0 13 "OssuaryVault$Bytes" "size" "I") (by decide +kernel)) (fun _ h => h) rfl dX0_put_6 ?_
    refine xr_icmp_ge C dX0_put_9 rfl (by first | omega | (dsimp only; omega)) (by first | omega | (dsimp only; omega)) (fun hq2 => ?_) (fun hq2 => ?_)
    · exact xr_vret C hr hlk ⟨rfl, ⟨by rw [mq_put_len]; exact h1, h2, by rw [mq_put_len]; exact h3, h4, mq_put_lt h5 hv, f, h6, fun i hi => by rw [mq_put_none (by omega)]; exact h7 i (by rw [mq_put_len] at hi; exact hi)⟩, mq_F.rf⟩ (by omega) (by omega) dX0_put_28
    · refine xr_iload_n C dX0_put_12 rfl ?_
      refine xr_aload_n C dX0_put_13 rfl ?_
      refine xr_get C (Cn := RX0) (T := TX0) (N := 2) (by decide +kernel) h1 rfl 0 (by decide) (C.1.2.2.2.2 (.fieldLink RX0 7 "OssuaryVault$Bytes" "cells" "[I") (by decide +kernel)) (fun _ h => h) rfl dX0_put_14 ?_
      refine xr_alen C h6 mq_tI dX0_put_17 ?_
      refine xr_icmp_ge C dX0_put_18 rfl (by first | omega | (dsimp only; omega)) (by first | omega | (dsimp only; omega)) (fun hq => absurd hq (by omega)) (fun _ => ?_)
      refine xr_aload_n C dX0_put_21 rfl ?_
      refine xr_get C (Cn := RX0) (T := TX0) (N := 2) (by decide +kernel) h1 rfl 0 (by decide) (C.1.2.2.2.2 (.fieldLink RX0 7 "OssuaryVault$Bytes" "cells" "[I") (by decide +kernel)) (fun _ h => h) rfl dX0_put_22 ?_
      refine xr_iload_n C dX0_put_25 rfl ?_
      refine xr_iload_n C dX0_put_26 rfl ?_
      refine xr_iast C h6 mq_tI (by omega) (by omega) (by omega) dX0_put_27 ?_
      refine mq_ren (fun M1 hM1 => ?_)
      exact xr_vret C hr hlk ⟨rfl, ⟨by rw [hM1, mq_up_n h2, mq_put_len]; exact h1, h2, by rw [mq_put_len]; exact h3, h4, mq_put_lt h5 hv, upd f k.toNat (zI (v : Int)), by rw [hM1]; exact mq_up_s, fun i hi => by
            rw [mq_put_len] at hi
            exact mq_put_upd (by omega) h7 i hi⟩, mq_F.up hM1 List.mem_cons_self⟩ (by omega) (by omega) dX0_put_28
set_option maxHeartbeats 4000000 in
set_option maxRecDepth 100000 in
theorem c_putWord (l : Launch) (G : mq_G) (b a n : Nat) (d : List Nat) (M : mq_M) (hB : bI G M b a n d) (k : Int) (hk : -2147483648 ≤ k ∧ k < 2147483647) (v : Nat) (hv : v < 65536) : mq_T l yX0_putWord wsX0_putWord { frames := 1, cells := 0, slots := 0, locals := 22 } G [.ref b, .int (zI k), .int (zI (v : Int))] M (mq_pv (fun M2 => bI G M2 b a n (mq_put (mq_put d k (v / 256)) (k + 1) (v % 256)) ∧ mq_F [a] M M2)) 0 0 := by
  refine mq_Met.of (cc := cX0_putWord) (maxL := 3) (ret := none) (by decide) rfl (Nat.le_of_ble_eq_true rfl) rfl rfl ?_
  intro p_ e_ s_ m_ args_ below_ meth_ c_ z_ C hr hlk hname
  refine xr_aload_n C dX0_putWord_0 rfl ?_
  refine xr_iload_n C dX0_putWord_1 rfl ?_
  refine xr_iload_n C dX0_putWord_2 rfl ?_
  refine xr_sipush (n := 256) C dX0_putWord_3 (by decide +kernel) ?_
  refine xr_idiv C dX0_putWord_6 (by omega) (by omega) ?_
  refine xr_callV2v C (c_put l G b a n d M hB k (by omega) (v / 256) (by omega)) (cwV 2 C.1.2.2.2.2 gX0_putWord_X0_put rfl rfl rfl (by decide +kernel) ⟨Nat.le_of_ble_eq_true rfl, Nat.le_of_ble_eq_true rfl⟩) hB.1 rfl (Nat.le_of_ble_eq_true rfl) ⟨by dsimp only; omega, by dsimp only; omega⟩ dX0_putWord_7 (fun M1 hp1 => ?_)
  obtain ⟨hB1, hF1⟩ := hp1
  refine xr_aload_n C dX0_putWord_10 rfl ?_
  refine xr_iload_n C dX0_putWord_11 rfl ?_
  refine xr_iconst (n := 1) C dX0_putWord_12 (by decide +kernel) ?_
  refine xr_iadd C dX0_putWord_13 ?_
  refine xr_iload_n C dX0_putWord_14 rfl ?_
  refine xr_sipush (n := 256) C dX0_putWord_15 (by decide +kernel) ?_
  refine xr_irem C dX0_putWord_18 (by omega) (by omega) ?_
  refine xr_callV2v C (c_put l G b a n _ M1 hB1 (k + 1) (by omega) (v % 256) (by omega)) (cwV 2 C.1.2.2.2.2 gX0_putWord_X0_put rfl rfl rfl (by decide +kernel) ⟨Nat.le_of_ble_eq_true rfl, Nat.le_of_ble_eq_true rfl⟩) hB1.1 rfl (Nat.le_of_ble_eq_true rfl) ⟨by dsimp only; omega, by dsimp only; omega⟩ dX0_putWord_19 (fun M2 hp2 => ?_)
  obtain ⟨hB2, hF2⟩ := hp2
  exact xr_vret C hr hlk ⟨rfl, hB2, hF1.tr hF2⟩ (by omega) (by omega) dX0_putWord_22
set_option maxHeartbeats 4000000 in
set_option maxRecDepth 100000 in
theorem c_add (l : Launch) (G : mq_G) (b a n : Nat) (d : List Nat) (M : mq_M) (hB : bI G M b a n d) (v : Nat) (hv : v < 256) (hroom : d.length < n) : mq_T l yX0_add wsX0_add { frames := 0, cells := 0, slots := 0, locals := 0 } G [.ref b, .int (zI (v : Int))] M (mq_pv (fun M2 => bI G M2 b a n (d ++ [v]) ∧ mq_F [b, a] M M2)) 0 0 := by
  refine mq_Met.of (cc := cX0_add) (maxL := 2) (ret := none) (by decide) rfl (Nat.le_of_ble_eq_true rfl) rfl rfl ?_
  intro p_ e_ s_ m_ args_ below_ meth_ c_ z_ C hr hlk hname
  obtain ⟨h1, h2, h3, h4, h5, f, h6, h7⟩ := hB
  refine xr_aload_n C dX0_add_0 rfl ?_
  refine xr_get C (Cn := RX0) (T := TX0) (N := 2) (by decide +kernel) h1 rfl 1 (by decide) (C.1.2.2.2.2 (.fieldLink RX0 13 "OssuaryVault$Bytes" "size" "I") (by decide +kernel)) (fun _ h => h) rfl dX0_add_1 ?_
  refine xr_if_lt C dX0_add_4 rfl (by first | omega | (dsimp only; omega)) (fun hq => absurd hq (by omega)) (fun _ => ?_)
  refine xr_aload_n C dX0_add_7 rfl ?_
  refine xr_get C (Cn := RX0) (T := TX0) (N := 2) (by decide +kernel) h1 rfl 1 (by decide) (C.1.2.2.2.2 (.fieldLink RX0 13 "OssuaryVault$Bytes" "size" "I") (by decide +kernel)) (fun _ h => h) rfl dX0_add_8 ?_
  refine xr_aload_n C dX0_add_11 rfl ?_
  refine xr_get C (Cn := RX0) (T := TX0) (N := 2) (by decide +kernel) h1 rfl 0 (by decide) (C.1.2.2.2.2 (.fieldLink RX0 7 "OssuaryVault$Bytes" "cells" "[I") (by decide +kernel)) (fun _ h => h) rfl dX0_add_12 ?_
  refine xr_alen C h6 mq_tI dX0_add_15 ?_
  refine xr_icmp_ge C dX0_add_16 rfl (by first | omega | (dsimp only; omega)) (by first | omega | (dsimp only; omega)) (fun hq => absurd hq (by omega)) (fun _ => ?_)
  refine xr_aload_n C dX0_add_19 rfl ?_
  refine xr_get C (Cn := RX0) (T := TX0) (N := 2) (by decide +kernel) h1 rfl 0 (by decide) (C.1.2.2.2.2 (.fieldLink RX0 7 "OssuaryVault$Bytes" "cells" "[I") (by decide +kernel)) (fun _ h => h) rfl dX0_add_20 ?_
  refine xr_aload_n C dX0_add_23 rfl ?_
  refine xr_get C (Cn := RX0) (T := TX0) (N := 2) (by decide +kernel) h1 rfl 1 (by decide) (C.1.2.2.2.2 (.fieldLink RX0 13 "OssuaryVault$Bytes" "size" "I") (by decide +kernel)) (fun _ h => h) rfl dX0_add_24 ?_
  refine xr_iload_n C dX0_add_27 rfl ?_
  refine xr_iast C h6 mq_tI (by first | omega | (dsimp only; omega)) (by first | omega | (dsimp only; omega)) (by first | omega | (dsimp only; omega)) dX0_add_28 ?_
  refine mq_ren (fun M1 hM1 => ?_)
  have h8 : M1 b = some (.inr (0, [.ref a, .int (zI (d.length : Int))])) := by rw [hM1, mq_up_n h2]; exact h1
  refine xr_aload_n C dX0_add_29 rfl ?_
  refine xr_dup C dX0_add_30 rfl ?_
  refine xr_get C (Cn := RX0) (T := TX0) (N := 2) (by decide +kernel) h8 rfl 1 (by decide) (C.1.2.2.2.2 (.fieldLink RX0 13 "OssuaryVault$Bytes" "size" "I") (by decide +kernel)) (fun _ h => h) rfl dX0_add_31 ?_
  refine xr_iconst (n := 1) C dX0_add_34 (by decide +kernel) ?_
  refine xr_iadd C dX0_add_35 ?_
  refine xr_put C (Cn := RX0) (T := TX0) (N := 2) (by decide +kernel) h8 rfl 1 (by decide) tyX0 tyX0_ok nmX0 (C.1.2.2.2.2 (.fieldLink RX0 13 "OssuaryVault$Bytes" "size" "I") (by decide +kernel)) (fun _ h => h) rfl (tyX0_ok 1 (by decide)) rfl rfl (Nat.le_of_ble_eq_true rfl) dX0_add_36 ?_
  refine mq_ren (fun M2 hM2 => ?_)
  exact xr_vret C hr hlk ⟨rfl, ⟨by rw [hM2, mq_up_s]; simp, h2, by simp; omega, h4, fun x hx => by
        rcases List.mem_append.mp hx with h9 | h9
        · exact h5 x h9
        · rw [List.mem_singleton.mp h9]; exact hv, upd f d.length (zI (v : Int)), by rw [hM2, mq_up_n (Ne.symm h2), hM1]; exact mq_up_s, mq_add_upd h7⟩, (mq_F.up hM1 (by simp)).tr (mq_F.up hM2 (by simp))⟩ (by omega) (by omega) dX0_add_39
set_option maxHeartbeats 4000000 in
set_option maxRecDepth 100000 in
theorem c_addWord (l : Launch) (G : mq_G) (b a n : Nat) (d : List Nat) (M : mq_M) (hB : bI G M b a n d) (v : Nat) (hv : v < 65536) (hroom : d.length + 1 < n) : mq_T l yX0_addWord wsX0_addWord { frames := 1, cells := 0, slots := 0, locals := 21 } G [.ref b, .int (zI (v : Int))] M (mq_pv (fun M2 => bI G M2 b a n (d ++ [v / 256, v % 256]) ∧ mq_F [b, a] M M2)) 0 0 := by
  refine mq_Met.of (cc := cX0_addWord) (maxL := 2) (ret := none) (by decide) rfl (Nat.le_of_ble_eq_true rfl) rfl rfl ?_
  intro p_ e_ s_ m_ args_ below_ meth_ c_ z_ C hr hlk hname
  refine xr_aload_n C dX0_addWord_0 rfl ?_
  refine xr_iload_n C dX0_addWord_1 rfl ?_
  refine xr_sipush (n := 256) C dX0_addWord_2 (by decide +kernel) ?_
  refine xr_idiv C dX0_addWord_5 (by omega) (by omega) ?_
  refine xr_callV1v C (c_add l G b a n d M hB (v / 256) (by omega) (by omega)) (cwV 1 C.1.2.2.2.2 gX0_addWord_X0_add rfl rfl rfl (by decide +kernel) ⟨Nat.le_of_ble_eq_true rfl, Nat.le_of_ble_eq_true rfl⟩) hB.1 rfl (Nat.le_of_ble_eq_true rfl) ⟨by dsimp only; omega, by dsimp only; omega⟩ dX0_addWord_6 (fun M1 hp1 => ?_)
  obtain ⟨hB1, hF1⟩ := hp1
  refine xr_aload_n C dX0_addWord_9 rfl ?_
  refine xr_iload_n C dX0_addWord_10 rfl ?_
  refine xr_sipush (n := 256) C dX0_addWord_11 (by decide +kernel) ?_
  refine xr_irem C dX0_addWord_14 (by omega) (by omega) ?_
  refine xr_callV1v C (c_add l G b a n _ M1 hB1 (v % 256) (by omega) (by simp; omega)) (cwV 1 C.1.2.2.2.2 gX0_addWord_X0_add rfl rfl rfl (by decide +kernel) ⟨Nat.le_of_ble_eq_true rfl, Nat.le_of_ble_eq_true rfl⟩) hB1.1 rfl (Nat.le_of_ble_eq_true rfl) ⟨by dsimp only; omega, by dsimp only; omega⟩ dX0_addWord_15 (fun M2 hp2 => ?_)
  obtain ⟨hB2, hF2⟩ := hp2
  exact xr_vret C hr hlk ⟨rfl, by simpa using hB2, hF1.tr hF2⟩ (by omega) (by omega) dX0_addWord_18
set_option maxHeartbeats 4000000 in
set_option maxRecDepth 100000 in
theorem c_clear (l : Launch) (G : mq_G) (b a n : Nat) (d : List Nat) (M : mq_M) (hB : bI G M b a n d) : mq_T l yX0_clear wsX0_clear { frames := 0, cells := 0, slots := 0, locals := 0 } G [.ref b] M (mq_pv (fun M2 => bI G M2 b a n [] ∧ mq_F [b] M M2)) 0 0 := by
  refine mq_Met.of (cc := cX0_clear) (maxL := 1) (ret := none) (by decide) rfl (Nat.le_of_ble_eq_true rfl) rfl rfl ?_
  intro p_ e_ s_ m_ args_ below_ meth_ c_ z_ C hr hlk hname
  obtain ⟨h1, h2, h3, h4, h5, f, h6, h7⟩ := hB
  refine xr_aload_n C dX0_clear_0 rfl ?_
  refine xr_iconst (n := 0) C dX0_clear_1 (by decide +kernel) ?_
  refine xr_put C (Cn := RX0) (T := TX0) (N := 2) (by decide +kernel) h1 rfl 1 (by decide) tyX0 tyX0_ok nmX0 (C.1.2.2.2.2 (.fieldLink RX0 13 "OssuaryVault$Bytes" "size" "I") (by decide +kernel)) (fun _ h => h) rfl (tyX0_ok 1 (by decide)) rfl rfl (Nat.le_of_ble_eq_true rfl) dX0_clear_2 ?_
  refine mq_ren (fun M1 hM1 => ?_)
  exact xr_vret C hr hlk ⟨rfl, ⟨by rw [hM1, mq_up_s]; rfl, h2, Nat.zero_le _, h4, (fun x hx => by cases hx), f, by rw [hM1, mq_up_n (Ne.symm h2)]; exact h6, fun i hi => by cases hi⟩, mq_F.up hM1 List.mem_cons_self⟩ (by omega) (by omega) dX0_clear_5
set_option maxHeartbeats 4000000 in
set_option maxRecDepth 100000 in
theorem c_shorten (l : Launch) (G : mq_G) (b a n : Nat) (d : List Nat) (M : mq_M) (hB : bI G M b a n d) (k : Nat) (hk : k ≤ d.length) : mq_T l yX0_shorten wsX0_shorten { frames := 0, cells := 0, slots := 0, locals := 0 } G [.ref b, .int (zI (k : Int))] M (mq_pv (fun M2 => bI G M2 b a n (d.take k) ∧ mq_F [b] M M2)) 0 0 := by
  refine mq_Met.of (cc := cX0_shorten) (maxL := 2) (ret := none) (by decide) rfl (Nat.le_of_ble_eq_true rfl) rfl rfl ?_
  intro p_ e_ s_ m_ args_ below_ meth_ c_ z_ C hr hlk hname
  obtain ⟨h1, h2, h3, h4, h5, f, h6, h7⟩ := hB
  refine xr_iload_n C dX0_shorten_0 rfl ?_
  refine xr_if_lt C dX0_shorten_1 rfl (by first | omega | (dsimp only; omega)) (fun hq => absurd hq (by omega)) (fun _ => ?_)
  refine xr_iload_n C dX0_shorten_4 rfl ?_
  refine xr_aload_n C dX0_shorten_5 rfl ?_
  refine xr_get C (Cn := RX0) (T := TX0) (N := 2) (by decide +kernel) h1 rfl 1 (by decide) (C.1.2.2.2.2 (.fieldLink RX0 13 "OssuaryVault$Bytes" "size" "I") (by decide +kernel)) (fun _ h => h) rfl dX0_shorten_6 ?_
  refine xr_icmp_ge C dX0_shorten_9 rfl (by first | omega | (dsimp only; omega)) (by first | omega | (dsimp only; omega)) (fun hq1 => ?_) (fun hq1 => ?_)
  · exact xr_vret C hr hlk ⟨rfl, by rw [List.take_of_length_le (by omega)]; exact ⟨h1, h2, h3, h4, h5, f, h6, h7⟩, mq_F.rf⟩ (by omega) (by omega) dX0_shorten_17
  · refine xr_aload_n C dX0_shorten_12 rfl ?_
    refine xr_iload_n C dX0_shorten_13 rfl ?_
    refine xr_put C (Cn := RX0) (T := TX0) (N := 2) (by decide +kernel) h1 rfl 1 (by decide) tyX0 tyX0_ok nmX0 (C.1.2.2.2.2 (.fieldLink RX0 13 "OssuaryVault$Bytes" "size" "I") (by decide +kernel)) (fun _ h => h) rfl (tyX0_ok 1 (by decide)) rfl rfl (Nat.le_of_ble_eq_true rfl) dX0_shorten_14 ?_
    refine mq_ren (fun M2 hM2 => ?_)
    exact xr_vret C hr hlk ⟨rfl, ⟨by rw [hM2, mq_up_s, List.length_take, Nat.min_eq_left hk]; rfl, h2, by rw [List.length_take]; omega, h4, fun x hx => h5 x (List.mem_of_mem_take hx), f, by rw [hM2, mq_up_n (Ne.symm h2)]; exact h6, fun i hi => by
          rw [List.length_take] at hi
          rw [h7 i (by omega), List.getD_eq_getElem?_getD, List.getD_eq_getElem?_getD, List.getElem?_take_of_lt (by omega)]⟩, mq_F.up hM2 List.mem_cons_self⟩ (by omega) (by omega) dX0_shorten_17
set_option maxHeartbeats 4000000 in
set_option maxRecDepth 100000 in
theorem c_addTimes (l : Launch) (G : mq_G) (b a n : Nat) (d : List Nat) (M : mq_M) (hB : bI G M b a n d) (v : Nat) (hv : v < 256) (t : Nat) (hroom : d.length + t ≤ n) : mq_T l yX0_addTimes wsX0_addTimes { frames := 1, cells := 0, slots := 0, locals := 21 } G [.ref b, .int (zI (v : Int)), .int (zI (t : Int))] M (mq_pv (fun M2 => bI G M2 b a n (d ++ List.replicate t v) ∧ mq_F [b, a] M M2)) 0 0 := by
  refine mq_Met.of (cc := cX0_addTimes) (maxL := 4) (ret := none) (by decide) rfl (Nat.le_of_ble_eq_true rfl) rfl rfl ?_
  intro p_ e_ s_ m_ args_ below_ meth_ c_ z_ C hr hlk hname
  have hn : n ≤ 50000 := hB.2.2.2.1
  refine xr_iconst (n := 0) C dX0_addTimes_0 (by decide +kernel) ?_
  refine xr_istore_n C dX0_addTimes_1 (by decide) rfl ?_
  refine mq_loop (σ := Nat × mq_M) (fun x => x.1 ≤ t ∧ bI G x.2 b a n (d ++ List.replicate x.1 v) ∧ mq_F [b, a] M x.2) (fun x => t - x.1) (fun x => x.2) (fun x => [some (.ref b), some (.int (zI (v : Int))), some (.int (zI (t : Int))), some (.int (zI (x.1 : Int)))]) (fun x => []) ?_ (0, M) ⟨Nat.zero_le _, by simpa using hB, mq_F.rf⟩
  rintro ⟨i, M0⟩ ⟨hi, hB0, hF0⟩ ih
  dsimp only at hi hB0 hF0 ih ⊢
  refine xr_iload_n C dX0_addTimes_2 rfl ?_
  refine xr_iload_n C dX0_addTimes_3 rfl ?_
  refine xr_icmp_ge C dX0_addTimes_4 rfl (by first | omega | (dsimp only; omega)) (by first | omega | (dsimp only; omega)) (fun hq1 => ?_) (fun hq1 => ?_)
  · exact xr_vret C hr hlk ⟨rfl, by rw [show t = i by omega]; exact hB0, hF0⟩ (by omega) (by omega) dX0_addTimes_18
  · refine xr_aload_n C dX0_addTimes_7 rfl ?_
    refine xr_iload_n C dX0_addTimes_8 rfl ?_
    refine xr_callV1v C (c_add l G b a n _ M0 hB0 v hv (by simp; omega)) (cwV 1 C.1.2.2.2.2 gX0_addTimes_X0_add rfl rfl rfl (by decide +kernel) ⟨Nat.le_of_ble_eq_true rfl, Nat.le_of_ble_eq_true rfl⟩) hB0.1 rfl (Nat.le_of_ble_eq_true rfl) ⟨by dsimp only; omega, by dsimp only; omega⟩ dX0_addTimes_9 (fun M1 hp1 => ?_)
    obtain ⟨hB1, hF1⟩ := hp1
    refine xr_iinc C dX0_addTimes_12 rfl (by decide) rfl ?_
    refine xr_goto C dX0_addTimes_15 rfl ?_
    exact ih (i + 1, M1) ⟨by dsimp only; omega, by rw [List.replicate_succ', ← List.append_assoc]; exact hB1, hF0.tr hF1⟩ (by dsimp only; omega)
set_option maxHeartbeats 4000000 in
set_option maxRecDepth 100000 in
theorem c_addPart (l : Launch) (G : mq_G) (b a n : Nat) (d : List Nat) (M : mq_M) (hB : bI G M b a n d) (b2 a2 n2 : Nat) (d2 : List Nat) (hB2 : bI G M b2 a2 n2 d2) (hx : b2 ≠ b ∧ b2 ≠ a ∧ a2 ≠ b ∧ a2 ≠ a) (k : Int) (t : Nat) (hk : -100000 ≤ k ∧ k < 1000000) (hroom : d.length + t ≤ n) : mq_T l yX0_addPart wsX0_addPart { frames := 1, cells := 0, slots := 0, locals := 21 } G [.ref b, .ref b2, .int (zI k), .int (zI (t : Int))] M (mq_pv (fun M2 => bI G M2 b a n (d ++ mq_part d2 k t) ∧ mq_F [b, a] M M2)) 0 0 := by
  refine mq_Met.of (cc := cX0_addPart) (maxL := 5) (ret := none) (by decide) rfl (Nat.le_of_ble_eq_true rfl) rfl rfl ?_
  intro p_ e_ s_ m_ args_ below_ meth_ c_ z_ C hr hlk hname
  have hn : n ≤ 50000 := hB.2.2.2.1
  refine xr_iconst (n := 0) C dX0_addPart_0 (by decide +kernel) ?_
  refine xr_istore C dX0_addPart_1 (by decide) rfl ?_
  refine mq_loop (σ := Nat × mq_M) (fun x => x.1 ≤ t ∧ bI G x.2 b a n (d ++ mq_part d2 k x.1) ∧ mq_F [b, a] M x.2) (fun x => t - x.1) (fun x => x.2) (fun x => [some (.ref b), some (.ref b2), some (.int (zI k)), some (.int (zI (t : Int))), some (.int (zI (x.1 : Int)))]) (fun x => []) ?_ (0, M) ⟨Nat.zero_le _, by simpa [mq_part] using hB, mq_F.rf⟩
  rintro ⟨i, M0⟩ ⟨hi, hB0, hF0⟩ ih
  dsimp only at hi hB0 hF0 ih ⊢
  have hB3 : bI G M0 b2 a2 n2 d2 := hB2.fr hF0 (by simp [hx]) (by simp [hx])
  refine xr_iload C dX0_addPart_3 rfl ?_
  refine xr_iload_n C dX0_addPart_5 rfl ?_
  refine xr_icmp_ge C dX0_addPart_6 rfl (by first | omega | (dsimp only; omega)) (by first | omega | (dsimp only; omega)) (fun hq1 => ?_) (fun hq1 => ?_)
  · exact xr_vret C hr hlk ⟨rfl, by rw [show t = i by omega]; exact hB0, hF0⟩ (by omega) (by omega) dX0_addPart_27
  · refine xr_aload_n C dX0_addPart_9 rfl ?_
    refine xr_aload_n C dX0_addPart_10 rfl ?_
    refine xr_iload_n C dX0_addPart_11 rfl ?_
    refine xr_iload C dX0_addPart_12 rfl ?_
    refine xr_iadd C dX0_addPart_14 ?_
    refine xr_callV1i C (c_at l G b2 a2 n2 d2 M0 hB3 (k + (i : Int)) (by omega)) (cwV 1 C.1.2.2.2.2 gX0_addPart_X0_at rfl rfl rfl (by decide +kernel) ⟨Nat.le_of_ble_eq_true rfl, Nat.le_of_ble_eq_true rfl⟩) hB3.1 rfl (Nat.le_of_ble_eq_true rfl) ⟨by dsimp only; omega, by dsimp only; omega⟩ dX0_addPart_15 (fun r2 M9 hp9 => ?_)
    obtain ⟨rfl, rfl⟩ := hp9
    refine xr_callV1v C (c_add l G b a n _ M0 hB0 (mq_gd d2 (k + (i : Int))) (mq_gd_lt hB3.2.2.2.2.1 _) (by simp [mq_part]; omega)) (cwV 1 C.1.2.2.2.2 gX0_addPart_X0_add rfl rfl rfl (by decide +kernel) ⟨Nat.le_of_ble_eq_true rfl, Nat.le_of_ble_eq_true rfl⟩) hB0.1 rfl (Nat.le_of_ble_eq_true rfl) ⟨by dsimp only; omega, by dsimp only; omega⟩ dX0_addPart_18 (fun M1 hp1 => ?_)
    obtain ⟨hB1, hF1⟩ := hp1
    refine xr_iinc C dX0_addPart_21 rfl (by decide) rfl ?_
    refine xr_goto C dX0_addPart_24 rfl ?_
    exact ih (i + 1, M1) ⟨by dsimp only; omega, by rw [mq_part_s, ← List.append_assoc]; exact hB1, hF0.tr hF1⟩ (by dsimp only; omega)
set_option maxHeartbeats 4000000 in
set_option maxRecDepth 100000 in
theorem c_fillFrom (l : Launch) (G : mq_G) (b a n : Nat) (d : List Nat) (M : mq_M) (hB : bI G M b a n d) (b2 a2 n2 : Nat) (d2 : List Nat) (hB2 : bI G M b2 a2 n2 d2) (hx : b2 ≠ b ∧ b2 ≠ a ∧ a2 ≠ b ∧ a2 ≠ a) (hroom : d2.length ≤ n) : mq_T l yX0_fillFrom wsX0_fillFrom { frames := 2, cells := 0, slots := 0, locals := 45 } G [.ref b, .ref b2] M (mq_pv (fun M2 => bI G M2 b a n d2 ∧ mq_F [b, a] M M2)) 0 0 := by
  refine mq_Met.of (cc := cX0_fillFrom) (maxL := 2) (ret := none) (by decide) rfl (Nat.le_of_ble_eq_true rfl) rfl rfl ?_
  intro p_ e_ s_ m_ args_ below_ meth_ c_ z_ C hr hlk hname
  have hn2 : d2.length ≤ 50000 := Nat.le_trans hB2.2.2.1 hB2.2.2.2.1
  refine xr_aload_n C dX0_fillFrom_0 rfl ?_
  refine xr_aload_n C dX0_fillFrom_1 rfl ?_
  refine xr_acmp_eq_n C dX0_fillFrom_2 rfl (Ne.symm hx.1) ?_
  refine xr_aload_n C dX0_fillFrom_5 rfl ?_
  refine xr_callV0v C (c_clear l G b a n d M hB) (cwV 0 C.1.2.2.2.2 gX0_fillFrom_X0_clear rfl rfl rfl (by decide +kernel) ⟨Nat.le_of_ble_eq_true rfl, Nat.le_of_ble_eq_true rfl⟩) hB.1 rfl (Nat.le_of_ble_eq_true rfl) ⟨by dsimp only; omega, by dsimp only; omega⟩ dX0_fillFrom_6 (fun M1 hp1 => ?_)
  obtain ⟨hB1, hF1⟩ := hp1
  have hB3 : bI G M1 b2 a2 n2 d2 := hB2.fr hF1 (by simp [hx]) (by simp [hx])
  refine xr_aload_n C dX0_fillFrom_9 rfl ?_
  refine xr_aload_n C dX0_fillFrom_10 rfl ?_
  refine xr_iconst (n := 0) C dX0_fillFrom_11 (by decide +kernel) ?_
  refine xr_aload_n C dX0_fillFrom_12 rfl ?_
  refine xr_callV0i C (c_size l G b2 a2 n2 d2 M1 hB3) (cwV 0 C.1.2.2.2.2 gX0_fillFrom_X0_size rfl rfl rfl (by decide +kernel) ⟨Nat.le_of_ble_eq_true rfl, Nat.le_of_ble_eq_true rfl⟩) hB3.1 rfl (Nat.le_of_ble_eq_true rfl) ⟨by dsimp only; omega, by dsimp only; omega⟩ dX0_fillFrom_13 (fun r1 M9 hp9 => ?_)
  obtain ⟨rfl, rfl⟩ := hp9
  refine xr_callV3v C (c_addPart l G b a n _ M1 hB1 b2 a2 n2 d2 hB3 hx 0 d2.length (by omega) (by simp; exact hroom)) (cwV 3 C.1.2.2.2.2 gX0_fillFrom_X0_addPart rfl rfl rfl (by decide +kernel) ⟨Nat.le_of_ble_eq_true rfl, Nat.le_of_ble_eq_true rfl⟩) hB1.1 rfl (Nat.le_of_ble_eq_true rfl) ⟨by dsimp only; omega, by dsimp only; omega⟩ dX0_fillFrom_16 (fun M2 hp2 => ?_)
  obtain ⟨hB4, hF2⟩ := hp2
  exact xr_vret C hr hlk ⟨rfl, by rw [mq_part_all] at hB4; simpa using hB4, (hF1.mono (by simp)).tr hF2⟩ (by omega) (by omega) dX0_fillFrom_19
set_option maxHeartbeats 4000000 in
set_option maxRecDepth 100000 in
theorem c_sameAs (l : Launch) (G : mq_G) (b a n : Nat) (d : List Nat) (M : mq_M) (hB : bI G M b a n d) (b2 a2 n2 : Nat) (d2 : List Nat) (hB2 : bI G M b2 a2 n2 d2) : mq_T l yX0_sameAs wsX0_sameAs { frames := 1, cells := 0, slots := 0, locals := 21 } G [.ref b, .ref b2] M (mq_ri M (if d = d2 then 1 else 0)) 0 0 := by
  refine mq_Met.of (cc := cX0_sameAs) (maxL := 3) (ret := (some .boolean)) (by decide) rfl (Nat.le_of_ble_eq_true rfl) rfl rfl ?_
  intro p_ e_ s_ m_ args_ below_ meth_ c_ z_ C hr hlk hname
  have hn1 : d.length ≤ 50000 := Nat.le_trans hB.2.2.1 hB.2.2.2.1
  have hn2 : d2.length ≤ 50000 := Nat.le_trans hB2.2.2.1 hB2.2.2.2.1
  refine xr_aload_n C dX0_sameAs_0 rfl ?_
  refine xr_get C (Cn := RX0) (T := TX0) (N := 2) (by decide +kernel) hB.1 rfl 1 (by decide) (C.1.2.2.2.2 (.fieldLink RX0 13 "OssuaryVault$Bytes" "size" "I") (by decide +kernel)) (fun _ h => h) rfl dX0_sameAs_1 ?_
  refine xr_aload_n C dX0_sameAs_4 rfl ?_
  refine xr_callV0i C (c_size l G b2 a2 n2 d2 M hB2) (cwV 0 C.1.2.2.2.2 gX0_sameAs_X0_size rfl rfl rfl (by decide +kernel) ⟨Nat.le_of_ble_eq_true rfl, Nat.le_of_ble_eq_true rfl⟩) hB2.1 rfl (Nat.le_of_ble_eq_true rfl) ⟨by dsimp only; omega, by dsimp only; omega⟩ dX0_sameAs_5 (fun r1 M9 hp9 => ?_)
  obtain ⟨rfl, rfl⟩ := hp9
  refine xr_icmp_eq C dX0_sameAs_8 rfl (by first | omega | (dsimp only; omega)) (by first | omega | (dsimp only; omega)) (fun hq2 => ?_) (fun hq2 => ?_)
  · refine xr_iconst (n := 0) C dX0_sameAs_13 (by decide +kernel) ?_
    refine xr_istore_n C dX0_sameAs_14 (by decide) rfl ?_
    refine mq_loop (σ := Nat) (fun x => x ≤ d.length ∧ ∀ j, j < x → d.getD j 0 = d2.getD j 0) (fun x => d.length - x) (fun x => M) (fun x => [some (.ref b), some (.ref b2), some (.int (zI (x : Int)))]) (fun x => []) ?_ 0 ⟨Nat.zero_le _, fun j hj => by omega⟩
    rintro i ⟨hi, hs⟩ ih
    dsimp only at ih ⊢
    refine xr_iload_n C dX0_sameAs_15 rfl ?_
    refine xr_aload_n C dX0_sameAs_16 rfl ?_
    refine xr_get C (Cn := RX0) (T := TX0) (N := 2) (by decide +kernel) hB.1 rfl 1 (by decide) (C.1.2.2.2.2 (.fieldLink RX0 13 "OssuaryVault$Bytes" "size" "I") (by decide +kernel)) (fun _ h => h) rfl dX0_sameAs_17 ?_
    refine xr_icmp_ge C dX0_sameAs_20 rfl (by first | omega | (dsimp only; omega)) (by first | omega | (dsimp only; omega)) (fun hq3 => ?_) (fun hq3 => ?_)
    · refine xr_iconst (n := 1) C dX0_sameAs_44 (by decide +kernel) ?_
      exact xr_zret C hr (by decide +kernel) hlk ⟨_, rfl, by rw [if_pos (mq_same (by omega) (fun j hj => hs j (by omega)))], rfl⟩ (by omega) (by omega) dX0_sameAs_45
    · refine xr_aload_n C dX0_sameAs_23 rfl ?_
      refine xr_iload_n C dX0_sameAs_24 rfl ?_
      refine xr_callV1i C (c_at l G b a n d M hB (i : Int) (by omega)) (cwV 1 C.1.2.2.2.2 gX0_sameAs_X0_at rfl rfl rfl (by decide +kernel) ⟨Nat.le_of_ble_eq_true rfl, Nat.le_of_ble_eq_true rfl⟩) hB.1 rfl (Nat.le_of_ble_eq_true rfl) ⟨by dsimp only; omega, by dsimp only; omega⟩ dX0_sameAs_25 (fun r4 M9 hp9 => ?_)
      obtain ⟨rfl, rfl⟩ := hp9
      refine xr_aload_n C dX0_sameAs_28 rfl ?_
      refine xr_iload_n C dX0_sameAs_29 rfl ?_
      refine xr_callV1i C (c_at l G b2 a2 n2 d2 M hB2 (i : Int) (by omega)) (cwV 1 C.1.2.2.2.2 gX0_sameAs_X0_at rfl rfl rfl (by decide +kernel) ⟨Nat.le_of_ble_eq_true rfl, Nat.le_of_ble_eq_true rfl⟩) hB2.1 rfl (Nat.le_of_ble_eq_true rfl) ⟨by dsimp only; omega, by dsimp only; omega⟩ dX0_sameAs_30 (fun r5 M9 hp9 => ?_)
      obtain ⟨rfl, rfl⟩ := hp9
      have g1 := mq_gd_lt hB.2.2.2.2.1 (i : Int)
      have g2 := mq_gd_lt hB2.2.2.2.2.1 (i : Int)
      refine xr_icmp_eq C dX0_sameAs_33 rfl (by first | omega | (dsimp only; omega)) (by first | omega | (dsimp only; omega)) (fun hq6 => ?_) (fun hq6 => ?_)
      · refine xr_iinc C dX0_sameAs_38 rfl (by decide) rfl ?_
        refine xr_goto C dX0_sameAs_41 rfl ?_
        exact ih (i + 1) ⟨by omega, fun j hj => by
          by_cases hji : j = i
          · subst hji
            rw [mq_gd_nat, mq_gd_nat] at hq6
            omega
          · exact hs j (by omega)⟩ (by omega)
      · refine xr_iconst (n := 0) C dX0_sameAs_36 (by decide +kernel) ?_
        exact xr_zret C hr (by decide +kernel) hlk ⟨_, rfl, by rw [if_neg (fun q => by rw [q] at hq6; omega)], rfl⟩ (by omega) (by omega) dX0_sameAs_37
  · refine xr_iconst (n := 0) C dX0_sameAs_11 (by decide +kernel) ?_
    exact xr_zret C hr (by decide +kernel) hlk ⟨_, rfl, by rw [if_neg (fun q => by rw [q] at hq2; omega)], rfl⟩ (by omega) (by omega) dX0_sameAs_12
