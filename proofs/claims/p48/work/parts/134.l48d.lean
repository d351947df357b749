/-! ===== p48: a file is stored ===== -/
theorem va_up_some {f : Nat → Option Nat} {i q t p : Nat} (h : va_up f i (some q) t = some p) : p = q ∨ f t = some p := by
  unfold va_up at h
  split at h
  · exact Or.inl (by injection h with h; exact h.symm)
  · exact Or.inr h
theorem va_up_no {f : Nat → Option Nat} {i t p : Nat} (h : va_up f i none t = some p) : f t = some p := by
  unfold va_up at h
  split at h
  · cases h
  · exact h
theorem dkOf_mem {n : Nat} {ky : Nat → Nat} {v : Nat} (hv : v < n) (hs : ∀ i j, i < j → j < n → ky i < ky j) : 0 ≤ dkOf n ky (ky v) := by
  obtain ⟨h1, h2⟩ := dkPl_spec (n := n) (ky := ky) (k := ky v)
  have h3 : dkPl n ky (ky v) ≤ v := by
    by_cases hc : v < dkPl n ky (ky v)
    · have := h1 v hc; omega
    · omega
  have h4 := h2 (by omega)
  have h5 : dkPl n ky (ky v) = v := by
    by_cases hc : dkPl n ky (ky v) < v
    · have := hs _ _ hc hv; omega
    · omega
  unfold dkOf
  rw [h5, if_pos ⟨hv, rfl⟩]
  omega
theorem vtI.srt {G : mq_G} {M : mq_M} {La : Nat → Nat} {sh : List Nat} {k : vtD} {h : Nat → Bool} {d : Nat → List Nat} {r : vtR} (hv : vtI G M La sh k h d r) : ∀ i j, i < j → j < k.1 → k.2.1 i < k.2.1 j := by
  obtain ⟨-, -, -, -, -, ⟨pf, ⟨-, -, -, -, a⟩, -⟩, -⟩ := hv
  exact a
set_option maxHeartbeats 4000000 in
set_option maxRecDepth 100000 in
theorem s_put {p : Program} {e : Env} {s : State} {m : MethodId} {args : Array Value} {below : List Frame} {meth : Method} {c : Code} {Q : State → Prop} {z : Nat} (l : Launch) (G : mq_G) (b sn : Nat) (sx : Nat → Int32) (hG : qG G b sn sx) (hA : pA G) (hsn : sn < 1000) (La : Nat → Nat) (x ka ca : Nat) (hB : ldB La x ka ca) (k : vtD) (h : Nat → Bool) (d : Nat → List Nat) (r : vtR) (sh : List Nat) (dr : Int) (q key i : Nat) (hkey : key < 65536) (M : mq_M) (fl : Nat) (ky : Nat → Int32) (f : Nat → Option Nat) (hC : ldC G M La x b ka ca sh k h d r dr fl ky f) (hq : cR G M La q) (hi : i < 17) (hroom : k.1 < 16 ∨ 0 ≤ dkOf k.1 k.2.1 key) (hfl : fl = if 0 ≤ dkOf k.1 k.2.1 key then k.1 else k.1 + 1) (hky : ∀ kk : vtD, (if 0 ≤ dkOf k.1 k.2.1 key then kk.2.1 = k.2.1 else ∀ j, j < k.1 + 1 → kk.2.1 j = fnI k.2.1 (dkPl k.1 k.2.1 key) key j) → ∀ t, t < fl → upd ky i (zI (key : Int)) t = zI (kk.2.1 t : Int)) (C : mq_C p m c cX12_store 6 s args wsX12_store RX12 G.1.1 (mq_tys G) z) (cells slots : Nat) (hc : cells ≤ 2) (hs : slots ≤ 300) (kk : ∀ (M2 : mq_M) (k2 : vtD) (dr2 : Int) (L2 : List (Option Value)), (dr ≤ dr2 ∧ dr2 ≤ dr + 4) → ldA G M2 La x b ka ca [] k2 h d r dr2 → mq_X p l e { frames := 7, cells := 2, slots := 300, locals := 157 } s m args below meth c Q 6 G.1.1 z s.heap cells slots M2 205 L2 [.int (zI 1)]) : mq_X p l e { frames := 7, cells := 2, slots := 300, locals := 157 } s m args below meth c Q 6 G.1.1 z s.heap cells slots M 169 [some (.ref x), some (.int (zI 60)), some (.ref q), some (.int (zI (key : Int))), some (.int (zI (i : Int))), none] [] := by
  have hold := hG.old C
  have ld := hC.2.1
  refine xr_aload_n C dX12_store_169 rfl ?_
  refine xr_get C (Cn := RX12) (T := TX12) (N := 6) (by decide +kernel) ld rfl 4 (by decide) (C.1.2.2.2.2 (.fieldLink RX12 16 "OssuaryVaultLaw$Desk" "keys" "[I") (by decide +kernel)) (fun _ h => h) rfl dX12_store_170 ?_
  refine xr_iload C dX12_store_173 rfl ?_
  refine xr_iload_n C dX12_store_175 rfl ?_
  refine xr_iast C hC.2.2.1 mq_tI (by omega) (by omega) (by omega) dX12_store_176 ?_
  refine mq_ren (fun M1 hM1 => ?_)
  have hC1 : ldC G M1 La x b ka ca sh k h d r dr fl (upd ky i (zI (key : Int))) f := hC.key hB hM1
  have hq1 : cR G M1 La q := hq.mv (by
    by_cases hqk : q = ka
    · exact Or.inr ⟨17, upd ky i (zI (key : Int)), by rw [hM1, hqk]; exact mq_up_s⟩
    · exact Or.inl (by rw [hM1, mq_up_n hqk]))
  have ld1 := hC1.2.1
  obtain ⟨hqL, n2, g2, hq2⟩ := hq1
  refine xr_aload_n C dX12_store_177 rfl ?_
  refine xr_get C (Cn := RX12) (T := TX12) (N := 6) (by decide +kernel) ld1 rfl 5 (by decide) (C.1.2.2.2.2 (.fieldLink RX12 21 "OssuaryVaultLaw$Desk" "contents" "[[I") (by decide +kernel)) (fun _ h => h) rfl dX12_store_178 ?_
  refine xr_iload C dX12_store_181 rfl ?_
  refine xr_aload_n C dX12_store_183 rfl ?_
  refine xr_aastA C hC1.2.2.2.1 hA.A hold.2 hq2 mq_tI (by omega) (by omega) (by omega) dX12_store_184 ?_
  refine mq_ren (fun M2 hM2 => ?_)
  have hC2 : ldC G M2 La x b ka ca sh k h d r dr fl (upd ky i (zI (key : Int))) (va_up f i (some q)) := hC1.cont hB hM2 (fun t p hp => by
    rcases va_up_some hp with e | e
    · rw [e]; exact ⟨hqL, n2, g2, hq2⟩
    · exact hC1.2.2.2.2 t p e)
  have ld2 := hC2.2.1
  refine xr_aload_n C dX12_store_185 rfl ?_
  refine xr_get C (Cn := RX12) (T := TX12) (N := 6) (by decide +kernel) ld2 rfl 0 (by decide) (C.1.2.2.2.2 (.fieldLink RX12 10 "OssuaryVaultLaw$Desk" "m" "LOssuaryVault;") (by decide +kernel)) (fun _ h => h) rfl dX12_store_186 ?_
  refine xr_iload_n C dX12_store_189 rfl ?_
  refine xr_callV1i C (c_store l G La hB.1 sh k h d r _ hC2.1 key hkey hroom) (cwV 1 C.1.2.2.2.2 gX12_store_X11_store rfl rfl rfl (by decide +kernel) ⟨Nat.le_of_ble_eq_true rfl, Nat.le_of_ble_eq_true rfl⟩) hC2.1.1 rfl (Nat.le_of_ble_eq_true rfl) ⟨by dsimp only; omega, by dsimp only; omega⟩ dX12_store_190 (fun r9 M9 hp9 => ?_)
  obtain ⟨kk2, hk1, hk2, rfl, hV9, hF9⟩ := hp9
  have hC9 := hC2.vault hB hV9 hF9
  have e9 : fl = kk2.1 := by rw [hfl, hk1]
  have ld9 := hC9.2.1
  have hk16 := hV9.K.1
  refine xr_aload_n C dX12_store_193 rfl ?_
  refine xr_get C (Cn := RX12) (T := TX12) (N := 6) (by decide +kernel) ld9 rfl 3 (by decide) (C.1.2.2.2.2 (.fieldLink RX12 73 "OssuaryVaultLaw$Desk" "files" "I") (by decide +kernel)) (fun _ h => h) rfl dX12_store_194 ?_
  refine xr_icmp_ne C dX12_store_197 rfl (by omega) (by omega) (fun hq => absurd hq (by omega)) (fun _ => ?_)
  refine xr_iconst (n := 1) C dX12_store_200 (by decide +kernel) ?_
  refine xr_goto C dX12_store_201 rfl ?_
  exact kk _ kk2 dr _ ⟨Int.le_refl _, by omega⟩ ⟨upd ky i (zI (key : Int)), va_up f i (some q), by rw [← e9]; exact hC9, fun t ht => hky kk2 hk2 t (by omega)⟩
set_option maxHeartbeats 4000000 in
set_option maxRecDepth 100000 in
theorem s_absent {p : Program} {e : Env} {s : State} {m : MethodId} {args : Array Value} {below : List Frame} {meth : Method} {c : Code} {Q : State → Prop} {z : Nat} (l : Launch) (G : mq_G) (b sn : Nat) (sx : Nat → Int32) (hG : qG G b sn sx) (hA : pA G) (hsn : sn < 1000) (La : Nat → Nat) (x ka ca : Nat) (hB : ldB La x ka ca) (k : vtD) (h : Nat → Bool) (d : Nat → List Nat) (r : vtR) (sh : List Nat) (dr : Int) (q key i : Nat) (hkey : key < 65536) (M : mq_M) (hD : ldA G M La x b ka ca sh k h d r dr) (hq : cR G M La q) (hi : i ≤ k.1) (hk16 : k.1 < 16) (hpl : dkPl k.1 k.2.1 key = i) (hof : ¬ 0 ≤ dkOf k.1 k.2.1 key) (C : mq_C p m c cX12_store 6 s args wsX12_store RX12 G.1.1 (mq_tys G) z) (cells slots : Nat) (hc : cells ≤ 2) (hs : slots ≤ 300) (kk : ∀ (M2 : mq_M) (k2 : vtD) (dr2 : Int) (L2 : List (Option Value)), (dr ≤ dr2 ∧ dr2 ≤ dr + 4) → ldA G M2 La x b ka ca [] k2 h d r dr2 → mq_X p l e { frames := 7, cells := 2, slots := 300, locals := 157 } s m args below meth c Q 6 G.1.1 z s.heap cells slots M2 205 L2 [.int (zI 1)]) : mq_X p l e { frames := 7, cells := 2, slots := 300, locals := 157 } s m args below meth c Q 6 G.1.1 z s.heap cells slots M 108 [some (.ref x), some (.int (zI 60)), some (.ref q), some (.int (zI (key : Int))), some (.int (zI (i : Int))), none] [] := by
  have hold := hG.old C
  obtain ⟨ky, f, hC, hky⟩ := hD
  have ld := hC.2.1
  refine xr_aload_n C dX12_store_108 rfl ?_
  refine xr_get C (Cn := RX12) (T := TX12) (N := 6) (by decide +kernel) ld rfl 3 (by decide) (C.1.2.2.2.2 (.fieldLink RX12 73 "OssuaryVaultLaw$Desk" "files" "I") (by decide +kernel)) (fun _ h => h) rfl dX12_store_109 ?_
  refine xr_istore C dX12_store_112 (by decide) rfl ?_
  refine mq_eqL (L2 := [some (.ref x), some (.int (zI 60)), some (.ref q), some (.int (zI (key : Int))), some (.int (zI (i : Int))), some (.int (zI (k.1 : Int)))]) rfl rfl rfl rfl ?_
  refine mq_loop (σ := Nat × mq_M × (Nat → Int32) × (Nat → Option Nat)) (fun y => (i ≤ y.1 ∧ y.1 ≤ k.1) ∧ ldC G y.2.1 La x b ka ca sh k h d r dr k.1 y.2.2.1 y.2.2.2 ∧ cR G y.2.1 La q ∧ (∀ t, t < y.1 → y.2.2.1 t = zI (k.2.1 t : Int)) ∧ ∀ t, y.1 < t → t ≤ k.1 → y.2.2.1 t = zI (k.2.1 (t - 1) : Int)) (fun y => y.1) (fun y => y.2.1) (fun y => [some (.ref x), some (.int (zI 60)), some (.ref q), some (.int (zI (key : Int))), some (.int (zI (i : Int))), some (.int (zI (y.1 : Int)))]) (fun y => []) ?_ (k.1, M, ky, f) ⟨⟨hi, Nat.le_refl _⟩, hC, hq, hky, fun t h1 h2 => by omega⟩
  rintro ⟨j, M5, ky5, f5⟩ ⟨⟨hj1, hj2⟩, hC5, hq5, h5a, h5b⟩ ih
  dsimp only at hj1 hj2 hC5 hq5 h5a h5b ih ⊢
  have ld5 := hC5.2.1
  refine xr_iload C dX12_store_114 rfl ?_
  refine xr_iload C dX12_store_116 rfl ?_
  refine xr_icmp_le C dX12_store_118 rfl (by first | omega | (dsimp only; omega)) (by first | omega | (dsimp only; omega)) (fun hq1 => ?_) (fun hq1 => ?_)
  · obtain rfl : j = i := by omega
    refine xr_aload_n C dX12_store_159 rfl ?_
    refine xr_dup C dX12_store_160 rfl ?_
    refine xr_get C (Cn := RX12) (T := TX12) (N := 6) (by decide +kernel) ld5 rfl 3 (by decide) (C.1.2.2.2.2 (.fieldLink RX12 73 "OssuaryVaultLaw$Desk" "files" "I") (by decide +kernel)) (fun _ h => h) rfl dX12_store_161 ?_
    refine xr_iconst (n := 1) C dX12_store_164 (by decide +kernel) ?_
    refine xr_iadd C dX12_store_165 ?_
    refine xr_put C (Cn := RX12) (T := TX12) (N := 6) (by decide +kernel) ld5 rfl 3 (by decide) tyX12 tyX12_ok nmX12 (C.1.2.2.2.2 (.fieldLink RX12 73 "OssuaryVaultLaw$Desk" "files" "I") (by decide +kernel)) (fun _ h => h) rfl (tyX12_ok 3 (by decide)) rfl rfl (Nat.le_of_ble_eq_true rfl) dX12_store_166 ?_
    refine mq_ren (fun M2 hM2 => ?_)
    have hC6 : ldC G M2 La x b ka ca sh k h d r dr (k.1 + 1) ky5 f5 := hC5.draw hB (hM2.trans rfl)
    refine mq_drop 5 ?_
    refine s_put l G b sn sx hG hA hsn La x ka ca hB k h d r sh dr q key j hkey M2 (k.1 + 1) ky5 f5 hC6 (hq5.mv (Or.inl (by rw [hM2, mq_up_n (hq5.nx ld5)]))) (by omega) (Or.inl hk16) (by rw [if_neg hof]) (fun kk9 h9 t ht => ?_) C cells slots hc hs kk
    rw [if_neg hof] at h9
    rw [h9 t ht, hpl]
    unfold upd fnI
    by_cases h1 : t = j
    · rw [if_pos h1, if_neg (by omega), if_pos h1]
    · rw [if_neg h1]
      by_cases h2 : t < j
      · rw [if_pos h2]; exact h5a t h2
      · rw [if_neg h2, if_neg h1]; exact h5b t (by omega) (by omega)
  · have hj : i < j := by omega
    refine xr_aload_n C dX12_store_121 rfl ?_
    refine xr_get C (Cn := RX12) (T := TX12) (N := 6) (by decide +kernel) ld5 rfl 4 (by decide) (C.1.2.2.2.2 (.fieldLink RX12 16 "OssuaryVaultLaw$Desk" "keys" "[I") (by decide +kernel)) (fun _ h => h) rfl dX12_store_122 ?_
    refine xr_iload C dX12_store_125 rfl ?_
    refine xr_aload_n C dX12_store_127 rfl ?_
    refine xr_get C (Cn := RX12) (T := TX12) (N := 6) (by decide +kernel) ld5 rfl 4 (by decide) (C.1.2.2.2.2 (.fieldLink RX12 16 "OssuaryVaultLaw$Desk" "keys" "[I") (by decide +kernel)) (fun _ h => h) rfl dX12_store_128 ?_
    refine xr_iload C dX12_store_131 rfl ?_
    refine xr_iconst (n := 1) C dX12_store_133 (by decide +kernel) ?_
    refine xr_isub C dX12_store_134 ?_
    refine xr_iald C hC5.2.2.1 mq_tI (by omega) (by omega) (by omega) dX12_store_135 ?_
    rw [show ky5 ((j : Int) - 1).toNat = zI (k.2.1 (j - 1) : Int) by rw [show ((j : Int) - 1).toNat = j - 1 by omega]; exact h5a _ (by omega)]
    refine xr_iast C hC5.2.2.1 mq_tI (by omega) (by omega) (by omega) dX12_store_136 ?_
    refine mq_ren (fun M3 hM3 => ?_)
    have hC1 : ldC G M3 La x b ka ca sh k h d r dr k.1 (upd ky5 j (zI (k.2.1 (j - 1) : Int))) f5 := hC5.key hB hM3
    have hq1 : cR G M3 La q := hq5.mv (by
      by_cases hqk : q = ka
      · exact Or.inr ⟨17, upd ky5 j (zI (k.2.1 (j - 1) : Int)), by rw [hM3, hqk]; exact mq_up_s⟩
      · exact Or.inl (by rw [hM3, mq_up_n hqk]))
    have ld1 := hC1.2.1
    refine xr_aload_n C dX12_store_137 rfl ?_
    refine xr_get C (Cn := RX12) (T := TX12) (N := 6) (by decide +kernel) ld1 rfl 5 (by decide) (C.1.2.2.2.2 (.fieldLink RX12 21 "OssuaryVaultLaw$Desk" "contents" "[[I") (by decide +kernel)) (fun _ h => h) rfl dX12_store_138 ?_
    refine xr_iload C dX12_store_141 rfl ?_
    refine xr_aload_n C dX12_store_143 rfl ?_
    refine xr_get C (Cn := RX12) (T := TX12) (N := 6) (by decide +kernel) ld1 rfl 5 (by decide) (C.1.2.2.2.2 (.fieldLink RX12 21 "OssuaryVaultLaw$Desk" "contents" "[[I") (by decide +kernel)) (fun _ h => h) rfl dX12_store_144 ?_
    refine xr_iload C dX12_store_147 rfl ?_
    refine xr_iconst (n := 1) C dX12_store_149 (by decide +kernel) ?_
    refine xr_isub C dX12_store_150 ?_
    refine xr_aaldA C hC1.2.2.2.1 hA.A (by omega) (by omega) (by omega) dX12_store_151 ?_
    rw [show ((j : Int) - 1).toNat = j - 1 by omega]
    have hent := hC1.2.2.2.2 (j - 1)
    cases hf : f5 (j - 1) with
    | none =>
      refine xr_aastN C hC1.2.2.2.1 hA.A rfl (by omega) (by omega) (by omega) dX12_store_152 ?_
      refine mq_ren (fun M4 hM4 => ?_)
      have hC2 : ldC G M4 La x b ka ca sh k h d r dr k.1 (upd ky5 j (zI (k.2.1 (j - 1) : Int))) (va_up f5 j none) := hC1.cont hB hM4 (fun t p hp => hC1.2.2.2.2 t p (va_up_no hp))
      refine xr_iinc C dX12_store_153 rfl (by decide) rfl ?_
      refine xr_goto C dX12_store_156 rfl ?_
      rw [show (j : Int) + -1 = ((j - 1 : Nat) : Int) by omega]
      have hq2 : cR G M4 La q := hq1.mv (Or.inl (by rw [hM4, mq_up_n (hq1.nc hC1.2.2.2.1)]))
      refine ih (j - 1, M4, upd ky5 j (zI (k.2.1 (j - 1) : Int)), va_up f5 j none) ⟨⟨by dsimp only; omega, by dsimp only; omega⟩, hC2, hq2, fun t ht => ?_, fun t h1 h2 => ?_⟩ (by dsimp only; omega)
      · dsimp only at ht ⊢
        unfold upd
        rw [if_neg (by omega)]
        exact h5a t (by omega)
      · dsimp only at h1 ⊢
        unfold upd
        by_cases h3 : t = j
        · rw [if_pos h3, h3]
        · rw [if_neg h3]; exact h5b t (by omega) h2
    | some p5 =>
      obtain ⟨hpL, n2, g2, hp2⟩ := hent p5 hf
      refine xr_aastA C hC1.2.2.2.1 hA.A hold.2 hp2 mq_tI (by omega) (by omega) (by omega) dX12_store_152 ?_
      refine mq_ren (fun M5 hM5 => ?_)
      have hC2 : ldC G M5 La x b ka ca sh k h d r dr k.1 (upd ky5 j (zI (k.2.1 (j - 1) : Int))) (va_up f5 j (some p5)) := hC1.cont hB hM5 (fun t p hp => by
        rcases va_up_some hp with e | e
        · rw [e]; exact ⟨hpL, n2, g2, hp2⟩
        · exact hC1.2.2.2.2 t p e)
      refine xr_iinc C dX12_store_153 rfl (by decide) rfl ?_
      refine xr_goto C dX12_store_156 rfl ?_
      rw [show (j : Int) + -1 = ((j - 1 : Nat) : Int) by omega]
      have hq2 : cR G M5 La q := hq1.mv (Or.inl (by rw [hM5, mq_up_n (hq1.nc hC1.2.2.2.1)]))
      refine ih (j - 1, M5, upd ky5 j (zI (k.2.1 (j - 1) : Int)), va_up f5 j (some p5)) ⟨⟨by dsimp only; omega, by dsimp only; omega⟩, hC2, hq2, fun t ht => ?_, fun t h1 h2 => ?_⟩ (by dsimp only; omega)
      · dsimp only at ht ⊢
        unfold upd
        rw [if_neg (by omega)]
        exact h5a t (by omega)
      · dsimp only at h1 ⊢
        unfold upd
        by_cases h3 : t = j
        · rw [if_pos h3, h3]
        · rw [if_neg h3]; exact h5b t (by omega) h2
set_option maxHeartbeats 4000000 in
set_option maxRecDepth 100000 in
theorem s_join {p : Program} {e : Env} {s : State} {m : MethodId} {args : Array Value} {below : List Frame} {meth : Method} {c : Code} {Q : State → Prop} {z : Nat} (l : Launch) (G : mq_G) (b sn : Nat) (sx : Nat → Int32) (hG : qG G b sn sx) (hA : pA G) (hsn : sn < 1000) (La : Nat → Nat) (x ka ca : Nat) (hB : ldB La x ka ca) (k : vtD) (h : Nat → Bool) (d : Nat → List Nat) (r : vtR) (sh : List Nat) (dr : Int) (q key : Nat) (hkey : key < 65536) (M : mq_M) (hD : ldA G M La x b ka ca sh k h d r dr) (hq : cR G M La q) (hroom : k.1 < 16 ∨ 0 ≤ dkOf k.1 k.2.1 key) (C : mq_C p m c cX12_store 6 s args wsX12_store RX12 G.1.1 (mq_tys G) z) (cells slots : Nat) (hc : cells ≤ 2) (hs : slots ≤ 300) (kk : ∀ (M2 : mq_M) (k2 : vtD) (dr2 : Int) (L2 : List (Option Value)), (dr ≤ dr2 ∧ dr2 ≤ dr + 4) → ldA G M2 La x b ka ca [] k2 h d r dr2 → mq_X p l e { frames := 7, cells := 2, slots := 300, locals := 157 } s m args below meth c Q 6 G.1.1 z s.heap cells slots M2 205 L2 [.int (zI 1)]) : mq_X p l e { frames := 7, cells := 2, slots := 300, locals := 157 } s m args below meth c Q 6 G.1.1 z s.heap cells slots M 58 [some (.ref x), some (.int (zI 60)), some (.ref q), none, none, none] [.int (zI (key : Int))] := by
  refine xr_istore_n C dX12_store_58 (by decide) rfl ?_
  refine xr_iconst (n := 0) C dX12_store_59 (by decide +kernel) ?_
  refine xr_istore C dX12_store_60 (by decide) rfl ?_
  have hD0 := hD
  obtain ⟨ky, f, hC, hky⟩ := hD
  have ld := hC.2.1
  have hkr := hC.1.K
  refine mq_loop (σ := Nat) (fun y => y ≤ k.1 ∧ ∀ j, j < y → k.2.1 j < key) (fun y => k.1 - y) (fun y => M) (fun y => [some (.ref x), some (.int (zI 60)), some (.ref q), some (.int (zI (key : Int))), some (.int (zI (y : Int))), none]) (fun y => []) ?_ 0 ⟨Nat.zero_le _, fun j hj => absurd hj (Nat.not_lt_zero _)⟩
  rintro i ⟨hi, hlt⟩ ih
  try dsimp only at hi hlt ih ⊢
  refine xr_iload C dX12_store_62 rfl ?_
  refine xr_aload_n C dX12_store_64 rfl ?_
  refine xr_get C (Cn := RX12) (T := TX12) (N := 6) (by decide +kernel) ld rfl 3 (by decide) (C.1.2.2.2.2 (.fieldLink RX12 73 "OssuaryVaultLaw$Desk" "files" "I") (by decide +kernel)) (fun _ h => h) rfl dX12_store_65 ?_
  refine xr_icmp_ge C dX12_store_68 rfl (by omega) (by omega) (fun hq1 => ?_) (fun hq1 => ?_)
  · have hpl : dkPl k.1 k.2.1 key = i := dkPl_of hi hlt (fun h9 => by omega)
    have hof : ¬ 0 ≤ dkOf k.1 k.2.1 key := by
      unfold dkOf
      rw [if_neg (fun h9 => by omega)]
      omega
    refine xr_iload C dX12_store_88 rfl ?_
    refine xr_aload_n C dX12_store_90 rfl ?_
    refine xr_get C (Cn := RX12) (T := TX12) (N := 6) (by decide +kernel) ld rfl 3 (by decide) (C.1.2.2.2.2 (.fieldLink RX12 73 "OssuaryVaultLaw$Desk" "files" "I") (by decide +kernel)) (fun _ h => h) rfl dX12_store_91 ?_
    refine xr_icmp_eq C dX12_store_94 rfl (by omega) (by omega) (fun _ => ?_) (fun hq => absurd hq (by omega))
    have h16 : k.1 < 16 := hroom.resolve_right hof
    exact s_absent l G b sn sx hG hA hsn La x ka ca hB k h d r sh dr q key i hkey M hD0 hq (by omega) (by omega) hpl hof C cells slots hc hs kk
  · have hrk := hkr.2 i (by omega)
    refine xr_aload_n C dX12_store_71 rfl ?_
    refine xr_get C (Cn := RX12) (T := TX12) (N := 6) (by decide +kernel) ld rfl 4 (by decide) (C.1.2.2.2.2 (.fieldLink RX12 16 "OssuaryVaultLaw$Desk" "keys" "[I") (by decide +kernel)) (fun _ h => h) rfl dX12_store_72 ?_
    refine xr_iload C dX12_store_75 rfl ?_
    refine xr_iald C hC.2.2.1 mq_tI (by omega) (by omega) (by omega) dX12_store_77 ?_
    rw [show ky ((i : Int)).toNat = zI (k.2.1 i : Int) from hky i (by omega)]
    refine xr_iload_n C dX12_store_78 rfl ?_
    refine xr_icmp_ge C dX12_store_79 rfl (by omega) (by omega) (fun hq2 => ?_) (fun hq2 => ?_)
    · have hpl : dkPl k.1 k.2.1 key = i := dkPl_of hi hlt (fun h9 => by omega)
      refine xr_iload C dX12_store_88 rfl ?_
      refine xr_aload_n C dX12_store_90 rfl ?_
      refine xr_get C (Cn := RX12) (T := TX12) (N := 6) (by decide +kernel) ld rfl 3 (by decide) (C.1.2.2.2.2 (.fieldLink RX12 73 "OssuaryVaultLaw$Desk" "files" "I") (by decide +kernel)) (fun _ h => h) rfl dX12_store_91 ?_
      refine xr_icmp_eq C dX12_store_94 rfl (by omega) (by omega) (fun hq => absurd hq (by omega)) (fun _ => ?_)
      refine xr_aload_n C dX12_store_97 rfl ?_
      refine xr_get C (Cn := RX12) (T := TX12) (N := 6) (by decide +kernel) ld rfl 4 (by decide) (C.1.2.2.2.2 (.fieldLink RX12 16 "OssuaryVaultLaw$Desk" "keys" "[I") (by decide +kernel)) (fun _ h => h) rfl dX12_store_98 ?_
      refine xr_iload C dX12_store_101 rfl ?_
      refine xr_iald C hC.2.2.1 mq_tI (by omega) (by omega) (by omega) dX12_store_103 ?_
      rw [show ky ((i : Int)).toNat = zI (k.2.1 i : Int) from hky i (by omega)]
      refine xr_iload_n C dX12_store_104 rfl ?_
      refine xr_icmp_eq C dX12_store_105 rfl (by omega) (by omega) (fun hq3 => ?_) (fun hq3 => ?_)
      · have hof : 0 ≤ dkOf k.1 k.2.1 key := by
          unfold dkOf
          rw [hpl, if_pos ⟨by omega, by omega⟩]
          omega
        refine s_put l G b sn sx hG hA hsn La x ka ca hB k h d r sh dr q key i hkey M k.1 ky f hC hq (by omega) hroom (by rw [if_pos hof]) (fun kk9 h9 t ht => ?_) C cells slots hc hs kk
        rw [if_pos hof] at h9
        rw [h9]
        unfold upd
        by_cases h1 : t = i
        · rw [if_pos h1, h1]; exact congrArg zI (by omega)
        · rw [if_neg h1]; exact hky t ht
      · have hof : ¬ 0 ≤ dkOf k.1 k.2.1 key := by
          unfold dkOf
          rw [hpl, if_neg (fun h9 => by omega)]
          omega
        have h16 : k.1 < 16 := hroom.resolve_right hof
        exact s_absent l G b sn sx hG hA hsn La x ka ca hB k h d r sh dr q key i hkey M hD0 hq (by omega) (by omega) hpl hof C cells slots hc hs kk
    · refine xr_iinc C dX12_store_82 rfl (by decide) rfl ?_
      refine xr_goto C dX12_store_85 rfl ?_
      rw [show (i : Int) + 1 = ((i + 1 : Nat) : Int) by omega]
      refine ih (i + 1) ⟨by omega, fun j hj => ?_⟩ (by omega)
      by_cases h9 : j = i
      · rw [h9]; omega
      · exact hlt j (by omega)
set_option maxHeartbeats 4000000 in
set_option maxRecDepth 100000 in
theorem l_store (l : Launch) (G : mq_G) (b sn : Nat) (sx : Nat → Int32) (hG : qG G b sn sx) (hA : pA G) (hsn : sn < 1000) (La : Nat → Nat) (x ka ca : Nat) (hB : ldB La x ka ca) (k : vtD) (h : Nat → Bool) (d : Nat → List Nat) (r : vtR) (dr : Int) (hdr : 0 ≤ dr ∧ dr < 900000) (M : mq_M) (hD : ldA G M La x b ka ca [] k h d r dr) : mq_T l yX12_store wsX12_store { frames := 7, cells := 2, slots := 300, locals := 157 } G [.ref x, .int (zI 60)] M (mq_pi (fun r9 M2 => r9 = 1 ∧ ∃ (k2 : vtD) (dr2 : Int), (dr ≤ dr2 ∧ dr2 ≤ dr + 70) ∧ ldA G M2 La x b ka ca [] k2 h d r dr2)) 2 300 := by
  refine mq_Met.of (cc := cX12_store) (maxL := 6) (ret := (some .boolean)) (by decide) rfl (Nat.le_of_ble_eq_true rfl) rfl rfl ?_
  intro p_ e_ s_ m_ args_ below_ meth_ c_ z_ C hr hlk hname
  refine xr_aload_n C dX12_store_0 rfl ?_
  refine xr_iload_n C dX12_store_1 rfl ?_
  refine xr_callV1a C (l_write l G b sn sx hG hsn La x ka ca hB k h d r dr (by omega) M hD) (cwV 1 C.1.2.2.2.2 gX12_store_X12_write rfl rfl rfl (by decide +kernel) ⟨Nat.le_of_ble_eq_true rfl, Nat.le_of_ble_eq_true rfl⟩) hD.D rfl (Nat.le_of_ble_eq_true rfl) ⟨by dsimp only; omega, by dsimp only; omega⟩ dX12_store_2 (fun q M2 hp2 => ?_)
  obtain ⟨sh, dr2, ⟨hl, hd1, hd2⟩, hD2, hq⟩ := hp2
  have ld2 := hD2.D
  have hkr := hD2.V.K
  have hsr := hD2.V.srt
  refine xr_astore_n C dX12_store_5 (by decide) rfl ?_
  refine xr_aload_n C dX12_store_6 rfl ?_
  refine xr_ifnonnull_s C dX12_store_7 rfl ?_
  refine xr_aload_n C dX12_store_12 rfl ?_
  refine xr_get C (Cn := RX12) (T := TX12) (N := 6) (by decide +kernel) ld2 rfl 3 (by decide) (C.1.2.2.2.2 (.fieldLink RX12 73 "OssuaryVaultLaw$Desk" "files" "I") (by decide +kernel)) (fun _ h => h) rfl dX12_store_13 ?_
  refine xr_bipush (n := 16) C dX12_store_16 (by decide +kernel) ?_
  refine xr_icmp_ne C dX12_store_18 rfl (by omega) (by omega) (fun hq1 => ?_) (fun hq1 => ?_)
  · refine xr_aload_n C dX12_store_35 rfl ?_
    refine xr_iconst (n := 4) C dX12_store_36 (by decide +kernel) ?_
    refine xr_callV1i C (l_draw l G sn sx x (La 0) b (dr2) (k.1 : Int) ka ca _ ld2 hG hsn (by omega) 4 (by decide)) (cwV 1 C.1.2.2.2.2 gX12_store_X12_draw rfl rfl rfl (by decide +kernel) ⟨Nat.le_of_ble_eq_true rfl, Nat.le_of_ble_eq_true rfl⟩) ld2 rfl (Nat.le_of_ble_eq_true rfl) ⟨by dsimp only; omega, by dsimp only; omega⟩ dX12_store_37 (fun v1 Md1 hp1 => ?_)
    obtain ⟨hv1, hMd1⟩ := hp1
    have hE1 := hD2.draw hB hMd1
    have hqd1 : cR G Md1 La q := hq.mv (Or.inl (by rw [hMd1, mq_up_n (hq.nx ld2)]))
    refine xr_if_ne C dX12_store_40 rfl (by omega) (fun hq2 => ?_) (fun hq2 => ?_)
    · have ldx := hE1.D
      refine xr_aload_n C dX12_store_52 rfl ?_
      refine xr_bipush (n := 9) C dX12_store_53 (by decide +kernel) ?_
      refine xr_callV1i C (l_draw l G sn sx x (La 0) b (dr2 + 1) (k.1 : Int) ka ca _ ldx hG hsn (by omega) 9 (by decide)) (cwV 1 C.1.2.2.2.2 gX12_store_X12_draw rfl rfl rfl (by decide +kernel) ⟨Nat.le_of_ble_eq_true rfl, Nat.le_of_ble_eq_true rfl⟩) ldx rfl (Nat.le_of_ble_eq_true rfl) ⟨by dsimp only; omega, by dsimp only; omega⟩ dX12_store_55 (fun v2 Md2 hp2 => ?_)
      obtain ⟨hv2, hMd2⟩ := hp2
      have hE2 := hE1.draw hB hMd2
      have hqd2 : cR G Md2 La q := hqd1.mv (Or.inl (by rw [hMd2, mq_up_n (hqd1.nx ldx)]))
      obtain ⟨key, rfl⟩ := Int.eq_ofNat_of_zero_le hv2.1
      exact s_join l G b sn sx hG hA hsn La x ka ca hB k h d r sh (dr2 + 1 + 1) q key (by omega) _ hE2 hqd2 (Or.inl (by omega)) C _ _ (by first | omega | (dsimp only; omega)) (by first | omega | (dsimp only; omega)) (fun M5 k5 dr5 L5 h5 h6 => xr_zret C hr (by decide +kernel) hlk ⟨_, rfl, rfl, k5, dr5, by omega, h6⟩ (by first | omega | (dsimp only; omega)) (by first | omega | (dsimp only; omega)) dX12_store_205)
    · have ldx := hE1.D
      refine xr_aload_n C dX12_store_43 rfl ?_
      refine xr_ldc (k0 := 65536) C (C.1.2.2.2.2 (.constant RX12 54 (zI 65536)) (by decide +kernel)) dX12_store_44 ?_
      refine xr_callV1i C (l_draw l G sn sx x (La 0) b (dr2 + 1) (k.1 : Int) ka ca _ ldx hG hsn (by omega) 65536 (by decide)) (cwV 1 C.1.2.2.2.2 gX12_store_X12_draw rfl rfl rfl (by decide +kernel) ⟨Nat.le_of_ble_eq_true rfl, Nat.le_of_ble_eq_true rfl⟩) ldx rfl (Nat.le_of_ble_eq_true rfl) ⟨by dsimp only; omega, by dsimp only; omega⟩ dX12_store_46 (fun v3 Md3 hp3 => ?_)
      obtain ⟨hv3, hMd3⟩ := hp3
      have hE3 := hE1.draw hB hMd3
      have hqd3 : cR G Md3 La q := hqd1.mv (Or.inl (by rw [hMd3, mq_up_n (hqd1.nx ldx)]))
      obtain ⟨key, rfl⟩ := Int.eq_ofNat_of_zero_le hv3.1
      refine xr_goto C dX12_store_49 rfl ?_
      exact s_join l G b sn sx hG hA hsn La x ka ca hB k h d r sh (dr2 + 1 + 1) q key (by omega) _ hE3 hqd3 (Or.inl (by omega)) C _ _ (by first | omega | (dsimp only; omega)) (by first | omega | (dsimp only; omega)) (fun M5 k5 dr5 L5 h5 h6 => xr_zret C hr (by decide +kernel) hlk ⟨_, rfl, rfl, k5, dr5, by omega, h6⟩ (by first | omega | (dsimp only; omega)) (by first | omega | (dsimp only; omega)) dX12_store_205)
  · refine xr_aload_n C dX12_store_21 rfl ?_
    refine xr_get C (Cn := RX12) (T := TX12) (N := 6) (by decide +kernel) ld2 rfl 4 (by decide) (C.1.2.2.2.2 (.fieldLink RX12 16 "OssuaryVaultLaw$Desk" "keys" "[I") (by decide +kernel)) (fun _ h => h) rfl dX12_store_22 ?_
    refine xr_aload_n C dX12_store_25 rfl ?_
    refine xr_bipush (n := 16) C dX12_store_26 (by decide +kernel) ?_
    refine xr_callV1i C (l_draw l G sn sx x (La 0) b (dr2) (k.1 : Int) ka ca _ ld2 hG hsn (by omega) 16 (by decide)) (cwV 1 C.1.2.2.2.2 gX12_store_X12_draw rfl rfl rfl (by decide +kernel) ⟨Nat.le_of_ble_eq_true rfl, Nat.le_of_ble_eq_true rfl⟩) ld2 rfl (Nat.le_of_ble_eq_true rfl) ⟨by dsimp only; omega, by dsimp only; omega⟩ dX12_store_28 (fun v4 Md4 hp4 => ?_)
    obtain ⟨hv4, hMd4⟩ := hp4
    have hE4 := hD2.draw hB hMd4
    have hqd4 : cR G Md4 La q := hq.mv (Or.inl (by rw [hMd4, mq_up_n (hq.nx ld2)]))
    obtain ⟨j, rfl⟩ := Int.eq_ofNat_of_zero_le hv4.1
    have hD5 := hE4
    obtain ⟨ky, f5, hC5, hky5⟩ := hE4
    have hrj := hkr.2 j (by omega)
    refine xr_iald C hC5.2.2.1 mq_tI (by omega) (by omega) (by omega) dX12_store_31 ?_
    rw [show ky ((j : Int)).toNat = zI (k.2.1 j : Int) from hky5 j (by omega)]
    refine xr_goto C dX12_store_32 rfl ?_
    exact s_join l G b sn sx hG hA hsn La x ka ca hB k h d r sh (dr2 + 1) q (k.2.1 j) hrj _ hD5 hqd4 (Or.inr (dkOf_mem (by omega) hsr)) C _ _ (by first | omega | (dsimp only; omega)) (by first | omega | (dsimp only; omega)) (fun M5 k5 dr5 L5 h5 h6 => xr_zret C hr (by decide +kernel) hlk ⟨_, rfl, rfl, k5, dr5, by omega, h6⟩ (by first | omega | (dsimp only; omega)) (by first | omega | (dsimp only; omega)) dX12_store_205)
set_option maxHeartbeats 4000000 in
set_option maxRecDepth 100000 in
theorem l_fill (l : Launch) (G : mq_G) (b sn : Nat) (sx : Nat → Int32) (hG : qG G b sn sx) (hA : pA G) (hsn : sn < 1000) (La : Nat → Nat) (x ka ca : Nat) (hB : ldB La x ka ca) (k : vtD) (h : Nat → Bool) (d : Nat → List Nat) (r : vtR) (dr : Int) (hdr : 0 ≤ dr ∧ dr < 800000) (M : mq_M) (hD : ldA G M La x b ka ca [] k h d r dr) (many : Nat) (hm : many ≤ 3) : mq_T l yX12_fill wsX12_fill { frames := 8, cells := 6, slots := 900, locals := 182 } G [.ref x, .int (zI (many : Int)), .int (zI 60)] M (mq_pi (fun r9 M2 => r9 = 1 ∧ ∃ (k2 : vtD) (dr2 : Int), (dr ≤ dr2 ∧ dr2 ≤ dr + 210) ∧ ldA G M2 La x b ka ca [] k2 h d r dr2)) 6 900 := by
  refine mq_Met.of (cc := cX12_fill) (maxL := 4) (ret := (some .boolean)) (by decide) rfl (Nat.le_of_ble_eq_true rfl) rfl rfl ?_
  intro p_ e_ s_ m_ args_ below_ meth_ c_ z_ C hr hlk hname
  refine xr_iconst (n := 0) C dX12_fill_0 (by decide +kernel) ?_
  refine xr_istore_n C dX12_fill_1 (by decide) rfl ?_
  refine mq_loopK (σ := Nat × mq_M × vtD × Int) (fun y => (y.1 ≤ many ∧ dr ≤ y.2.2.2 ∧ y.2.2.2 ≤ dr + 70 * (y.1 : Int)) ∧ ldA G y.2.1 La x b ka ca [] y.2.2.1 h d r y.2.2.2) (fun y => many - y.1) (fun y => 2 * y.1) (fun y => 300 * y.1) (fun y => y.2.1) (fun y => [some (.ref x), some (.int (zI (many : Int))), some (.int (zI 60)), some (.int (zI (y.1 : Int)))]) (fun y => []) ?_ (0, M, k, dr) ⟨⟨Nat.zero_le _, Int.le_refl _, by dsimp only; omega⟩, hD⟩
  rintro ⟨i, M5, k5, dr5⟩ ⟨⟨hi, hd1, hd2⟩, hD5⟩ ih
  dsimp only at hi hd1 hd2 hD5 ih ⊢
  have ld5 := hD5.D
  refine xr_iload_n C dX12_fill_2 rfl ?_
  refine xr_iload_n C dX12_fill_3 rfl ?_
  refine xr_icmp_ge C dX12_fill_4 rfl (by omega) (by omega) (fun hq1 => ?_) (fun hq1 => ?_)
  · refine xr_iconst (n := 1) C dX12_fill_23 (by decide +kernel) ?_
    exact xr_zret C hr (by decide +kernel) hlk ⟨_, rfl, rfl, k5, dr5, ⟨hd1, by omega⟩, hD5⟩ (by first | omega | (dsimp only; omega)) (by first | omega | (dsimp only; omega)) dX12_fill_24
  · refine xr_aload_n C dX12_fill_7 rfl ?_
    refine xr_iload_n C dX12_fill_8 rfl ?_
    refine xr_callV1i C (l_store l G b sn sx hG hA hsn La x ka ca hB k5 h d r dr5 (by omega) M5 hD5) (cwV 1 C.1.2.2.2.2 gX12_fill_X12_store rfl rfl rfl (by decide +kernel) ⟨Nat.le_of_ble_eq_true rfl, Nat.le_of_ble_eq_true rfl⟩) ld5 rfl (Nat.le_of_ble_eq_true rfl) ⟨by dsimp only; omega, by dsimp only; omega⟩ dX12_fill_9 (fun r9 M9 hp9 => ?_)
    obtain ⟨rfl, k9, dr9, ⟨h91, h92⟩, hD9⟩ := hp9
    refine xr_if_ne C dX12_fill_12 rfl (by omega) (fun _ => ?_) (fun hq => absurd hq (by omega))
    refine xr_iinc C dX12_fill_17 rfl (by decide) rfl ?_
    refine xr_goto C dX12_fill_20 rfl ?_
    rw [show (i : Int) + 1 = ((i + 1 : Nat) : Int) by omega]
    refine mq_widen (k := 2 * (i + 1)) (n := 300 * (i + 1)) (by omega) (by omega) ?_
    exact ih (i + 1, M9, k9, dr9) ⟨⟨by dsimp only; omega, by dsimp only; omega, by dsimp only; omega⟩, hD9⟩ (by dsimp only; omega)
