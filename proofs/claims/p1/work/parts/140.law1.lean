/-! ===== p1: the law's helpers ===== -/
/-- nothing has changed but the vault's cells and the cell o -/
def lwF (La : Nat → Nat) (o : Nat) (M M2 : mq_M) : Prop := ∀ z, z ≠ o → (∀ i, i < 275 → z ≠ La i) → M2 z = M z
theorem lwF.rf {La : Nat → Nat} {o : Nat} {M : mq_M} : lwF La o M M := fun _ _ _ => rfl
theorem lwF.of {La : Nat → Nat} {o : Nat} {M M2 : mq_M} {S : List Nat} (h : mq_FR La S M M2) (hS : ∀ r ∈ S, r < 275) : lwF La o M M2 := fun z _ hz => h z (fun hm => by
  obtain ⟨r, hr, e⟩ := List.mem_map.mp hm
  exact hz r (hS r hr) e.symm)
theorem lwF.up {La : Nat → Nat} {o : Nat} {M M1 M2 : mq_M} {e : va_E} (h : lwF La o M M1) (h2 : M2 = mq_up M1 o e) : lwF La o M M2 := fun z hz hz2 => by rw [h2, mq_up_n hz]; exact h z hz hz2
theorem vtA_l : ∀ r ∈ vtA, r < 275 := fun r hr => List.mem_range.mp hr
/-- the row for answers -/
def lwO (G : mq_G) (M : mq_M) (o : Nat) (v : Option Int64) : Prop := ∃ g : Nat → Int64, M o = some (.inl (gJ G, 1, .inr (.inl g))) ∧ ∀ x, v = some x → g 0 = x
/-- a helper's end: k, and the answer v where k is 0 -/
def lwR (G : mq_G) (La : Nat → Nat) (o : Nat) (M : mq_M) (k : Int) (v : Int64) : Option Value → mq_M → Prop := mq_pi (fun r M2 => r = k ∧ lwO G M2 o (if k = 0 then some v else none) ∧ lwF La o M M2)
theorem svS_none : ∀ i, i < 16 → (svS (fun _ => false) (fun _ => []) 16).2.2.1 i = -1 := by decide +kernel
set_option maxHeartbeats 4000000 in
set_option maxRecDepth 100000 in
theorem h_product (l : Launch) (hlt : l.stackTraces = false) (G : mq_G) (sb sn : Nat) (sx : Nat → Int32) (hG : pG G sb sn sx) (hA : pA G) (La : Nat → Nat) (hI : mq_inj La) (M : mq_M) (hV : vF G M La) (o : Nat) (ho : ∀ i, i < 275 → o ≠ La i) (hO : lwO G M o none) (a : Int) (har : -2147483648 ≤ a ∧ a < 2147483648) (b : Int) (hbr : -2147483648 ≤ b ∧ b < 2147483648) : mq_MetX l yL_product wsL_product { frames := 7, cells := 1, slots := 6, locals := 104 } G.1.1 (mq_tys G) [.ref (La 0), .int (zI a), .int (zI b), .ref o] M (lwR G La o M (if (0 ≤ a ∧ a ≤ 255) ∧ (0 ≤ b ∧ b ≤ 255) then 0 else 1) ((zI (gfM a.toNat b.toNat : Nat)).toInt64)) (fun _ _ => False) 1 6 := by
  refine mq_MetX.ofH (cc := cL_product) (maxL := 5) (ret := (some .int)) (hh := [(0, 10, 13, 13)]) (by decide) rfl (Nat.le_of_ble_eq_true rfl) rfl rfl ?_
  intro p_ e_ s_ m_ args_ below_ meth_ c_ z_ C hr hlk hex
  obtain ⟨g0, hO1, -⟩ := id hO
  refine xr_aload_n C dL_product_0 rfl ?_
  refine xr_iconst (n := 0) C dL_product_1 (by decide +kernel) ?_
  refine xr_aload_n C dL_product_2 rfl ?_
  refine xr_iload_n C dL_product_3 rfl ?_
  refine xr_iload_n C dL_product_4 rfl ?_
  by_cases hv : (0 ≤ a ∧ a ≤ 255) ∧ (0 ≤ b ∧ b ≤ 255)
  · obtain ⟨a, rfl⟩ := Int.eq_ofNat_of_zero_le (show 0 ≤ a by omega)
    obtain ⟨b, rfl⟩ := Int.eq_ofNat_of_zero_le (show 0 ≤ b by omega)
    refine xr_callV2i C (c_product l G La hI M hV a b (by omega) (by omega)) (cwV 2 C.1.2.2.2.2 gL_product_X11_product rfl rfl rfl (by decide +kernel) ⟨Nat.le_of_ble_eq_true rfl, Nat.le_of_ble_eq_true rfl⟩) hV.1 rfl (Nat.le_of_ble_eq_true rfl) ⟨by dsimp only; omega, by dsimp only; omega⟩ dL_product_5 (fun r1 M9 hp9 => ?_)
    obtain ⟨rfl, rfl⟩ := hp9
    have hO2 : M o = some (.inl (gJ G, 1, .inr (.inl g0))) := hO1
    refine xr_i2l C dL_product_8 ?_
    refine xr_last C hO2 hA.J (by decide) (by decide) (by decide) dL_product_9 ?_
    refine mq_ren (fun M2 hM2 => ?_)
    refine xr_goto C dL_product_10 rfl ?_
    refine xr_iconst (n := 0) C dL_product_17 (by decide +kernel) ?_
    refine mq_retX ?_
    exact xr_iret C hr hlk ⟨_, rfl, by rw [if_pos hv]; exact ⟨rfl, by rw [if_pos rfl]; exact ⟨_, by rw [hM2, mq_up_s], fun x9 e9 => by cases e9; rfl⟩, lwF.up lwF.rf hM2⟩⟩ (by omega) (by omega) dL_product_18
  · refine xr_callXV2i C (x_product l hlt G sb sn sx hG La hI M hV a har b hbr (by omega)) (cwV 2 C.1.2.2.2.2 gL_product_X11_product rfl rfl rfl (by decide +kernel) ⟨Nat.le_of_ble_eq_true rfl, Nat.le_of_ble_eq_true rfl⟩) hV.1 rfl (Nat.le_of_ble_eq_true rfl) ⟨by dsimp only; omega, by dsimp only; omega⟩ dL_product_5 (fun E9 M9 hx9 => ?_) (fun _ _ h9 => h9.elim)
    obtain ⟨rfl, rfl⟩ := hx9
    refine xt_catch (name := "java/lang/IllegalArgumentException") C [] ⟨0, 10, 13, 13⟩ [] (hex.trans rfl) (fun _ h9 => nomatch h9) (by decide) (by decide) (C.1.2.2.2.2 (.classLink RL 13 "java/lang/IllegalArgumentException") (by decide +kernel)) (va_Nw.use (w := .castable eIA eIA) rfl ((hG.old C).2.2.1 _ (by decide +kernel))) (fun q9 => ?_)
    refine xr_astore C dL_product_13 (by decide) rfl ?_
    refine xr_iconst (n := 1) C dL_product_15 (by decide +kernel) ?_
    refine mq_retX ?_
    exact xr_iret C hr hlk ⟨_, rfl, by rw [if_neg hv]; exact ⟨rfl, by rw [if_neg (by decide)]; exact hO, lwF.rf⟩⟩ (by omega) (by omega) dL_product_16
set_option maxHeartbeats 4000000 in
set_option maxRecDepth 100000 in
theorem h_inverse (l : Launch) (hlt : l.stackTraces = false) (G : mq_G) (sb sn : Nat) (sx : Nat → Int32) (hG : pG G sb sn sx) (hA : pA G) (La : Nat → Nat) (hI : mq_inj La) (M : mq_M) (hV : vF G M La) (o : Nat) (ho : ∀ i, i < 275 → o ≠ La i) (hO : lwO G M o none) (a : Int) (har : -2147483648 ≤ a ∧ a < 2147483648) : mq_MetX l yL_inverse wsL_inverse { frames := 7, cells := 1, slots := 6, locals := 103 } G.1.1 (mq_tys G) [.ref (La 0), .int (zI a), .ref o] M (lwR G La o M (if 1 ≤ a ∧ a ≤ 255 then 0 else 1) ((zI (gfI a.toNat : Nat)).toInt64)) (fun _ _ => False) 1 6 := by
  refine mq_MetX.ofH (cc := cL_inverse) (maxL := 4) (ret := (some .int)) (hh := [(0, 9, 12, 13)]) (by decide) rfl (Nat.le_of_ble_eq_true rfl) rfl rfl ?_
  intro p_ e_ s_ m_ args_ below_ meth_ c_ z_ C hr hlk hex
  obtain ⟨g0, hO1, -⟩ := id hO
  refine xr_aload_n C dL_inverse_0 rfl ?_
  refine xr_iconst (n := 0) C dL_inverse_1 (by decide +kernel) ?_
  refine xr_aload_n C dL_inverse_2 rfl ?_
  refine xr_iload_n C dL_inverse_3 rfl ?_
  by_cases hv : 1 ≤ a ∧ a ≤ 255
  · obtain ⟨a, rfl⟩ := Int.eq_ofNat_of_zero_le (show 0 ≤ a by omega)
    refine xr_callV1i C (c_inverse l G La hI M hV a (by omega)) (cwV 1 C.1.2.2.2.2 gL_inverse_X11_inverse rfl rfl rfl (by decide +kernel) ⟨Nat.le_of_ble_eq_true rfl, Nat.le_of_ble_eq_true rfl⟩) hV.1 rfl (Nat.le_of_ble_eq_true rfl) ⟨by dsimp only; omega, by dsimp only; omega⟩ dL_inverse_4 (fun r1 M9 hp9 => ?_)
    obtain ⟨rfl, rfl⟩ := hp9
    have hO2 : M o = some (.inl (gJ G, 1, .inr (.inl g0))) := hO1
    refine xr_i2l C dL_inverse_7 ?_
    refine xr_last C hO2 hA.J (by decide) (by decide) (by decide) dL_inverse_8 ?_
    refine mq_ren (fun M2 hM2 => ?_)
    refine xr_goto C dL_inverse_9 rfl ?_
    refine xr_iconst (n := 0) C dL_inverse_15 (by decide +kernel) ?_
    refine mq_retX ?_
    exact xr_iret C hr hlk ⟨_, rfl, by rw [if_pos hv]; exact ⟨rfl, by rw [if_pos rfl]; exact ⟨_, by rw [hM2, mq_up_s], fun x9 e9 => by cases e9; rfl⟩, lwF.up lwF.rf hM2⟩⟩ (by omega) (by omega) dL_inverse_16
  · refine xr_callXV1i C (x_inverse l hlt G sb sn sx hG La hI M hV a har (by omega)) (cwV 1 C.1.2.2.2.2 gL_inverse_X11_inverse rfl rfl rfl (by decide +kernel) ⟨Nat.le_of_ble_eq_true rfl, Nat.le_of_ble_eq_true rfl⟩) hV.1 rfl (Nat.le_of_ble_eq_true rfl) ⟨by dsimp only; omega, by dsimp only; omega⟩ dL_inverse_4 (fun E9 M9 hx9 => ?_) (fun _ _ h9 => h9.elim)
    obtain ⟨rfl, rfl⟩ := hx9
    refine xt_catch (name := "java/lang/IllegalArgumentException") C [] ⟨0, 9, 12, 13⟩ [] (hex.trans rfl) (fun _ h9 => nomatch h9) (by decide) (by decide) (C.1.2.2.2.2 (.classLink RL 13 "java/lang/IllegalArgumentException") (by decide +kernel)) (va_Nw.use (w := .castable eIA eIA) rfl ((hG.old C).2.2.1 _ (by decide +kernel))) (fun q9 => ?_)
    refine xr_astore_n C dL_inverse_12 (by decide) rfl ?_
    refine xr_iconst (n := 1) C dL_inverse_13 (by decide +kernel) ?_
    refine mq_retX ?_
    exact xr_iret C hr hlk ⟨_, rfl, by rw [if_neg hv]; exact ⟨rfl, by rw [if_neg (by decide)]; exact hO, lwF.rf⟩⟩ (by omega) (by omega) dL_inverse_14
set_option maxHeartbeats 4000000 in
set_option maxRecDepth 100000 in
theorem h_power (l : Launch) (hlt : l.stackTraces = false) (G : mq_G) (sb sn : Nat) (sx : Nat → Int32) (hG : pG G sb sn sx) (hA : pA G) (La : Nat → Nat) (hI : mq_inj La) (M : mq_M) (hV : vF G M La) (o : Nat) (ho : ∀ i, i < 275 → o ≠ La i) (hO : lwO G M o none) (a : Int) (har : -2147483648 ≤ a ∧ a < 2147483648) (n : Int) (hnr : -2147483648 ≤ n ∧ n < 2147483648) : mq_MetX l yL_power wsL_power { frames := 7, cells := 1, slots := 6, locals := 104 } G.1.1 (mq_tys G) [.ref (La 0), .int (zI a), .int (zI n), .ref o] M (lwR G La o M (if (0 ≤ a ∧ a ≤ 255) ∧ (0 ≤ n ∧ n ≤ 1000) then 0 else 1) ((zI (gfR a.toNat n.toNat : Nat)).toInt64)) (fun _ _ => False) 1 6 := by
  refine mq_MetX.ofH (cc := cL_power) (maxL := 5) (ret := (some .int)) (hh := [(0, 10, 13, 13)]) (by decide) rfl (Nat.le_of_ble_eq_true rfl) rfl rfl ?_
  intro p_ e_ s_ m_ args_ below_ meth_ c_ z_ C hr hlk hex
  obtain ⟨g0, hO1, -⟩ := id hO
  refine xr_aload_n C dL_power_0 rfl ?_
  refine xr_iconst (n := 0) C dL_power_1 (by decide +kernel) ?_
  refine xr_aload_n C dL_power_2 rfl ?_
  refine xr_iload_n C dL_power_3 rfl ?_
  refine xr_iload_n C dL_power_4 rfl ?_
  by_cases hv : (0 ≤ a ∧ a ≤ 255) ∧ (0 ≤ n ∧ n ≤ 1000)
  · obtain ⟨a, rfl⟩ := Int.eq_ofNat_of_zero_le (show 0 ≤ a by omega)
    obtain ⟨n, rfl⟩ := Int.eq_ofNat_of_zero_le (show 0 ≤ n by omega)
    refine xr_callV2i C (c_power l G La hI M hV a n (by omega) (by omega)) (cwV 2 C.1.2.2.2.2 gL_power_X11_power rfl rfl rfl (by decide +kernel) ⟨Nat.le_of_ble_eq_true rfl, Nat.le_of_ble_eq_true rfl⟩) hV.1 rfl (Nat.le_of_ble_eq_true rfl) ⟨by dsimp only; omega, by dsimp only; omega⟩ dL_power_5 (fun r1 M9 hp9 => ?_)
    obtain ⟨rfl, rfl⟩ := hp9
    have hO2 : M o = some (.inl (gJ G, 1, .inr (.inl g0))) := hO1
    refine xr_i2l C dL_power_8 ?_
    refine xr_last C hO2 hA.J (by decide) (by decide) (by decide) dL_power_9 ?_
    refine mq_ren (fun M2 hM2 => ?_)
    refine xr_goto C dL_power_10 rfl ?_
    refine xr_iconst (n := 0) C dL_power_17 (by decide +kernel) ?_
    refine mq_retX ?_
    exact xr_iret C hr hlk ⟨_, rfl, by rw [if_pos hv]; exact ⟨rfl, by rw [if_pos rfl]; exact ⟨_, by rw [hM2, mq_up_s], fun x9 e9 => by cases e9; rfl⟩, lwF.up lwF.rf hM2⟩⟩ (by omega) (by omega) dL_power_18
  · refine xr_callXV2i C (x_power l hlt G sb sn sx hG La hI M hV a har n hnr (by omega)) (cwV 2 C.1.2.2.2.2 gL_power_X11_power rfl rfl rfl (by decide +kernel) ⟨Nat.le_of_ble_eq_true rfl, Nat.le_of_ble_eq_true rfl⟩) hV.1 rfl (Nat.le_of_ble_eq_true rfl) ⟨by dsimp only; omega, by dsimp only; omega⟩ dL_power_5 (fun E9 M9 hx9 => ?_) (fun _ _ h9 => h9.elim)
    obtain ⟨rfl, rfl⟩ := hx9
    refine xt_catch (name := "java/lang/IllegalArgumentException") C [] ⟨0, 10, 13, 13⟩ [] (hex.trans rfl) (fun _ h9 => nomatch h9) (by decide) (by decide) (C.1.2.2.2.2 (.classLink RL 13 "java/lang/IllegalArgumentException") (by decide +kernel)) (va_Nw.use (w := .castable eIA eIA) rfl ((hG.old C).2.2.1 _ (by decide +kernel))) (fun q9 => ?_)
    refine xr_astore C dL_power_13 (by decide) rfl ?_
    refine xr_iconst (n := 1) C dL_power_15 (by decide +kernel) ?_
    refine mq_retX ?_
    exact xr_iret C hr hlk ⟨_, rfl, by rw [if_neg hv]; exact ⟨rfl, by rw [if_neg (by decide)]; exact hO, lwF.rf⟩⟩ (by omega) (by omega) dL_power_16
set_option maxHeartbeats 4000000 in
set_option maxRecDepth 100000 in
theorem h_coefficient (l : Launch) (hlt : l.stackTraces = false) (G : mq_G) (sb sn : Nat) (sx : Nat → Int32) (hG : pG G sb sn sx) (hA : pA G) (La : Nat → Nat) (hI : mq_inj La) (M : mq_M) (hV : vF G M La) (o : Nat) (ho : ∀ i, i < 275 → o ≠ La i) (hO : lwO G M o none) (j : Int) (hjr : -2147483648 ≤ j ∧ j < 2147483648) (d : Int) (hdr : -2147483648 ≤ d ∧ d < 2147483648) : mq_MetX l yL_coefficient wsL_coefficient { frames := 7, cells := 1, slots := 6, locals := 104 } G.1.1 (mq_tys G) [.ref (La 0), .int (zI j), .int (zI d), .ref o] M (lwR G La o M (if (0 ≤ j ∧ j ≤ 5) ∧ (0 ≤ d ∧ d ≤ 9) then 0 else 1) ((zI (gfI ((128 + j.toNat) ^^^ d.toNat) : Nat)).toInt64)) (fun _ _ => False) 1 6 := by
  refine mq_MetX.ofH (cc := cL_coefficient) (maxL := 5) (ret := (some .int)) (hh := [(0, 10, 13, 25)]) (by decide) rfl (Nat.le_of_ble_eq_true rfl) rfl rfl ?_
  intro p_ e_ s_ m_ args_ below_ meth_ c_ z_ C hr hlk hex
  obtain ⟨g0, hO1, -⟩ := id hO
  refine xr_aload_n C dL_coefficient_0 rfl ?_
  refine xr_iconst (n := 0) C dL_coefficient_1 (by decide +kernel) ?_
  refine xr_aload_n C dL_coefficient_2 rfl ?_
  refine xr_iload_n C dL_coefficient_3 rfl ?_
  refine xr_iload_n C dL_coefficient_4 rfl ?_
  by_cases hv : (0 ≤ j ∧ j ≤ 5) ∧ (0 ≤ d ∧ d ≤ 9)
  · obtain ⟨j, rfl⟩ := Int.eq_ofNat_of_zero_le (show 0 ≤ j by omega)
    obtain ⟨d, rfl⟩ := Int.eq_ofNat_of_zero_le (show 0 ≤ d by omega)
    refine xr_callV2i C (c_coefficient l G La hI M hV j d (by omega) (by omega)) (cwV 2 C.1.2.2.2.2 gL_coefficient_X11_coefficient rfl rfl rfl (by decide +kernel) ⟨Nat.le_of_ble_eq_true rfl, Nat.le_of_ble_eq_true rfl⟩) hV.1 rfl (Nat.le_of_ble_eq_true rfl) ⟨by dsimp only; omega, by dsimp only; omega⟩ dL_coefficient_5 (fun r1 M9 hp9 => ?_)
    obtain ⟨rfl, rfl⟩ := hp9
    have hO2 : M o = some (.inl (gJ G, 1, .inr (.inl g0))) := hO1
    refine xr_i2l C dL_coefficient_8 ?_
    refine xr_last C hO2 hA.J (by decide) (by decide) (by decide) dL_coefficient_9 ?_
    refine mq_ren (fun M2 hM2 => ?_)
    refine xr_goto C dL_coefficient_10 rfl ?_
    refine xr_iconst (n := 0) C dL_coefficient_17 (by decide +kernel) ?_
    refine mq_retX ?_
    exact xr_iret C hr hlk ⟨_, rfl, by rw [if_pos hv]; exact ⟨rfl, by rw [if_pos rfl]; exact ⟨_, by rw [hM2, mq_up_s], fun x9 e9 => by cases e9; rfl⟩, lwF.up lwF.rf hM2⟩⟩ (by omega) (by omega) dL_coefficient_18
  · refine xr_callXV2i C (x_coefficient l hlt G sb sn sx hG La hI M hV j hjr d hdr (by omega)) (cwV 2 C.1.2.2.2.2 gL_coefficient_X11_coefficient rfl rfl rfl (by decide +kernel) ⟨Nat.le_of_ble_eq_true rfl, Nat.le_of_ble_eq_true rfl⟩) hV.1 rfl (Nat.le_of_ble_eq_true rfl) ⟨by dsimp only; omega, by dsimp only; omega⟩ dL_coefficient_5 (fun E9 M9 hx9 => ?_) (fun _ _ h9 => h9.elim)
    obtain ⟨rfl, rfl⟩ := hx9
    refine xt_catch (name := "java/lang/IndexOutOfBoundsException") C [] ⟨0, 10, 13, 25⟩ [] (hex.trans rfl) (fun _ h9 => nomatch h9) (by decide) (by decide) (C.1.2.2.2.2 (.classLink RL 25 "java/lang/IndexOutOfBoundsException") (by decide +kernel)) (va_Nw.use (w := .castable eIO eIO) rfl ((hG.old C).2.2.1 _ (by decide +kernel))) (fun q9 => ?_)
    refine xr_astore C dL_coefficient_13 (by decide) rfl ?_
    refine xr_iconst (n := 1) C dL_coefficient_15 (by decide +kernel) ?_
    refine mq_retX ?_
    exact xr_iret C hr hlk ⟨_, rfl, by rw [if_neg hv]; exact ⟨rfl, by rw [if_neg (by decide)]; exact hO, lwF.rf⟩⟩ (by omega) (by omega) dL_coefficient_16
set_option maxHeartbeats 4000000 in
set_option maxRecDepth 100000 in
theorem h_write (l : Launch) (hlt : l.stackTraces = false) (G : mq_G) (sb sn : Nat) (sx : Nat → Int32) (hG : pG G sb sn sx) (hA : pA G) (La : Nat → Nat) (hI : mq_inj La) (M : mq_M) (hV : vF G M La) (o : Nat) (ho : ∀ i, i < 275 → o ≠ La i) (hO : lwO G M o none) (v : Int) (hvr : -2147483648 ≤ v ∧ v < 2147483648) (t : Int) (htr : -2147483648 ≤ t ∧ t < 2147483648) : mq_MetX l yL_write wsL_write { frames := 7, cells := 1, slots := 6, locals := 104 } G.1.1 (mq_tys G) [.ref (La 0), .int (zI v), .int (zI t), .ref o] M (lwR G La o M (if (0 ≤ v ∧ v ≤ 255) ∧ (1 ≤ t ∧ t ≤ 200) then 0 else 1) ((zI t).toInt64)) (fun _ _ => False) 1 6 := by
  refine mq_MetX.ofH (cc := cL_write) (maxL := 5) (ret := (some .int)) (hh := [(0, 10, 13, 13), (0, 10, 17, 30)]) (by decide) rfl (Nat.le_of_ble_eq_true rfl) rfl rfl ?_
  intro p_ e_ s_ m_ args_ below_ meth_ c_ z_ C hr hlk hex
  obtain ⟨g0, hO1, -⟩ := id hO
  refine xr_aload_n C dL_write_0 rfl ?_
  refine xr_iconst (n := 0) C dL_write_1 (by decide +kernel) ?_
  refine xr_aload_n C dL_write_2 rfl ?_
  refine xr_iload_n C dL_write_3 rfl ?_
  refine xr_iload_n C dL_write_4 rfl ?_
  by_cases hv : (0 ≤ v ∧ v ≤ 255) ∧ (1 ≤ t ∧ t ≤ 200)
  · obtain ⟨v, rfl⟩ := Int.eq_ofNat_of_zero_le (show 0 ≤ v by omega)
    obtain ⟨t, rfl⟩ := Int.eq_ofNat_of_zero_le (show 0 ≤ t by omega)
    refine xr_callV2i C (c_write l G La hI [] vk0 (fun _ => false) (fun _ => []) vr0 M hV v t (by omega) (by omega) (by show 0 + t ≤ 240; omega)) (cwV 2 C.1.2.2.2.2 gL_write_X11_write rfl rfl rfl (by decide +kernel) ⟨Nat.le_of_ble_eq_true rfl, Nat.le_of_ble_eq_true rfl⟩) hV.1 rfl (Nat.le_of_ble_eq_true rfl) ⟨by dsimp only; omega, by dsimp only; omega⟩ dL_write_5 (fun r9 M9 hp9 => ?_)
    obtain ⟨rfl, -, hF9⟩ := hp9
    rw [List.length_nil, show (0 + t : Nat) = t from Nat.zero_add t]
    have hO2 : M9 o = some (.inl (gJ G, 1, .inr (.inl g0))) := (hF9 o (fun hm => by obtain ⟨r, hr, e⟩ := List.mem_map.mp hm; exact ho r (vtA_l r hr) e.symm)).trans hO1
    refine xr_i2l C dL_write_8 ?_
    refine xr_last C hO2 hA.J (by decide) (by decide) (by decide) dL_write_9 ?_
    refine mq_ren (fun M1 hM1 => ?_)
    refine xr_goto C dL_write_10 rfl ?_
    refine xr_iconst (n := 0) C dL_write_21 (by decide +kernel) ?_
    refine mq_retX ?_
    exact xr_iret C hr hlk ⟨_, rfl, by rw [if_pos hv]; exact ⟨rfl, by rw [if_pos rfl]; exact ⟨_, by rw [hM1, mq_up_s], fun x9 e9 => by cases e9; rfl⟩, lwF.up (lwF.of hF9 vtA_l) hM1⟩⟩ (by omega) (by omega) dL_write_22
  · refine xr_callXV2i C (x_write l hlt G sb sn sx hG La hI M hV v hvr t htr (by omega)) (cwV 2 C.1.2.2.2.2 gL_write_X11_write rfl rfl rfl (by decide +kernel) ⟨Nat.le_of_ble_eq_true rfl, Nat.le_of_ble_eq_true rfl⟩) hV.1 rfl (Nat.le_of_ble_eq_true rfl) ⟨by dsimp only; omega, by dsimp only; omega⟩ dL_write_5 (fun E9 M9 hx9 => ?_) (fun _ _ h9 => h9.elim)
    obtain ⟨rfl, rfl⟩ := hx9
    refine xt_catch (name := "java/lang/IllegalArgumentException") C [] ⟨0, 10, 13, 13⟩ [⟨0, 10, 17, 30⟩] (hex.trans rfl) (fun _ h9 => nomatch h9) (by decide) (by decide) (C.1.2.2.2.2 (.classLink RL 13 "java/lang/IllegalArgumentException") (by decide +kernel)) (va_Nw.use (w := .castable eIA eIA) rfl ((hG.old C).2.2.1 _ (by decide +kernel))) (fun q9 => ?_)
    refine xr_astore C dL_write_13 (by decide) rfl ?_
    refine xr_iconst (n := 1) C dL_write_15 (by decide +kernel) ?_
    refine mq_retX ?_
    exact xr_iret C hr hlk ⟨_, rfl, by rw [if_neg hv]; exact ⟨rfl, by rw [if_neg (by decide)]; exact hO, lwF.rf⟩⟩ (by omega) (by omega) dL_write_16
set_option maxHeartbeats 4000000 in
set_option maxRecDepth 100000 in
theorem h_noise (l : Launch) (hlt : l.stackTraces = false) (G : mq_G) (sb sn : Nat) (sx : Nat → Int32) (hG : pG G sb sn sx) (hA : pA G) (La : Nat → Nat) (hI : mq_inj La) (M : mq_M) (hV : vF G M La) (o : Nat) (ho : ∀ i, i < 275 → o ≠ La i) (hO : lwO G M o none) (v : Int) (hvr : -2147483648 ≤ v ∧ v < 2147483648) (t : Int) (htr : -2147483648 ≤ t ∧ t < 2147483648) : mq_MetX l yL_noise wsL_noise { frames := 7, cells := 1, slots := 6, locals := 106 } G.1.1 (mq_tys G) [.ref (La 0), .int (zI v), .int (zI t), .ref o] M (lwR G La o M (if (0 ≤ v ∧ v ≤ 65535) ∧ (1 ≤ t ∧ t ≤ 240) then 0 else 1) ((zI t).toInt64)) (fun _ _ => False) 1 6 := by
  refine mq_MetX.ofH (cc := cL_noise) (maxL := 5) (ret := (some .int)) (hh := [(0, 10, 13, 13), (0, 10, 17, 30)]) (by decide) rfl (Nat.le_of_ble_eq_true rfl) rfl rfl ?_
  intro p_ e_ s_ m_ args_ below_ meth_ c_ z_ C hr hlk hex
  obtain ⟨g0, hO1, -⟩ := id hO
  refine xr_aload_n C dL_noise_0 rfl ?_
  refine xr_iconst (n := 0) C dL_noise_1 (by decide +kernel) ?_
  refine xr_aload_n C dL_noise_2 rfl ?_
  refine xr_iload_n C dL_noise_3 rfl ?_
  refine xr_iload_n C dL_noise_4 rfl ?_
  by_cases hv : (0 ≤ v ∧ v ≤ 65535) ∧ (1 ≤ t ∧ t ≤ 240)
  · obtain ⟨v, rfl⟩ := Int.eq_ofNat_of_zero_le (show 0 ≤ v by omega)
    obtain ⟨t, rfl⟩ := Int.eq_ofNat_of_zero_le (show 0 ≤ t by omega)
    refine xr_callV2i C (c_noise l G La hI [] vk0 (fun _ => false) (fun _ => []) vr0 M hV v t (by omega) (by omega) (by show 0 + t ≤ 240; omega)) (cwV 2 C.1.2.2.2.2 gL_noise_X11_noise rfl rfl rfl (by decide +kernel) ⟨Nat.le_of_ble_eq_true rfl, Nat.le_of_ble_eq_true rfl⟩) hV.1 rfl (Nat.le_of_ble_eq_true rfl) ⟨by dsimp only; omega, by dsimp only; omega⟩ dL_noise_5 (fun r9 M9 hp9 => ?_)
    obtain ⟨rfl, -, hF9⟩ := hp9
    rw [List.length_nil, show (0 + t : Nat) = t from Nat.zero_add t]
    have hO2 : M9 o = some (.inl (gJ G, 1, .inr (.inl g0))) := (hF9 o (fun hm => by obtain ⟨r, hr, e⟩ := List.mem_map.mp hm; exact ho r (vtA_l r hr) e.symm)).trans hO1
    refine xr_i2l C dL_noise_8 ?_
    refine xr_last C hO2 hA.J (by decide) (by decide) (by decide) dL_noise_9 ?_
    refine mq_ren (fun M1 hM1 => ?_)
    refine xr_goto C dL_noise_10 rfl ?_
    refine xr_iconst (n := 0) C dL_noise_21 (by decide +kernel) ?_
    refine mq_retX ?_
    exact xr_iret C hr hlk ⟨_, rfl, by rw [if_pos hv]; exact ⟨rfl, by rw [if_pos rfl]; exact ⟨_, by rw [hM1, mq_up_s], fun x9 e9 => by cases e9; rfl⟩, lwF.up (lwF.of hF9 vtA_l) hM1⟩⟩ (by omega) (by omega) dL_noise_22
  · refine xr_callXV2i C (x_noise l hlt G sb sn sx hG La hI M hV v hvr t htr (by omega)) (cwV 2 C.1.2.2.2.2 gL_noise_X11_noise rfl rfl rfl (by decide +kernel) ⟨Nat.le_of_ble_eq_true rfl, Nat.le_of_ble_eq_true rfl⟩) hV.1 rfl (Nat.le_of_ble_eq_true rfl) ⟨by dsimp only; omega, by dsimp only; omega⟩ dL_noise_5 (fun E9 M9 hx9 => ?_) (fun _ _ h9 => h9.elim)
    obtain ⟨rfl, rfl⟩ := hx9
    refine xt_catch (name := "java/lang/IllegalArgumentException") C [] ⟨0, 10, 13, 13⟩ [⟨0, 10, 17, 30⟩] (hex.trans rfl) (fun _ h9 => nomatch h9) (by decide) (by decide) (C.1.2.2.2.2 (.classLink RL 13 "java/lang/IllegalArgumentException") (by decide +kernel)) (va_Nw.use (w := .castable eIA eIA) rfl ((hG.old C).2.2.1 _ (by decide +kernel))) (fun q9 => ?_)
    refine xr_astore C dL_noise_13 (by decide) rfl ?_
    refine xr_iconst (n := 1) C dL_noise_15 (by decide +kernel) ?_
    refine mq_retX ?_
    exact xr_iret C hr hlk ⟨_, rfl, by rw [if_neg hv]; exact ⟨rfl, by rw [if_neg (by decide)]; exact hO, lwF.rf⟩⟩ (by omega) (by omega) dL_noise_16
set_option maxHeartbeats 4000000 in
set_option maxRecDepth 100000 in
theorem h_cutSheet (l : Launch) (hlt : l.stackTraces = false) (G : mq_G) (sb sn : Nat) (sx : Nat → Int32) (hG : pG G sb sn sx) (hA : pA G) (La : Nat → Nat) (hI : mq_inj La) (M : mq_M) (hV : vF G M La) (o : Nat) (ho : ∀ i, i < 275 → o ≠ La i) (hO : lwO G M o none) (n : Int) (hnr : -2147483648 ≤ n ∧ n < 2147483648) : mq_MetX l yL_cutSheet wsL_cutSheet { frames := 7, cells := 1, slots := 6, locals := 104 } G.1.1 (mq_tys G) [.ref (La 0), .int (zI n), .ref o] M (lwR G La o M (if n = 0 then 0 else 1) ((zI 0).toInt64)) (fun _ _ => False) 1 6 := by
  refine mq_MetX.ofH (cc := cL_cutSheet) (maxL := 4) (ret := (some .int)) (hh := [(0, 9, 12, 13)]) (by decide) rfl (Nat.le_of_ble_eq_true rfl) rfl rfl ?_
  intro p_ e_ s_ m_ args_ below_ meth_ c_ z_ C hr hlk hex
  obtain ⟨g0, hO1, -⟩ := id hO
  refine xr_aload_n C dL_cutSheet_0 rfl ?_
  refine xr_iconst (n := 0) C dL_cutSheet_1 (by decide +kernel) ?_
  refine xr_aload_n C dL_cutSheet_2 rfl ?_
  refine xr_iload_n C dL_cutSheet_3 rfl ?_
  by_cases hv : n = 0
  · have hv2 := hv
    subst hv2
    refine xr_callV1i C (c_cutSheet0 l G La hI M hV) (cwV 1 C.1.2.2.2.2 gL_cutSheet_X11_cutSheet rfl rfl rfl (by decide +kernel) ⟨Nat.le_of_ble_eq_true rfl, Nat.le_of_ble_eq_true rfl⟩) hV.1 rfl (Nat.le_of_ble_eq_true rfl) ⟨by dsimp only; omega, by dsimp only; omega⟩ dL_cutSheet_4 (fun r9 M9 hp9 => ?_)
    obtain ⟨rfl, hF9⟩ := hp9
    have hO2 : M9 o = some (.inl (gJ G, 1, .inr (.inl g0))) := (hF9 o (fun hm => by obtain ⟨r, hr, e⟩ := List.mem_map.mp hm; exact ho r ((by decide : ∀ r ∈ [7, 8], r < 275) r hr) e.symm)).trans hO1
    refine xr_i2l C dL_cutSheet_7 ?_
    refine xr_last C hO2 hA.J (by decide) (by decide) (by decide) dL_cutSheet_8 ?_
    refine mq_ren (fun M1 hM1 => ?_)
    refine xr_goto C dL_cutSheet_9 rfl ?_
    refine xr_iconst (n := 0) C dL_cutSheet_15 (by decide +kernel) ?_
    refine mq_retX ?_
    exact xr_iret C hr hlk ⟨_, rfl, by rw [if_pos hv]; exact ⟨rfl, by rw [if_pos rfl]; exact ⟨_, by rw [hM1, mq_up_s], fun x9 e9 => by cases e9; rfl⟩, lwF.up (lwF.of hF9 (by decide)) hM1⟩⟩ (by omega) (by omega) dL_cutSheet_16
  · refine xr_callXV1i C (x_cutSheet l hlt G sb sn sx hG La hI M hV n hnr hv) (cwV 1 C.1.2.2.2.2 gL_cutSheet_X11_cutSheet rfl rfl rfl (by decide +kernel) ⟨Nat.le_of_ble_eq_true rfl, Nat.le_of_ble_eq_true rfl⟩) hV.1 rfl (Nat.le_of_ble_eq_true rfl) ⟨by dsimp only; omega, by dsimp only; omega⟩ dL_cutSheet_4 (fun E9 M9 hx9 => ?_) (fun _ _ h9 => h9.elim)
    obtain ⟨rfl, rfl⟩ := hx9
    refine xt_catch (name := "java/lang/IllegalArgumentException") C [] ⟨0, 9, 12, 13⟩ [] (hex.trans rfl) (fun _ h9 => nomatch h9) (by decide) (by decide) (C.1.2.2.2.2 (.classLink RL 13 "java/lang/IllegalArgumentException") (by decide +kernel)) (va_Nw.use (w := .castable eIA eIA) rfl ((hG.old C).2.2.1 _ (by decide +kernel))) (fun q9 => ?_)
    refine xr_astore_n C dL_cutSheet_12 (by decide) rfl ?_
    refine xr_iconst (n := 1) C dL_cutSheet_13 (by decide +kernel) ?_
    refine mq_retX ?_
    exact xr_iret C hr hlk ⟨_, rfl, by rw [if_neg hv]; exact ⟨rfl, by rw [if_neg (by decide)]; exact hO, lwF.rf⟩⟩ (by omega) (by omega) dL_cutSheet_14
set_option maxHeartbeats 4000000 in
set_option maxRecDepth 100000 in
theorem h_store (l : Launch) (hlt : l.stackTraces = false) (G : mq_G) (sb sn : Nat) (sx : Nat → Int32) (hG : pG G sb sn sx) (hA : pA G) (La : Nat → Nat) (hI : mq_inj La) (M : mq_M) (hV : vF G M La) (o : Nat) (ho : ∀ i, i < 275 → o ≠ La i) (hO : lwO G M o none) (v : Int) (hvr : -2147483648 ≤ v ∧ v < 2147483648) : mq_MetX l yL_store wsL_store { frames := 7, cells := 1, slots := 6, locals := 157 } G.1.1 (mq_tys G) [.ref (La 0), .int (zI v), .ref o] M (lwR G La o M (if 0 ≤ v ∧ v ≤ 65535 then 0 else 1) ((zI 1).toInt64)) (fun _ _ => False) 1 6 := by
  refine mq_MetX.ofH (cc := cL_store) (maxL := 4) (ret := (some .int)) (hh := [(0, 9, 12, 13), (0, 9, 15, 30)]) (by decide) rfl (Nat.le_of_ble_eq_true rfl) rfl rfl ?_
  intro p_ e_ s_ m_ args_ below_ meth_ c_ z_ C hr hlk hex
  obtain ⟨g0, hO1, -⟩ := id hO
  refine xr_aload_n C dL_store_0 rfl ?_
  refine xr_iconst (n := 0) C dL_store_1 (by decide +kernel) ?_
  refine xr_aload_n C dL_store_2 rfl ?_
  refine xr_iload_n C dL_store_3 rfl ?_
  by_cases hv : 0 ≤ v ∧ v ≤ 65535
  · obtain ⟨v, rfl⟩ := Int.eq_ofNat_of_zero_le (show 0 ≤ v by omega)
    refine xr_callV1i C (c_store l G La hI [] vk0 (fun _ => false) (fun _ => []) vr0 M hV v (by omega) (Or.inl (by decide))) (cwV 1 C.1.2.2.2.2 gL_store_X11_store rfl rfl rfl (by decide +kernel) ⟨Nat.le_of_ble_eq_true rfl, Nat.le_of_ble_eq_true rfl⟩) hV.1 rfl (Nat.le_of_ble_eq_true rfl) ⟨by dsimp only; omega, by dsimp only; omega⟩ dL_store_4 (fun r9 M9 hp9 => ?_)
    obtain ⟨kk, hk1, -, rfl, -, hF9⟩ := hp9
    have hkk : kk.1 = 1 := by rw [hk1]; exact if_neg (by show ¬ 0 ≤ dkOf 0 _ v; unfold dkOf; rw [if_neg (by omega)]; decide)
    rw [hkk]
    have hO2 : M9 o = some (.inl (gJ G, 1, .inr (.inl g0))) := (hF9 o (fun hm => by obtain ⟨r, hr, e⟩ := List.mem_map.mp hm; exact ho r (vtA_l r hr) e.symm)).trans hO1
    refine xr_i2l C dL_store_7 ?_
    refine xr_last C hO2 hA.J (by decide) (by decide) (by decide) dL_store_8 ?_
    refine mq_ren (fun M1 hM1 => ?_)
    refine xr_goto C dL_store_9 rfl ?_
    refine xr_iconst (n := 0) C dL_store_18 (by decide +kernel) ?_
    refine mq_retX ?_
    exact xr_iret C hr hlk ⟨_, rfl, by rw [if_pos hv]; exact ⟨rfl, by rw [if_pos rfl]; exact ⟨_, by rw [hM1, mq_up_s], fun x9 e9 => by cases e9; rfl⟩, lwF.up (lwF.of hF9 vtA_l) hM1⟩⟩ (by omega) (by omega) dL_store_19
  · refine xr_callXV1i C (x_store l hlt G sb sn sx hG La hI M hV v hvr (by omega)) (cwV 1 C.1.2.2.2.2 gL_store_X11_store rfl rfl rfl (by decide +kernel) ⟨Nat.le_of_ble_eq_true rfl, Nat.le_of_ble_eq_true rfl⟩) hV.1 rfl (Nat.le_of_ble_eq_true rfl) ⟨by dsimp only; omega, by dsimp only; omega⟩ dL_store_4 (fun E9 M9 hx9 => ?_) (fun _ _ h9 => h9.elim)
    obtain ⟨rfl, rfl⟩ := hx9
    refine xt_catch (name := "java/lang/IllegalArgumentException") C [] ⟨0, 9, 12, 13⟩ [⟨0, 9, 15, 30⟩] (hex.trans rfl) (fun _ h9 => nomatch h9) (by decide) (by decide) (C.1.2.2.2.2 (.classLink RL 13 "java/lang/IllegalArgumentException") (by decide +kernel)) (va_Nw.use (w := .castable eIA eIA) rfl ((hG.old C).2.2.1 _ (by decide +kernel))) (fun q9 => ?_)
    refine xr_astore_n C dL_store_12 (by decide) rfl ?_
    refine xr_iconst (n := 1) C dL_store_13 (by decide +kernel) ?_
    refine mq_retX ?_
    exact xr_iret C hr hlk ⟨_, rfl, by rw [if_neg hv]; exact ⟨rfl, by rw [if_neg (by decide)]; exact hO, lwF.rf⟩⟩ (by omega) (by omega) dL_store_14
set_option maxHeartbeats 4000000 in
set_option maxRecDepth 100000 in
theorem h_keyOf (l : Launch) (hlt : l.stackTraces = false) (G : mq_G) (sb sn : Nat) (sx : Nat → Int32) (hG : pG G sb sn sx) (hA : pA G) (La : Nat → Nat) (hI : mq_inj La) (M : mq_M) (hV : vF G M La) (o : Nat) (ho : ∀ i, i < 275 → o ≠ La i) (hO : lwO G M o none) (i : Int) (hir : -2147483648 ≤ i ∧ i < 2147483648) : mq_MetX l yL_keyOf wsL_keyOf { frames := 8, cells := 1, slots := 6, locals := 125 } G.1.1 (mq_tys G) [.ref (La 0), .int (zI i), .ref o] M (lwR G La o M (1) (0)) (fun _ _ => False) 1 6 := by
  refine mq_MetX.ofH (cc := cL_keyOf) (maxL := 4) (ret := (some .int)) (hh := [(0, 9, 12, 25)]) (by decide) rfl (Nat.le_of_ble_eq_true rfl) rfl rfl ?_
  intro p_ e_ s_ m_ args_ below_ meth_ c_ z_ C hr hlk hex
  obtain ⟨g0, hO1, -⟩ := id hO
  refine xr_aload_n C dL_keyOf_0 rfl ?_
  refine xr_iconst (n := 0) C dL_keyOf_1 (by decide +kernel) ?_
  refine xr_aload_n C dL_keyOf_2 rfl ?_
  refine xr_iload_n C dL_keyOf_3 rfl ?_
  refine xr_callXV1i C (x_keyOf l hlt G sb sn sx hG La hI M hV i hir) (cwV 1 C.1.2.2.2.2 gL_keyOf_X11_keyOf rfl rfl rfl (by decide +kernel) ⟨Nat.le_of_ble_eq_true rfl, Nat.le_of_ble_eq_true rfl⟩) hV.1 rfl (Nat.le_of_ble_eq_true rfl) ⟨by dsimp only; omega, by dsimp only; omega⟩ dL_keyOf_4 (fun E9 M9 hx9 => ?_) (fun _ _ h9 => h9.elim)
  obtain ⟨rfl, rfl⟩ := hx9
  refine xt_catch (name := "java/lang/IndexOutOfBoundsException") C [] ⟨0, 9, 12, 25⟩ [] (hex.trans rfl) (fun _ h9 => nomatch h9) (by decide) (by decide) (C.1.2.2.2.2 (.classLink RL 25 "java/lang/IndexOutOfBoundsException") (by decide +kernel)) (va_Nw.use (w := .castable eIO eIO) rfl ((hG.old C).2.2.1 _ (by decide +kernel))) (fun q9 => ?_)
  refine xr_astore_n C dL_keyOf_12 (by decide) rfl ?_
  refine xr_iconst (n := 1) C dL_keyOf_13 (by decide +kernel) ?_
  refine mq_retX ?_
  exact xr_iret C hr hlk ⟨_, rfl, by exact ⟨rfl, by rw [if_neg (by decide)]; exact hO, lwF.rf⟩⟩ (by omega) (by omega) dL_keyOf_14
set_option maxHeartbeats 4000000 in
set_option maxRecDepth 100000 in
theorem h_lengthOf (l : Launch) (hlt : l.stackTraces = false) (G : mq_G) (sb sn : Nat) (sx : Nat → Int32) (hG : pG G sb sn sx) (hA : pA G) (La : Nat → Nat) (hI : mq_inj La) (M : mq_M) (hV : vF G M La) (o : Nat) (ho : ∀ i, i < 275 → o ≠ La i) (hO : lwO G M o none) (i : Int) (hir : -2147483648 ≤ i ∧ i < 2147483648) : mq_MetX l yL_lengthOf wsL_lengthOf { frames := 8, cells := 1, slots := 6, locals := 125 } G.1.1 (mq_tys G) [.ref (La 0), .int (zI i), .ref o] M (lwR G La o M (1) (0)) (fun _ _ => False) 1 6 := by
  refine mq_MetX.ofH (cc := cL_lengthOf) (maxL := 4) (ret := (some .int)) (hh := [(0, 9, 12, 25)]) (by decide) rfl (Nat.le_of_ble_eq_true rfl) rfl rfl ?_
  intro p_ e_ s_ m_ args_ below_ meth_ c_ z_ C hr hlk hex
  obtain ⟨g0, hO1, -⟩ := id hO
  refine xr_aload_n C dL_lengthOf_0 rfl ?_
  refine xr_iconst (n := 0) C dL_lengthOf_1 (by decide +kernel) ?_
  refine xr_aload_n C dL_lengthOf_2 rfl ?_
  refine xr_iload_n C dL_lengthOf_3 rfl ?_
  refine xr_callXV1i C (x_lengthOf l hlt G sb sn sx hG La hI M hV i hir) (cwV 1 C.1.2.2.2.2 gL_lengthOf_X11_lengthOf rfl rfl rfl (by decide +kernel) ⟨Nat.le_of_ble_eq_true rfl, Nat.le_of_ble_eq_true rfl⟩) hV.1 rfl (Nat.le_of_ble_eq_true rfl) ⟨by dsimp only; omega, by dsimp only; omega⟩ dL_lengthOf_4 (fun E9 M9 hx9 => ?_) (fun _ _ h9 => h9.elim)
  obtain ⟨rfl, rfl⟩ := hx9
  refine xt_catch (name := "java/lang/IndexOutOfBoundsException") C [] ⟨0, 9, 12, 25⟩ [] (hex.trans rfl) (fun _ h9 => nomatch h9) (by decide) (by decide) (C.1.2.2.2.2 (.classLink RL 25 "java/lang/IndexOutOfBoundsException") (by decide +kernel)) (va_Nw.use (w := .castable eIO eIO) rfl ((hG.old C).2.2.1 _ (by decide +kernel))) (fun q9 => ?_)
  refine xr_astore_n C dL_lengthOf_12 (by decide) rfl ?_
  refine xr_iconst (n := 1) C dL_lengthOf_13 (by decide +kernel) ?_
  refine mq_retX ?_
  exact xr_iret C hr hlk ⟨_, rfl, by exact ⟨rfl, by rw [if_neg (by decide)]; exact hO, lwF.rf⟩⟩ (by omega) (by omega) dL_lengthOf_14
set_option maxHeartbeats 4000000 in
set_option maxRecDepth 100000 in
theorem h_contentAt (l : Launch) (hlt : l.stackTraces = false) (G : mq_G) (sb sn : Nat) (sx : Nat → Int32) (hG : pG G sb sn sx) (hA : pA G) (La : Nat → Nat) (hI : mq_inj La) (M : mq_M) (hV : vF G M La) (o : Nat) (ho : ∀ i, i < 275 → o ≠ La i) (hO : lwO G M o none) (i : Int) (hir : -2147483648 ≤ i ∧ i < 2147483648) (q : Int) (hqr : -2147483648 ≤ q ∧ q < 2147483648) : mq_MetX l yL_contentAt wsL_contentAt { frames := 8, cells := 1, slots := 6, locals := 126 } G.1.1 (mq_tys G) [.ref (La 0), .int (zI i), .int (zI q), .ref o] M (lwR G La o M (1) (0)) (fun _ _ => False) 1 6 := by
  refine mq_MetX.ofH (cc := cL_contentAt) (maxL := 5) (ret := (some .int)) (hh := [(0, 10, 13, 25)]) (by decide) rfl (Nat.le_of_ble_eq_true rfl) rfl rfl ?_
  intro p_ e_ s_ m_ args_ below_ meth_ c_ z_ C hr hlk hex
  obtain ⟨g0, hO1, -⟩ := id hO
  refine xr_aload_n C dL_contentAt_0 rfl ?_
  refine xr_iconst (n := 0) C dL_contentAt_1 (by decide +kernel) ?_
  refine xr_aload_n C dL_contentAt_2 rfl ?_
  refine xr_iload_n C dL_contentAt_3 rfl ?_
  refine xr_iload_n C dL_contentAt_4 rfl ?_
  refine xr_callXV2i C (x_contentAt l hlt G sb sn sx hG La hI M hV i hir q hqr) (cwV 2 C.1.2.2.2.2 gL_contentAt_X11_contentAt rfl rfl rfl (by decide +kernel) ⟨Nat.le_of_ble_eq_true rfl, Nat.le_of_ble_eq_true rfl⟩) hV.1 rfl (Nat.le_of_ble_eq_true rfl) ⟨by dsimp only; omega, by dsimp only; omega⟩ dL_contentAt_5 (fun E9 M9 hx9 => ?_) (fun _ _ h9 => h9.elim)
  obtain ⟨rfl, rfl⟩ := hx9
  refine xt_catch (name := "java/lang/IndexOutOfBoundsException") C [] ⟨0, 10, 13, 25⟩ [] (hex.trans rfl) (fun _ h9 => nomatch h9) (by decide) (by decide) (C.1.2.2.2.2 (.classLink RL 25 "java/lang/IndexOutOfBoundsException") (by decide +kernel)) (va_Nw.use (w := .castable eIO eIO) rfl ((hG.old C).2.2.1 _ (by decide +kernel))) (fun q9 => ?_)
  refine xr_astore C dL_contentAt_13 (by decide) rfl ?_
  refine xr_iconst (n := 1) C dL_contentAt_15 (by decide +kernel) ?_
  refine mq_retX ?_
  exact xr_iret C hr hlk ⟨_, rfl, by exact ⟨rfl, by rw [if_neg (by decide)]; exact hO, lwF.rf⟩⟩ (by omega) (by omega) dL_contentAt_16
set_option maxHeartbeats 4000000 in
set_option maxRecDepth 100000 in
theorem h_checkOf (l : Launch) (hlt : l.stackTraces = false) (G : mq_G) (sb sn : Nat) (sx : Nat → Int32) (hG : pG G sb sn sx) (hA : pA G) (La : Nat → Nat) (hI : mq_inj La) (M : mq_M) (hV : vF G M La) (o : Nat) (ho : ∀ i, i < 275 → o ≠ La i) (hO : lwO G M o none) (i : Int) (hir : -2147483648 ≤ i ∧ i < 2147483648) : mq_MetX l yL_checkOf wsL_checkOf { frames := 8, cells := 1, slots := 6, locals := 125 } G.1.1 (mq_tys G) [.ref (La 0), .int (zI i), .ref o] M (lwR G La o M (1) (0)) (fun _ _ => False) 1 6 := by
  refine mq_MetX.ofH (cc := cL_checkOf) (maxL := 4) (ret := (some .int)) (hh := [(0, 9, 12, 25)]) (by decide) rfl (Nat.le_of_ble_eq_true rfl) rfl rfl ?_
  intro p_ e_ s_ m_ args_ below_ meth_ c_ z_ C hr hlk hex
  obtain ⟨g0, hO1, -⟩ := id hO
  refine xr_aload_n C dL_checkOf_0 rfl ?_
  refine xr_iconst (n := 0) C dL_checkOf_1 (by decide +kernel) ?_
  refine xr_aload_n C dL_checkOf_2 rfl ?_
  refine xr_iload_n C dL_checkOf_3 rfl ?_
  refine xr_callXV1i C (x_checkOf l hlt G sb sn sx hG La hI M hV i hir) (cwV 1 C.1.2.2.2.2 gL_checkOf_X11_checkOf rfl rfl rfl (by decide +kernel) ⟨Nat.le_of_ble_eq_true rfl, Nat.le_of_ble_eq_true rfl⟩) hV.1 rfl (Nat.le_of_ble_eq_true rfl) ⟨by dsimp only; omega, by dsimp only; omega⟩ dL_checkOf_4 (fun E9 M9 hx9 => ?_) (fun _ _ h9 => h9.elim)
  obtain ⟨rfl, rfl⟩ := hx9
  refine xt_catch (name := "java/lang/IndexOutOfBoundsException") C [] ⟨0, 9, 12, 25⟩ [] (hex.trans rfl) (fun _ h9 => nomatch h9) (by decide) (by decide) (C.1.2.2.2.2 (.classLink RL 25 "java/lang/IndexOutOfBoundsException") (by decide +kernel)) (va_Nw.use (w := .castable eIO eIO) rfl ((hG.old C).2.2.1 _ (by decide +kernel))) (fun q9 => ?_)
  refine xr_astore_n C dL_checkOf_12 (by decide) rfl ?_
  refine xr_iconst (n := 1) C dL_checkOf_13 (by decide +kernel) ?_
  refine mq_retX ?_
  exact xr_iret C hr hlk ⟨_, rfl, by exact ⟨rfl, by rw [if_neg (by decide)]; exact hO, lwF.rf⟩⟩ (by omega) (by omega) dL_checkOf_14
set_option maxHeartbeats 4000000 in
set_option maxRecDepth 100000 in
theorem h_packedLength (l : Launch) (hlt : l.stackTraces = false) (G : mq_G) (sb sn : Nat) (sx : Nat → Int32) (hG : pG G sb sn sx) (hA : pA G) (La : Nat → Nat) (hI : mq_inj La) (M : mq_M) (hV : vF G M La) (o : Nat) (ho : ∀ i, i < 275 → o ≠ La i) (hO : lwO G M o none) (i : Int) (hir : -2147483648 ≤ i ∧ i < 2147483648) : mq_MetX l yL_packedLength wsL_packedLength { frames := 8, cells := 1, slots := 6, locals := 125 } G.1.1 (mq_tys G) [.ref (La 0), .int (zI i), .ref o] M (lwR G La o M (1) (0)) (fun _ _ => False) 1 6 := by
  refine mq_MetX.ofH (cc := cL_packedLength) (maxL := 4) (ret := (some .int)) (hh := [(0, 9, 12, 25)]) (by decide) rfl (Nat.le_of_ble_eq_true rfl) rfl rfl ?_
  intro p_ e_ s_ m_ args_ below_ meth_ c_ z_ C hr hlk hex
  obtain ⟨g0, hO1, -⟩ := id hO
  refine xr_aload_n C dL_packedLength_0 rfl ?_
  refine xr_iconst (n := 0) C dL_packedLength_1 (by decide +kernel) ?_
  refine xr_aload_n C dL_packedLength_2 rfl ?_
  refine xr_iload_n C dL_packedLength_3 rfl ?_
  refine xr_callXV1i C (x_packedLength l hlt G sb sn sx hG La hI M hV i hir) (cwV 1 C.1.2.2.2.2 gL_packedLength_X11_packedLength rfl rfl rfl (by decide +kernel) ⟨Nat.le_of_ble_eq_true rfl, Nat.le_of_ble_eq_true rfl⟩) hV.1 rfl (Nat.le_of_ble_eq_true rfl) ⟨by dsimp only; omega, by dsimp only; omega⟩ dL_packedLength_4 (fun E9 M9 hx9 => ?_) (fun _ _ h9 => h9.elim)
  obtain ⟨rfl, rfl⟩ := hx9
  refine xt_catch (name := "java/lang/IndexOutOfBoundsException") C [] ⟨0, 9, 12, 25⟩ [] (hex.trans rfl) (fun _ h9 => nomatch h9) (by decide) (by decide) (C.1.2.2.2.2 (.classLink RL 25 "java/lang/IndexOutOfBoundsException") (by decide +kernel)) (va_Nw.use (w := .castable eIO eIO) rfl ((hG.old C).2.2.1 _ (by decide +kernel))) (fun q9 => ?_)
  refine xr_astore_n C dL_packedLength_12 (by decide) rfl ?_
  refine xr_iconst (n := 1) C dL_packedLength_13 (by decide +kernel) ?_
  refine mq_retX ?_
  exact xr_iret C hr hlk ⟨_, rfl, by exact ⟨rfl, by rw [if_neg (by decide)]; exact hO, lwF.rf⟩⟩ (by omega) (by omega) dL_packedLength_14
set_option maxHeartbeats 4000000 in
set_option maxRecDepth 100000 in
theorem h_packedAt (l : Launch) (hlt : l.stackTraces = false) (G : mq_G) (sb sn : Nat) (sx : Nat → Int32) (hG : pG G sb sn sx) (hA : pA G) (La : Nat → Nat) (hI : mq_inj La) (M : mq_M) (hV : vF G M La) (o : Nat) (ho : ∀ i, i < 275 → o ≠ La i) (hO : lwO G M o none) (i : Int) (hir : -2147483648 ≤ i ∧ i < 2147483648) (q : Int) (hqr : -2147483648 ≤ q ∧ q < 2147483648) : mq_MetX l yL_packedAt wsL_packedAt { frames := 8, cells := 1, slots := 6, locals := 126 } G.1.1 (mq_tys G) [.ref (La 0), .int (zI i), .int (zI q), .ref o] M (lwR G La o M (1) (0)) (fun _ _ => False) 1 6 := by
  refine mq_MetX.ofH (cc := cL_packedAt) (maxL := 5) (ret := (some .int)) (hh := [(0, 10, 13, 25)]) (by decide) rfl (Nat.le_of_ble_eq_true rfl) rfl rfl ?_
  intro p_ e_ s_ m_ args_ below_ meth_ c_ z_ C hr hlk hex
  obtain ⟨g0, hO1, -⟩ := id hO
  refine xr_aload_n C dL_packedAt_0 rfl ?_
  refine xr_iconst (n := 0) C dL_packedAt_1 (by decide +kernel) ?_
  refine xr_aload_n C dL_packedAt_2 rfl ?_
  refine xr_iload_n C dL_packedAt_3 rfl ?_
  refine xr_iload_n C dL_packedAt_4 rfl ?_
  refine xr_callXV2i C (x_packedAt l hlt G sb sn sx hG La hI M hV i hir q hqr) (cwV 2 C.1.2.2.2.2 gL_packedAt_X11_packedAt rfl rfl rfl (by decide +kernel) ⟨Nat.le_of_ble_eq_true rfl, Nat.le_of_ble_eq_true rfl⟩) hV.1 rfl (Nat.le_of_ble_eq_true rfl) ⟨by dsimp only; omega, by dsimp only; omega⟩ dL_packedAt_5 (fun E9 M9 hx9 => ?_) (fun _ _ h9 => h9.elim)
  obtain ⟨rfl, rfl⟩ := hx9
  refine xt_catch (name := "java/lang/IndexOutOfBoundsException") C [] ⟨0, 10, 13, 25⟩ [] (hex.trans rfl) (fun _ h9 => nomatch h9) (by decide) (by decide) (C.1.2.2.2.2 (.classLink RL 25 "java/lang/IndexOutOfBoundsException") (by decide +kernel)) (va_Nw.use (w := .castable eIO eIO) rfl ((hG.old C).2.2.1 _ (by decide +kernel))) (fun q9 => ?_)
  refine xr_astore C dL_packedAt_13 (by decide) rfl ?_
  refine xr_iconst (n := 1) C dL_packedAt_15 (by decide +kernel) ?_
  refine mq_retX ?_
  exact xr_iret C hr hlk ⟨_, rfl, by exact ⟨rfl, by rw [if_neg (by decide)]; exact hO, lwF.rf⟩⟩ (by omega) (by omega) dL_packedAt_16
set_option maxHeartbeats 4000000 in
set_option maxRecDepth 100000 in
theorem h_byteAt (l : Launch) (hlt : l.stackTraces = false) (G : mq_G) (sb sn : Nat) (sx : Nat → Int32) (hG : pG G sb sn sx) (hA : pA G) (La : Nat → Nat) (hI : mq_inj La) (M : mq_M) (hV : vF G M La) (o : Nat) (ho : ∀ i, i < 275 → o ≠ La i) (hO : lwO G M o none) (i : Int) (hir : -2147483648 ≤ i ∧ i < 2147483648) (q : Int) (hqr : -2147483648 ≤ q ∧ q < 2147483648) : mq_MetX l yL_byteAt wsL_byteAt { frames := 9, cells := 1, slots := 6, locals := 148 } G.1.1 (mq_tys G) [.ref (La 0), .int (zI i), .int (zI q), .ref o] M (lwR G La o M (1) (0)) (fun _ _ => False) 1 6 := by
  refine mq_MetX.ofH (cc := cL_byteAt) (maxL := 5) (ret := (some .int)) (hh := [(0, 10, 13, 25)]) (by decide) rfl (Nat.le_of_ble_eq_true rfl) rfl rfl ?_
  intro p_ e_ s_ m_ args_ below_ meth_ c_ z_ C hr hlk hex
  obtain ⟨g0, hO1, -⟩ := id hO
  refine xr_aload_n C dL_byteAt_0 rfl ?_
  refine xr_iconst (n := 0) C dL_byteAt_1 (by decide +kernel) ?_
  refine xr_aload_n C dL_byteAt_2 rfl ?_
  refine xr_iload_n C dL_byteAt_3 rfl ?_
  refine xr_iload_n C dL_byteAt_4 rfl ?_
  refine xr_callXV2i C (x_byteAt l hlt G sb sn sx hG La hI M hV i hir q hqr) (cwV 2 C.1.2.2.2.2 gL_byteAt_X11_byteAt rfl rfl rfl (by decide +kernel) ⟨Nat.le_of_ble_eq_true rfl, Nat.le_of_ble_eq_true rfl⟩) hV.1 rfl (Nat.le_of_ble_eq_true rfl) ⟨by dsimp only; omega, by dsimp only; omega⟩ dL_byteAt_5 (fun E9 M9 hx9 => ?_) (fun _ _ h9 => h9.elim)
  obtain ⟨rfl, rfl⟩ := hx9
  refine xt_catch (name := "java/lang/IndexOutOfBoundsException") C [] ⟨0, 10, 13, 25⟩ [] (hex.trans rfl) (fun _ h9 => nomatch h9) (by decide) (by decide) (C.1.2.2.2.2 (.classLink RL 25 "java/lang/IndexOutOfBoundsException") (by decide +kernel)) (va_Nw.use (w := .castable eIO eIO) rfl ((hG.old C).2.2.1 _ (by decide +kernel))) (fun q9 => ?_)
  refine xr_astore C dL_byteAt_13 (by decide) rfl ?_
  refine xr_iconst (n := 1) C dL_byteAt_15 (by decide +kernel) ?_
  refine mq_retX ?_
  exact xr_iret C hr hlk ⟨_, rfl, by exact ⟨rfl, by rw [if_neg (by decide)]; exact hO, lwF.rf⟩⟩ (by omega) (by omega) dL_byteAt_16
set_option maxHeartbeats 4000000 in
set_option maxRecDepth 100000 in
theorem h_spoil (l : Launch) (hlt : l.stackTraces = false) (G : mq_G) (sb sn : Nat) (sx : Nat → Int32) (hG : pG G sb sn sx) (hA : pA G) (La : Nat → Nat) (hI : mq_inj La) (M : mq_M) (hV : vF G M La) (o : Nat) (ho : ∀ i, i < 275 → o ≠ La i) (hO : lwO G M o none) (i : Int) (hir : -2147483648 ≤ i ∧ i < 2147483648) (q : Int) (hqr : -2147483648 ≤ q ∧ q < 2147483648) (b : Int) (hbr : -2147483648 ≤ b ∧ b < 2147483648) : mq_MetX l yL_spoil wsL_spoil { frames := 9, cells := 1, slots := 6, locals := 150 } G.1.1 (mq_tys G) [.ref (La 0), .int (zI i), .int (zI q), .int (zI b), .ref o] M (lwR G La o M (1) (0)) (fun _ _ => False) 1 6 := by
  refine mq_MetX.ofH (cc := cL_spoil) (maxL := 6) (ret := (some .int)) (hh := [(0, 12, 15, 25), (0, 12, 19, 13)]) (by decide) rfl (Nat.le_of_ble_eq_true rfl) rfl rfl ?_
  intro p_ e_ s_ m_ args_ below_ meth_ c_ z_ C hr hlk hex
  obtain ⟨g0, hO1, -⟩ := id hO
  refine xr_aload C dL_spoil_0 rfl ?_
  refine xr_iconst (n := 0) C dL_spoil_2 (by decide +kernel) ?_
  refine xr_aload_n C dL_spoil_3 rfl ?_
  refine xr_iload_n C dL_spoil_4 rfl ?_
  refine xr_iload_n C dL_spoil_5 rfl ?_
  refine xr_iload_n C dL_spoil_6 rfl ?_
  refine xr_callXV3i C (x_spoil l hlt G sb sn sx hG La hI M hV i hir q hqr b hbr) (cwV 3 C.1.2.2.2.2 gL_spoil_X11_spoil rfl rfl rfl (by decide +kernel) ⟨Nat.le_of_ble_eq_true rfl, Nat.le_of_ble_eq_true rfl⟩) hV.1 rfl (Nat.le_of_ble_eq_true rfl) ⟨by dsimp only; omega, by dsimp only; omega⟩ dL_spoil_7 (fun E9 M9 hx9 => ?_) (fun _ _ h9 => h9.elim)
  obtain ⟨rfl, rfl⟩ := hx9
  refine xt_catch (name := "java/lang/IndexOutOfBoundsException") C [] ⟨0, 12, 15, 25⟩ [⟨0, 12, 19, 13⟩] (hex.trans rfl) (fun _ h9 => nomatch h9) (by decide) (by decide) (C.1.2.2.2.2 (.classLink RL 25 "java/lang/IndexOutOfBoundsException") (by decide +kernel)) (va_Nw.use (w := .castable eIO eIO) rfl ((hG.old C).2.2.1 _ (by decide +kernel))) (fun q9 => ?_)
  refine xr_astore C dL_spoil_15 (by decide) rfl ?_
  refine xr_iconst (n := 1) C dL_spoil_17 (by decide +kernel) ?_
  refine mq_retX ?_
  exact xr_iret C hr hlk ⟨_, rfl, by exact ⟨rfl, by rw [if_neg (by decide)]; exact hO, lwF.rf⟩⟩ (by omega) (by omega) dL_spoil_18
set_option maxHeartbeats 4000000 in
set_option maxRecDepth 100000 in
theorem h_sign (l : Launch) (hlt : l.stackTraces = false) (G : mq_G) (sb sn : Nat) (sx : Nat → Int32) (hG : pG G sb sn sx) (hA : pA G) (La : Nat → Nat) (hI : mq_inj La) (M : mq_M) (hV : vF G M La) (o : Nat) (ho : ∀ i, i < 275 → o ≠ La i) (hO : lwO G M o none) (i : Int) (hir : -2147483648 ≤ i ∧ i < 2147483648) : mq_MetX l yL_sign wsL_sign { frames := 9, cells := 1, slots := 6, locals := 148 } G.1.1 (mq_tys G) [.ref (La 0), .int (zI i), .ref o] M (lwR G La o M (1) (0)) (fun _ _ => False) 1 6 := by
  refine mq_MetX.ofH (cc := cL_sign) (maxL := 4) (ret := (some .int)) (hh := [(0, 9, 12, 25), (0, 9, 15, 30)]) (by decide) rfl (Nat.le_of_ble_eq_true rfl) rfl rfl ?_
  intro p_ e_ s_ m_ args_ below_ meth_ c_ z_ C hr hlk hex
  obtain ⟨g0, hO1, -⟩ := id hO
  refine xr_aload_n C dL_sign_0 rfl ?_
  refine xr_iconst (n := 0) C dL_sign_1 (by decide +kernel) ?_
  refine xr_aload_n C dL_sign_2 rfl ?_
  refine xr_iload_n C dL_sign_3 rfl ?_
  refine xr_callXV1i C (x_sign l hlt G sb sn sx hG La hI M hV i hir) (cwV 1 C.1.2.2.2.2 gL_sign_X11_sign rfl rfl rfl (by decide +kernel) ⟨Nat.le_of_ble_eq_true rfl, Nat.le_of_ble_eq_true rfl⟩) hV.1 rfl (Nat.le_of_ble_eq_true rfl) ⟨by dsimp only; omega, by dsimp only; omega⟩ dL_sign_4 (fun E9 M9 hx9 => ?_) (fun _ _ h9 => h9.elim)
  obtain ⟨rfl, rfl⟩ := hx9
  refine xt_catch (name := "java/lang/IndexOutOfBoundsException") C [] ⟨0, 9, 12, 25⟩ [⟨0, 9, 15, 30⟩] (hex.trans rfl) (fun _ h9 => nomatch h9) (by decide) (by decide) (C.1.2.2.2.2 (.classLink RL 25 "java/lang/IndexOutOfBoundsException") (by decide +kernel)) (va_Nw.use (w := .castable eIO eIO) rfl ((hG.old C).2.2.1 _ (by decide +kernel))) (fun q9 => ?_)
  refine xr_astore_n C dL_sign_12 (by decide) rfl ?_
  refine xr_iconst (n := 1) C dL_sign_13 (by decide +kernel) ?_
  refine mq_retX ?_
  exact xr_iret C hr hlk ⟨_, rfl, by exact ⟨rfl, by rw [if_neg (by decide)]; exact hO, lwF.rf⟩⟩ (by omega) (by omega) dL_sign_14
set_option maxHeartbeats 4000000 in
set_option maxRecDepth 100000 in
theorem h_cut (l : Launch) (hlt : l.stackTraces = false) (G : mq_G) (sb sn : Nat) (sx : Nat → Int32) (hG : pG G sb sn sx) (hA : pA G) (La : Nat → Nat) (hI : mq_inj La) (M : mq_M) (hV : vF G M La) (o : Nat) (ho : ∀ i, i < 275 → o ≠ La i) (hO : lwO G M o none) (i : Int) (hir : -2147483648 ≤ i ∧ i < 2147483648) (q : Int) (hqr : -2147483648 ≤ q ∧ q < 2147483648) : mq_MetX l yL_cut wsL_cut { frames := 9, cells := 1, slots := 6, locals := 150 } G.1.1 (mq_tys G) [.ref (La 0), .int (zI i), .int (zI q), .ref o] M (lwR G La o M (1) (0)) (fun _ _ => False) 1 6 := by
  refine mq_MetX.ofH (cc := cL_cut) (maxL := 5) (ret := (some .int)) (hh := [(0, 10, 13, 25), (0, 10, 17, 13)]) (by decide) rfl (Nat.le_of_ble_eq_true rfl) rfl rfl ?_
  intro p_ e_ s_ m_ args_ below_ meth_ c_ z_ C hr hlk hex
  obtain ⟨g0, hO1, -⟩ := id hO
  refine xr_aload_n C dL_cut_0 rfl ?_
  refine xr_iconst (n := 0) C dL_cut_1 (by decide +kernel) ?_
  refine xr_aload_n C dL_cut_2 rfl ?_
  refine xr_iload_n C dL_cut_3 rfl ?_
  refine xr_iload_n C dL_cut_4 rfl ?_
  refine xr_callXV2i C (x_cut l hlt G sb sn sx hG La hI M hV i hir q hqr) (cwV 2 C.1.2.2.2.2 gL_cut_X11_cut rfl rfl rfl (by decide +kernel) ⟨Nat.le_of_ble_eq_true rfl, Nat.le_of_ble_eq_true rfl⟩) hV.1 rfl (Nat.le_of_ble_eq_true rfl) ⟨by dsimp only; omega, by dsimp only; omega⟩ dL_cut_5 (fun E9 M9 hx9 => ?_) (fun _ _ h9 => h9.elim)
  obtain ⟨rfl, rfl⟩ := hx9
  refine xt_catch (name := "java/lang/IndexOutOfBoundsException") C [] ⟨0, 10, 13, 25⟩ [⟨0, 10, 17, 13⟩] (hex.trans rfl) (fun _ h9 => nomatch h9) (by decide) (by decide) (C.1.2.2.2.2 (.classLink RL 25 "java/lang/IndexOutOfBoundsException") (by decide +kernel)) (va_Nw.use (w := .castable eIO eIO) rfl ((hG.old C).2.2.1 _ (by decide +kernel))) (fun q9 => ?_)
  refine xr_astore C dL_cut_13 (by decide) rfl ?_
  refine xr_iconst (n := 1) C dL_cut_15 (by decide +kernel) ?_
  refine mq_retX ?_
  exact xr_iret C hr hlk ⟨_, rfl, by exact ⟨rfl, by rw [if_neg (by decide)]; exact hO, lwF.rf⟩⟩ (by omega) (by omega) dL_cut_16
set_option maxHeartbeats 4000000 in
set_option maxRecDepth 100000 in
theorem h_copy (l : Launch) (hlt : l.stackTraces = false) (G : mq_G) (sb sn : Nat) (sx : Nat → Int32) (hG : pG G sb sn sx) (hA : pA G) (La : Nat → Nat) (hI : mq_inj La) (M : mq_M) (hV : vF G M La) (o : Nat) (ho : ∀ i, i < 275 → o ≠ La i) (hO : lwO G M o none) (i : Int) (hir : -2147483648 ≤ i ∧ i < 2147483648) (q : Int) (hqr : -2147483648 ≤ q ∧ q < 2147483648) : mq_MetX l yL_copy wsL_copy { frames := 9, cells := 1, slots := 6, locals := 149 } G.1.1 (mq_tys G) [.ref (La 0), .int (zI i), .int (zI q), .ref o] M (lwR G La o M (1) (0)) (fun _ _ => False) 1 6 := by
  refine mq_MetX.ofH (cc := cL_copy) (maxL := 5) (ret := (some .int)) (hh := [(0, 10, 13, 25)]) (by decide) rfl (Nat.le_of_ble_eq_true rfl) rfl rfl ?_
  intro p_ e_ s_ m_ args_ below_ meth_ c_ z_ C hr hlk hex
  obtain ⟨g0, hO1, -⟩ := id hO
  refine xr_aload_n C dL_copy_0 rfl ?_
  refine xr_iconst (n := 0) C dL_copy_1 (by decide +kernel) ?_
  refine xr_aload_n C dL_copy_2 rfl ?_
  refine xr_iload_n C dL_copy_3 rfl ?_
  refine xr_iload_n C dL_copy_4 rfl ?_
  refine xr_callXV2i C (x_copy l hlt G sb sn sx hG La hI M hV i hir q hqr) (cwV 2 C.1.2.2.2.2 gL_copy_X11_copy rfl rfl rfl (by decide +kernel) ⟨Nat.le_of_ble_eq_true rfl, Nat.le_of_ble_eq_true rfl⟩) hV.1 rfl (Nat.le_of_ble_eq_true rfl) ⟨by dsimp only; omega, by dsimp only; omega⟩ dL_copy_5 (fun E9 M9 hx9 => ?_) (fun _ _ h9 => h9.elim)
  obtain ⟨rfl, rfl⟩ := hx9
  refine xt_catch (name := "java/lang/IndexOutOfBoundsException") C [] ⟨0, 10, 13, 25⟩ [] (hex.trans rfl) (fun _ h9 => nomatch h9) (by decide) (by decide) (C.1.2.2.2.2 (.classLink RL 25 "java/lang/IndexOutOfBoundsException") (by decide +kernel)) (va_Nw.use (w := .castable eIO eIO) rfl ((hG.old C).2.2.1 _ (by decide +kernel))) (fun q9 => ?_)
  refine xr_astore C dL_copy_13 (by decide) rfl ?_
  refine xr_iconst (n := 1) C dL_copy_15 (by decide +kernel) ?_
  refine mq_retX ?_
  exact xr_iret C hr hlk ⟨_, rfl, by exact ⟨rfl, by rw [if_neg (by decide)]; exact hO, lwF.rf⟩⟩ (by omega) (by omega) dL_copy_16
set_option maxHeartbeats 4000000 in
set_option maxRecDepth 100000 in
theorem h_repair (l : Launch) (hlt : l.stackTraces = false) (G : mq_G) (sb sn : Nat) (sx : Nat → Int32) (hG : pG G sb sn sx) (hA : pA G) (La : Nat → Nat) (hI : mq_inj La) (M : mq_M) (hV : vF G M La) (o : Nat) (ho : ∀ i, i < 275 → o ≠ La i) (hO : lwO G M o none)  : mq_MetX l yL_repair wsL_repair { frames := 8, cells := 1, slots := 6, locals := 163 } G.1.1 (mq_tys G) [.ref (La 0), .ref o] M (lwR G La o M (1) (0)) (fun _ _ => False) 1 6 := by
  refine mq_MetX.ofH (cc := cL_repair) (maxL := 3) (ret := (some .int)) (hh := [(0, 8, 11, 30)]) (by decide) rfl (Nat.le_of_ble_eq_true rfl) rfl rfl ?_
  intro p_ e_ s_ m_ args_ below_ meth_ c_ z_ C hr hlk hex
  obtain ⟨g0, hO1, -⟩ := id hO
  refine xr_aload_n C dL_repair_0 rfl ?_
  refine xr_iconst (n := 0) C dL_repair_1 (by decide +kernel) ?_
  refine xr_aload_n C dL_repair_2 rfl ?_
  refine xr_callXV0i C (x_repair l hlt G sb sn sx hG La hI M hV) (cwV 0 C.1.2.2.2.2 gL_repair_X11_repair rfl rfl rfl (by decide +kernel) ⟨Nat.le_of_ble_eq_true rfl, Nat.le_of_ble_eq_true rfl⟩) hV.1 rfl (Nat.le_of_ble_eq_true rfl) ⟨by dsimp only; omega, by dsimp only; omega⟩ dL_repair_3 (fun E9 M9 hx9 => ?_) (fun _ _ h9 => h9.elim)
  obtain ⟨rfl, rfl⟩ := hx9
  refine xt_catch (name := "java/lang/IllegalStateException") C [] ⟨0, 8, 11, 30⟩ [] (hex.trans rfl) (fun _ h9 => nomatch h9) (by decide) (by decide) (C.1.2.2.2.2 (.classLink RL 30 "java/lang/IllegalStateException") (by decide +kernel)) (va_Nw.use (w := .castable eIS eIS) rfl ((hG.old C).2.2.1 _ (by decide +kernel))) (fun q9 => ?_)
  refine xr_astore_n C dL_repair_11 (by decide) rfl ?_
  refine xr_iconst (n := 1) C dL_repair_12 (by decide +kernel) ?_
  refine mq_retX ?_
  exact xr_iret C hr hlk ⟨_, rfl, by exact ⟨rfl, by rw [if_neg (by decide)]; exact hO, lwF.rf⟩⟩ (by omega) (by omega) dL_repair_13
set_option maxHeartbeats 4000000 in
set_option maxRecDepth 100000 in
theorem h_opened (l : Launch) (hlt : l.stackTraces = false) (G : mq_G) (sb sn : Nat) (sx : Nat → Int32) (hG : pG G sb sn sx) (hA : pA G) (La : Nat → Nat) (hI : mq_inj La) (M : mq_M) (hV : vF G M La) (o : Nat) (ho : ∀ i, i < 275 → o ≠ La i) (hO : lwO G M o none)  : mq_MetX l yL_opened wsL_opened { frames := 8, cells := 1, slots := 6, locals := 122 } G.1.1 (mq_tys G) [.ref (La 0), .ref o] M (lwR G La o M (1) (0)) (fun _ _ => False) 1 6 := by
  refine mq_MetX.ofH (cc := cL_opened) (maxL := 3) (ret := (some .int)) (hh := [(0, 8, 11, 30)]) (by decide) rfl (Nat.le_of_ble_eq_true rfl) rfl rfl ?_
  intro p_ e_ s_ m_ args_ below_ meth_ c_ z_ C hr hlk hex
  obtain ⟨g0, hO1, -⟩ := id hO
  refine xr_aload_n C dL_opened_0 rfl ?_
  refine xr_iconst (n := 0) C dL_opened_1 (by decide +kernel) ?_
  refine xr_aload_n C dL_opened_2 rfl ?_
  refine xr_callXV0i C (x_opened l hlt G sb sn sx hG La hI M hV) (cwV 0 C.1.2.2.2.2 gL_opened_X11_opened rfl rfl rfl (by decide +kernel) ⟨Nat.le_of_ble_eq_true rfl, Nat.le_of_ble_eq_true rfl⟩) hV.1 rfl (Nat.le_of_ble_eq_true rfl) ⟨by dsimp only; omega, by dsimp only; omega⟩ dL_opened_3 (fun E9 M9 hx9 => ?_) (fun _ _ h9 => h9.elim)
  obtain ⟨rfl, rfl⟩ := hx9
  refine xt_catch (name := "java/lang/IllegalStateException") C [] ⟨0, 8, 11, 30⟩ [] (hex.trans rfl) (fun _ h9 => nomatch h9) (by decide) (by decide) (C.1.2.2.2.2 (.classLink RL 30 "java/lang/IllegalStateException") (by decide +kernel)) (va_Nw.use (w := .castable eIS eIS) rfl ((hG.old C).2.2.1 _ (by decide +kernel))) (fun q9 => ?_)
  refine xr_astore_n C dL_opened_11 (by decide) rfl ?_
  refine xr_iconst (n := 1) C dL_opened_12 (by decide +kernel) ?_
  refine mq_retX ?_
  exact xr_iret C hr hlk ⟨_, rfl, by exact ⟨rfl, by rw [if_neg (by decide)]; exact hO, lwF.rf⟩⟩ (by omega) (by omega) dL_opened_13
set_option maxHeartbeats 4000000 in
set_option maxRecDepth 100000 in
theorem h_streamAt (l : Launch) (hlt : l.stackTraces = false) (G : mq_G) (sb sn : Nat) (sx : Nat → Int32) (hG : pG G sb sn sx) (hA : pA G) (La : Nat → Nat) (hI : mq_inj La) (M : mq_M) (hV : vF G M La) (o : Nat) (ho : ∀ i, i < 275 → o ≠ La i) (hO : lwO G M o none) (i : Int) (hir : -2147483648 ≤ i ∧ i < 2147483648) : mq_MetX l yL_streamAt wsL_streamAt { frames := 8, cells := 1, slots := 6, locals := 124 } G.1.1 (mq_tys G) [.ref (La 0), .int (zI i), .ref o] M (lwR G La o M (1) (0)) (fun _ _ => False) 1 6 := by
  refine mq_MetX.ofH (cc := cL_streamAt) (maxL := 4) (ret := (some .int)) (hh := [(0, 9, 12, 30), (0, 9, 15, 25)]) (by decide) rfl (Nat.le_of_ble_eq_true rfl) rfl rfl ?_
  intro p_ e_ s_ m_ args_ below_ meth_ c_ z_ C hr hlk hex
  obtain ⟨g0, hO1, -⟩ := id hO
  refine xr_aload_n C dL_streamAt_0 rfl ?_
  refine xr_iconst (n := 0) C dL_streamAt_1 (by decide +kernel) ?_
  refine xr_aload_n C dL_streamAt_2 rfl ?_
  refine xr_iload_n C dL_streamAt_3 rfl ?_
  refine xr_callXV1i C (x_streamAt l hlt G sb sn sx hG La hI M hV i hir) (cwV 1 C.1.2.2.2.2 gL_streamAt_X11_streamAt rfl rfl rfl (by decide +kernel) ⟨Nat.le_of_ble_eq_true rfl, Nat.le_of_ble_eq_true rfl⟩) hV.1 rfl (Nat.le_of_ble_eq_true rfl) ⟨by dsimp only; omega, by dsimp only; omega⟩ dL_streamAt_4 (fun E9 M9 hx9 => ?_) (fun _ _ h9 => h9.elim)
  obtain ⟨rfl, rfl⟩ := hx9
  refine xt_catch (name := "java/lang/IllegalStateException") C [] ⟨0, 9, 12, 30⟩ [⟨0, 9, 15, 25⟩] (hex.trans rfl) (fun _ h9 => nomatch h9) (by decide) (by decide) (C.1.2.2.2.2 (.classLink RL 30 "java/lang/IllegalStateException") (by decide +kernel)) (va_Nw.use (w := .castable eIS eIS) rfl ((hG.old C).2.2.1 _ (by decide +kernel))) (fun q9 => ?_)
  refine xr_astore_n C dL_streamAt_12 (by decide) rfl ?_
  refine xr_iconst (n := 1) C dL_streamAt_13 (by decide +kernel) ?_
  refine mq_retX ?_
  exact xr_iret C hr hlk ⟨_, rfl, by exact ⟨rfl, by rw [if_neg (by decide)]; exact hO, lwF.rf⟩⟩ (by omega) (by omega) dL_streamAt_14
set_option maxHeartbeats 4000000 in
set_option maxRecDepth 100000 in
theorem h_hasIndex (l : Launch) (hlt : l.stackTraces = false) (G : mq_G) (sb sn : Nat) (sx : Nat → Int32) (hG : pG G sb sn sx) (hA : pA G) (La : Nat → Nat) (hI : mq_inj La) (M : mq_M) (hV : vF G M La) (o : Nat) (ho : ∀ i, i < 275 → o ≠ La i) (hO : lwO G M o none)  : mq_MetX l yL_hasIndex wsL_hasIndex { frames := 8, cells := 1, slots := 6, locals := 122 } G.1.1 (mq_tys G) [.ref (La 0), .ref o] M (lwR G La o M (1) (0)) (fun _ _ => False) 1 6 := by
  refine mq_MetX.ofH (cc := cL_hasIndex) (maxL := 3) (ret := (some .int)) (hh := [(0, 15, 18, 30)]) (by decide) rfl (Nat.le_of_ble_eq_true rfl) rfl rfl ?_
  intro p_ e_ s_ m_ args_ below_ meth_ c_ z_ C hr hlk hex
  obtain ⟨g0, hO1, -⟩ := id hO
  refine xr_aload_n C dL_hasIndex_0 rfl ?_
  refine xr_iconst (n := 0) C dL_hasIndex_1 (by decide +kernel) ?_
  refine xr_aload_n C dL_hasIndex_2 rfl ?_
  refine xr_callXV0i C (x_hasIndex l hlt G sb sn sx hG La hI M hV) (cwV 0 C.1.2.2.2.2 gL_hasIndex_X11_hasIndex rfl rfl rfl (by decide +kernel) ⟨Nat.le_of_ble_eq_true rfl, Nat.le_of_ble_eq_true rfl⟩) hV.1 rfl (Nat.le_of_ble_eq_true rfl) ⟨by dsimp only; omega, by dsimp only; omega⟩ dL_hasIndex_3 (fun E9 M9 hx9 => ?_) (fun _ _ h9 => h9.elim)
  obtain ⟨rfl, rfl⟩ := hx9
  refine xt_catch (name := "java/lang/IllegalStateException") C [] ⟨0, 15, 18, 30⟩ [] (hex.trans rfl) (fun _ h9 => nomatch h9) (by decide) (by decide) (C.1.2.2.2.2 (.classLink RL 30 "java/lang/IllegalStateException") (by decide +kernel)) (va_Nw.use (w := .castable eIS eIS) rfl ((hG.old C).2.2.1 _ (by decide +kernel))) (fun q9 => ?_)
  refine xr_astore_n C dL_hasIndex_18 (by decide) rfl ?_
  refine xr_iconst (n := 1) C dL_hasIndex_19 (by decide +kernel) ?_
  refine mq_retX ?_
  exact xr_iret C hr hlk ⟨_, rfl, by exact ⟨rfl, by rw [if_neg (by decide)]; exact hO, lwF.rf⟩⟩ (by omega) (by omega) dL_hasIndex_20
set_option maxHeartbeats 4000000 in
set_option maxRecDepth 100000 in
theorem h_found (l : Launch) (hlt : l.stackTraces = false) (G : mq_G) (sb sn : Nat) (sx : Nat → Int32) (hG : pG G sb sn sx) (hA : pA G) (La : Nat → Nat) (hI : mq_inj La) (M : mq_M) (hV : vF G M La) (o : Nat) (ho : ∀ i, i < 275 → o ≠ La i) (hO : lwO G M o none)  : mq_MetX l yL_found wsL_found { frames := 8, cells := 1, slots := 6, locals := 122 } G.1.1 (mq_tys G) [.ref (La 0), .ref o] M (lwR G La o M (1) (0)) (fun _ _ => False) 1 6 := by
  refine mq_MetX.ofH (cc := cL_found) (maxL := 3) (ret := (some .int)) (hh := [(0, 8, 11, 30)]) (by decide) rfl (Nat.le_of_ble_eq_true rfl) rfl rfl ?_
  intro p_ e_ s_ m_ args_ below_ meth_ c_ z_ C hr hlk hex
  obtain ⟨g0, hO1, -⟩ := id hO
  refine xr_aload_n C dL_found_0 rfl ?_
  refine xr_iconst (n := 0) C dL_found_1 (by decide +kernel) ?_
  refine xr_aload_n C dL_found_2 rfl ?_
  refine xr_callXV0i C (x_found l hlt G sb sn sx hG La hI M hV) (cwV 0 C.1.2.2.2.2 gL_found_X11_found rfl rfl rfl (by decide +kernel) ⟨Nat.le_of_ble_eq_true rfl, Nat.le_of_ble_eq_true rfl⟩) hV.1 rfl (Nat.le_of_ble_eq_true rfl) ⟨by dsimp only; omega, by dsimp only; omega⟩ dL_found_3 (fun E9 M9 hx9 => ?_) (fun _ _ h9 => h9.elim)
  obtain ⟨rfl, rfl⟩ := hx9
  refine xt_catch (name := "java/lang/IllegalStateException") C [] ⟨0, 8, 11, 30⟩ [] (hex.trans rfl) (fun _ h9 => nomatch h9) (by decide) (by decide) (C.1.2.2.2.2 (.classLink RL 30 "java/lang/IllegalStateException") (by decide +kernel)) (va_Nw.use (w := .castable eIS eIS) rfl ((hG.old C).2.2.1 _ (by decide +kernel))) (fun q9 => ?_)
  refine xr_astore_n C dL_found_11 (by decide) rfl ?_
  refine xr_iconst (n := 1) C dL_found_12 (by decide +kernel) ?_
  refine mq_retX ?_
  exact xr_iret C hr hlk ⟨_, rfl, by exact ⟨rfl, by rw [if_neg (by decide)]; exact hO, lwF.rf⟩⟩ (by omega) (by omega) dL_found_13
set_option maxHeartbeats 4000000 in
set_option maxRecDepth 100000 in
theorem h_keyFound (l : Launch) (hlt : l.stackTraces = false) (G : mq_G) (sb sn : Nat) (sx : Nat → Int32) (hG : pG G sb sn sx) (hA : pA G) (La : Nat → Nat) (hI : mq_inj La) (M : mq_M) (hV : vF G M La) (o : Nat) (ho : ∀ i, i < 275 → o ≠ La i) (hO : lwO G M o none) (i : Int) (hir : -2147483648 ≤ i ∧ i < 2147483648) : mq_MetX l yL_keyFound wsL_keyFound { frames := 9, cells := 1, slots := 6, locals := 145 } G.1.1 (mq_tys G) [.ref (La 0), .int (zI i), .ref o] M (lwR G La o M (1) (0)) (fun _ _ => False) 1 6 := by
  refine mq_MetX.ofH (cc := cL_keyFound) (maxL := 4) (ret := (some .int)) (hh := [(0, 9, 12, 30), (0, 9, 15, 25)]) (by decide) rfl (Nat.le_of_ble_eq_true rfl) rfl rfl ?_
  intro p_ e_ s_ m_ args_ below_ meth_ c_ z_ C hr hlk hex
  obtain ⟨g0, hO1, -⟩ := id hO
  refine xr_aload_n C dL_keyFound_0 rfl ?_
  refine xr_iconst (n := 0) C dL_keyFound_1 (by decide +kernel) ?_
  refine xr_aload_n C dL_keyFound_2 rfl ?_
  refine xr_iload_n C dL_keyFound_3 rfl ?_
  refine xr_callXV1i C (x_keyFound l hlt G sb sn sx hG La hI M hV i hir) (cwV 1 C.1.2.2.2.2 gL_keyFound_X11_keyFound rfl rfl rfl (by decide +kernel) ⟨Nat.le_of_ble_eq_true rfl, Nat.le_of_ble_eq_true rfl⟩) hV.1 rfl (Nat.le_of_ble_eq_true rfl) ⟨by dsimp only; omega, by dsimp only; omega⟩ dL_keyFound_4 (fun E9 M9 hx9 => ?_) (fun _ _ h9 => h9.elim)
  obtain ⟨rfl, rfl⟩ := hx9
  refine xt_catch (name := "java/lang/IllegalStateException") C [] ⟨0, 9, 12, 30⟩ [⟨0, 9, 15, 25⟩] (hex.trans rfl) (fun _ h9 => nomatch h9) (by decide) (by decide) (C.1.2.2.2.2 (.classLink RL 30 "java/lang/IllegalStateException") (by decide +kernel)) (va_Nw.use (w := .castable eIS eIS) rfl ((hG.old C).2.2.1 _ (by decide +kernel))) (fun q9 => ?_)
  refine xr_astore_n C dL_keyFound_12 (by decide) rfl ?_
  refine xr_iconst (n := 1) C dL_keyFound_13 (by decide +kernel) ?_
  refine mq_retX ?_
  exact xr_iret C hr hlk ⟨_, rfl, by exact ⟨rfl, by rw [if_neg (by decide)]; exact hO, lwF.rf⟩⟩ (by omega) (by omega) dL_keyFound_14
set_option maxHeartbeats 4000000 in
set_option maxRecDepth 100000 in
theorem h_placeFound (l : Launch) (hlt : l.stackTraces = false) (G : mq_G) (sb sn : Nat) (sx : Nat → Int32) (hG : pG G sb sn sx) (hA : pA G) (La : Nat → Nat) (hI : mq_inj La) (M : mq_M) (hV : vF G M La) (o : Nat) (ho : ∀ i, i < 275 → o ≠ La i) (hO : lwO G M o none) (i : Int) (hir : -2147483648 ≤ i ∧ i < 2147483648) : mq_MetX l yL_placeFound wsL_placeFound { frames := 9, cells := 1, slots := 6, locals := 145 } G.1.1 (mq_tys G) [.ref (La 0), .int (zI i), .ref o] M (lwR G La o M (1) (0)) (fun _ _ => False) 1 6 := by
  refine mq_MetX.ofH (cc := cL_placeFound) (maxL := 4) (ret := (some .int)) (hh := [(0, 9, 12, 30), (0, 9, 15, 25)]) (by decide) rfl (Nat.le_of_ble_eq_true rfl) rfl rfl ?_
  intro p_ e_ s_ m_ args_ below_ meth_ c_ z_ C hr hlk hex
  obtain ⟨g0, hO1, -⟩ := id hO
  refine xr_aload_n C dL_placeFound_0 rfl ?_
  refine xr_iconst (n := 0) C dL_placeFound_1 (by decide +kernel) ?_
  refine xr_aload_n C dL_placeFound_2 rfl ?_
  refine xr_iload_n C dL_placeFound_3 rfl ?_
  refine xr_callXV1i C (x_placeFound l hlt G sb sn sx hG La hI M hV i hir) (cwV 1 C.1.2.2.2.2 gL_placeFound_X11_placeFound rfl rfl rfl (by decide +kernel) ⟨Nat.le_of_ble_eq_true rfl, Nat.le_of_ble_eq_true rfl⟩) hV.1 rfl (Nat.le_of_ble_eq_true rfl) ⟨by dsimp only; omega, by dsimp only; omega⟩ dL_placeFound_4 (fun E9 M9 hx9 => ?_) (fun _ _ h9 => h9.elim)
  obtain ⟨rfl, rfl⟩ := hx9
  refine xt_catch (name := "java/lang/IllegalStateException") C [] ⟨0, 9, 12, 30⟩ [⟨0, 9, 15, 25⟩] (hex.trans rfl) (fun _ h9 => nomatch h9) (by decide) (by decide) (C.1.2.2.2.2 (.classLink RL 30 "java/lang/IllegalStateException") (by decide +kernel)) (va_Nw.use (w := .castable eIS eIS) rfl ((hG.old C).2.2.1 _ (by decide +kernel))) (fun q9 => ?_)
  refine xr_astore_n C dL_placeFound_12 (by decide) rfl ?_
  refine xr_iconst (n := 1) C dL_placeFound_13 (by decide +kernel) ?_
  refine mq_retX ?_
  exact xr_iret C hr hlk ⟨_, rfl, by exact ⟨rfl, by rw [if_neg (by decide)]; exact hO, lwF.rf⟩⟩ (by omega) (by omega) dL_placeFound_14
set_option maxHeartbeats 4000000 in
set_option maxRecDepth 100000 in
theorem h_isGood (l : Launch) (hlt : l.stackTraces = false) (G : mq_G) (sb sn : Nat) (sx : Nat → Int32) (hG : pG G sb sn sx) (hA : pA G) (La : Nat → Nat) (hI : mq_inj La) (M : mq_M) (hV : vF G M La) (o : Nat) (ho : ∀ i, i < 275 → o ≠ La i) (hO : lwO G M o none) (i : Int) (hir : -2147483648 ≤ i ∧ i < 2147483648) : mq_MetX l yL_isGood wsL_isGood { frames := 9, cells := 1, slots := 6, locals := 145 } G.1.1 (mq_tys G) [.ref (La 0), .int (zI i), .ref o] M (lwR G La o M (1) (0)) (fun _ _ => False) 1 6 := by
  refine mq_MetX.ofH (cc := cL_isGood) (maxL := 4) (ret := (some .int)) (hh := [(0, 16, 19, 30), (0, 16, 22, 25)]) (by decide) rfl (Nat.le_of_ble_eq_true rfl) rfl rfl ?_
  intro p_ e_ s_ m_ args_ below_ meth_ c_ z_ C hr hlk hex
  obtain ⟨g0, hO1, -⟩ := id hO
  refine xr_aload_n C dL_isGood_0 rfl ?_
  refine xr_iconst (n := 0) C dL_isGood_1 (by decide +kernel) ?_
  refine xr_aload_n C dL_isGood_2 rfl ?_
  refine xr_iload_n C dL_isGood_3 rfl ?_
  refine xr_callXV1i C (x_isGood l hlt G sb sn sx hG La hI M hV i hir) (cwV 1 C.1.2.2.2.2 gL_isGood_X11_isGood rfl rfl rfl (by decide +kernel) ⟨Nat.le_of_ble_eq_true rfl, Nat.le_of_ble_eq_true rfl⟩) hV.1 rfl (Nat.le_of_ble_eq_true rfl) ⟨by dsimp only; omega, by dsimp only; omega⟩ dL_isGood_4 (fun E9 M9 hx9 => ?_) (fun _ _ h9 => h9.elim)
  obtain ⟨rfl, rfl⟩ := hx9
  refine xt_catch (name := "java/lang/IllegalStateException") C [] ⟨0, 16, 19, 30⟩ [⟨0, 16, 22, 25⟩] (hex.trans rfl) (fun _ h9 => nomatch h9) (by decide) (by decide) (C.1.2.2.2.2 (.classLink RL 30 "java/lang/IllegalStateException") (by decide +kernel)) (va_Nw.use (w := .castable eIS eIS) rfl ((hG.old C).2.2.1 _ (by decide +kernel))) (fun q9 => ?_)
  refine xr_astore_n C dL_isGood_19 (by decide) rfl ?_
  refine xr_iconst (n := 1) C dL_isGood_20 (by decide +kernel) ?_
  refine mq_retX ?_
  exact xr_iret C hr hlk ⟨_, rfl, by exact ⟨rfl, by rw [if_neg (by decide)]; exact hO, lwF.rf⟩⟩ (by omega) (by omega) dL_isGood_21
set_option maxHeartbeats 4000000 in
set_option maxRecDepth 100000 in
theorem h_lengthFound (l : Launch) (hlt : l.stackTraces = false) (G : mq_G) (sb sn : Nat) (sx : Nat → Int32) (hG : pG G sb sn sx) (hA : pA G) (La : Nat → Nat) (hI : mq_inj La) (M : mq_M) (hV : vF G M La) (o : Nat) (ho : ∀ i, i < 275 → o ≠ La i) (hO : lwO G M o none) (i : Int) (hir : -2147483648 ≤ i ∧ i < 2147483648) : mq_MetX l yL_lengthFound wsL_lengthFound { frames := 9, cells := 1, slots := 6, locals := 145 } G.1.1 (mq_tys G) [.ref (La 0), .int (zI i), .ref o] M (lwR G La o M (1) (0)) (fun _ _ => False) 1 6 := by
  refine mq_MetX.ofH (cc := cL_lengthFound) (maxL := 4) (ret := (some .int)) (hh := [(0, 9, 12, 30), (0, 9, 15, 25)]) (by decide) rfl (Nat.le_of_ble_eq_true rfl) rfl rfl ?_
  intro p_ e_ s_ m_ args_ below_ meth_ c_ z_ C hr hlk hex
  obtain ⟨g0, hO1, -⟩ := id hO
  refine xr_aload_n C dL_lengthFound_0 rfl ?_
  refine xr_iconst (n := 0) C dL_lengthFound_1 (by decide +kernel) ?_
  refine xr_aload_n C dL_lengthFound_2 rfl ?_
  refine xr_iload_n C dL_lengthFound_3 rfl ?_
  refine xr_callXV1i C (x_lengthFound l hlt G sb sn sx hG La hI M hV i hir) (cwV 1 C.1.2.2.2.2 gL_lengthFound_X11_lengthFound rfl rfl rfl (by decide +kernel) ⟨Nat.le_of_ble_eq_true rfl, Nat.le_of_ble_eq_true rfl⟩) hV.1 rfl (Nat.le_of_ble_eq_true rfl) ⟨by dsimp only; omega, by dsimp only; omega⟩ dL_lengthFound_4 (fun E9 M9 hx9 => ?_) (fun _ _ h9 => h9.elim)
  obtain ⟨rfl, rfl⟩ := hx9
  refine xt_catch (name := "java/lang/IllegalStateException") C [] ⟨0, 9, 12, 30⟩ [⟨0, 9, 15, 25⟩] (hex.trans rfl) (fun _ h9 => nomatch h9) (by decide) (by decide) (C.1.2.2.2.2 (.classLink RL 30 "java/lang/IllegalStateException") (by decide +kernel)) (va_Nw.use (w := .castable eIS eIS) rfl ((hG.old C).2.2.1 _ (by decide +kernel))) (fun q9 => ?_)
  refine xr_astore_n C dL_lengthFound_12 (by decide) rfl ?_
  refine xr_iconst (n := 1) C dL_lengthFound_13 (by decide +kernel) ?_
  refine mq_retX ?_
  exact xr_iret C hr hlk ⟨_, rfl, by exact ⟨rfl, by rw [if_neg (by decide)]; exact hO, lwF.rf⟩⟩ (by omega) (by omega) dL_lengthFound_14
set_option maxHeartbeats 4000000 in
set_option maxRecDepth 100000 in
theorem h_byteFound (l : Launch) (hlt : l.stackTraces = false) (G : mq_G) (sb sn : Nat) (sx : Nat → Int32) (hG : pG G sb sn sx) (hA : pA G) (La : Nat → Nat) (hI : mq_inj La) (M : mq_M) (hV : vF G M La) (o : Nat) (ho : ∀ i, i < 275 → o ≠ La i) (hO : lwO G M o none) (i : Int) (hir : -2147483648 ≤ i ∧ i < 2147483648) (q : Int) (hqr : -2147483648 ≤ q ∧ q < 2147483648) : mq_MetX l yL_byteFound wsL_byteFound { frames := 9, cells := 1, slots := 6, locals := 147 } G.1.1 (mq_tys G) [.ref (La 0), .int (zI i), .int (zI q), .ref o] M (lwR G La o M (1) (0)) (fun _ _ => False) 1 6 := by
  refine mq_MetX.ofH (cc := cL_byteFound) (maxL := 5) (ret := (some .int)) (hh := [(0, 10, 13, 30), (0, 10, 17, 25)]) (by decide) rfl (Nat.le_of_ble_eq_true rfl) rfl rfl ?_
  intro p_ e_ s_ m_ args_ below_ meth_ c_ z_ C hr hlk hex
  obtain ⟨g0, hO1, -⟩ := id hO
  refine xr_aload_n C dL_byteFound_0 rfl ?_
  refine xr_iconst (n := 0) C dL_byteFound_1 (by decide +kernel) ?_
  refine xr_aload_n C dL_byteFound_2 rfl ?_
  refine xr_iload_n C dL_byteFound_3 rfl ?_
  refine xr_iload_n C dL_byteFound_4 rfl ?_
  refine xr_callXV2i C (x_byteFound l hlt G sb sn sx hG La hI M hV i hir q hqr) (cwV 2 C.1.2.2.2.2 gL_byteFound_X11_byteFound rfl rfl rfl (by decide +kernel) ⟨Nat.le_of_ble_eq_true rfl, Nat.le_of_ble_eq_true rfl⟩) hV.1 rfl (Nat.le_of_ble_eq_true rfl) ⟨by dsimp only; omega, by dsimp only; omega⟩ dL_byteFound_5 (fun E9 M9 hx9 => ?_) (fun _ _ h9 => h9.elim)
  obtain ⟨rfl, rfl⟩ := hx9
  refine xt_catch (name := "java/lang/IllegalStateException") C [] ⟨0, 10, 13, 30⟩ [⟨0, 10, 17, 25⟩] (hex.trans rfl) (fun _ h9 => nomatch h9) (by decide) (by decide) (C.1.2.2.2.2 (.classLink RL 30 "java/lang/IllegalStateException") (by decide +kernel)) (va_Nw.use (w := .castable eIS eIS) rfl ((hG.old C).2.2.1 _ (by decide +kernel))) (fun q9 => ?_)
  refine xr_astore C dL_byteFound_13 (by decide) rfl ?_
  refine xr_iconst (n := 1) C dL_byteFound_15 (by decide +kernel) ?_
  refine mq_retX ?_
  exact xr_iret C hr hlk ⟨_, rfl, by exact ⟨rfl, by rw [if_neg (by decide)]; exact hO, lwF.rf⟩⟩ (by omega) (by omega) dL_byteFound_16
set_option maxHeartbeats 4000000 in
set_option maxRecDepth 100000 in
theorem h_restore (l : Launch) (hlt : l.stackTraces = false) (G : mq_G) (sb sn : Nat) (sx : Nat → Int32) (hG : pG G sb sn sx) (hA : pA G) (La : Nat → Nat) (hI : mq_inj La) (M : mq_M) (hV : vF G M La) (o : Nat) (ho : ∀ i, i < 275 → o ≠ La i) (hO : lwO G M o none)  : mq_MetX l yL_restore wsL_restore { frames := 8, cells := 1, slots := 6, locals := 159 } G.1.1 (mq_tys G) [.ref (La 0), .ref o] M (lwR G La o M (1) (0)) (fun _ _ => False) 1 6 := by
  refine mq_MetX.ofH (cc := cL_restore) (maxL := 3) (ret := (some .int)) (hh := [(0, 8, 11, 30)]) (by decide) rfl (Nat.le_of_ble_eq_true rfl) rfl rfl ?_
  intro p_ e_ s_ m_ args_ below_ meth_ c_ z_ C hr hlk hex
  obtain ⟨g0, hO1, -⟩ := id hO
  refine xr_aload_n C dL_restore_0 rfl ?_
  refine xr_iconst (n := 0) C dL_restore_1 (by decide +kernel) ?_
  refine xr_aload_n C dL_restore_2 rfl ?_
  refine xr_callXV0i C (x_restore l hlt G sb sn sx hG La hI M hV) (cwV 0 C.1.2.2.2.2 gL_restore_X11_restore rfl rfl rfl (by decide +kernel) ⟨Nat.le_of_ble_eq_true rfl, Nat.le_of_ble_eq_true rfl⟩) hV.1 rfl (Nat.le_of_ble_eq_true rfl) ⟨by dsimp only; omega, by dsimp only; omega⟩ dL_restore_3 (fun E9 M9 hx9 => ?_) (fun _ _ h9 => h9.elim)
  obtain ⟨rfl, rfl⟩ := hx9
  refine xt_catch (name := "java/lang/IllegalStateException") C [] ⟨0, 8, 11, 30⟩ [] (hex.trans rfl) (fun _ h9 => nomatch h9) (by decide) (by decide) (C.1.2.2.2.2 (.classLink RL 30 "java/lang/IllegalStateException") (by decide +kernel)) (va_Nw.use (w := .castable eIS eIS) rfl ((hG.old C).2.2.1 _ (by decide +kernel))) (fun q9 => ?_)
  refine xr_astore_n C dL_restore_11 (by decide) rfl ?_
  refine xr_iconst (n := 1) C dL_restore_12 (by decide +kernel) ?_
  refine mq_retX ?_
  exact xr_iret C hr hlk ⟨_, rfl, by exact ⟨rfl, by rw [if_neg (by decide)]; exact hO, lwF.rf⟩⟩ (by omega) (by omega) dL_restore_13
set_option maxHeartbeats 4000000 in
set_option maxRecDepth 100000 in
theorem h_build (l : Launch) (hlt : l.stackTraces = false) (G : mq_G) (sb sn : Nat) (sx : Nat → Int32) (hG : pG G sb sn sx) (hA : pA G) (La : Nat → Nat) (hI : mq_inj La) (M : mq_M) (hV : vF G M La) (o : Nat) (ho : ∀ i, i < 275 → o ≠ La i) (hO : lwO G M o none) (d : Int) (hdr : -2147483648 ≤ d ∧ d < 2147483648) (p : Int) (hpr : -2147483648 ≤ p ∧ p < 2147483648) : mq_MetX l yL_build wsL_build { frames := 7, cells := 1, slots := 6, locals := 166 } G.1.1 (mq_tys G) [.ref (La 0), .int (zI d), .int (zI p), .ref o] M (lwR G La o M (if (1 ≤ d ∧ d ≤ 10) ∧ (0 ≤ p ∧ p ≤ 6) then 0 else 1) ((zI (bdS 6 d.toNat : Nat)).toInt64)) (fun _ _ => False) 1 6 := by
  refine mq_MetX.ofH (cc := cL_build) (maxL := 5) (ret := (some .int)) (hh := [(0, 10, 13, 13)]) (by decide) rfl (Nat.le_of_ble_eq_true rfl) rfl rfl ?_
  intro p_ e_ s_ m_ args_ below_ meth_ c_ z_ C hr hlk hex
  obtain ⟨g0, hO1, -⟩ := id hO
  refine xr_aload_n C dL_build_0 rfl ?_
  refine xr_iconst (n := 0) C dL_build_1 (by decide +kernel) ?_
  refine xr_aload_n C dL_build_2 rfl ?_
  refine xr_iload_n C dL_build_3 rfl ?_
  refine xr_iload_n C dL_build_4 rfl ?_
  by_cases hv : (1 ≤ d ∧ d ≤ 10) ∧ (0 ≤ p ∧ p ≤ 6)
  · obtain ⟨d, rfl⟩ := Int.eq_ofNat_of_zero_le (show 0 ≤ d by omega)
    obtain ⟨p, rfl⟩ := Int.eq_ofNat_of_zero_le (show 0 ≤ p by omega)
    refine xr_callV2i C (c_build l G La hI [] vk0 (fun _ => false) (fun _ => []) vr0 M hV d p (by omega) (by omega)) (cwV 2 C.1.2.2.2.2 gL_build_X11_build rfl rfl rfl (by decide +kernel) ⟨Nat.le_of_ble_eq_true rfl, Nat.le_of_ble_eq_true rfl⟩) hV.1 rfl (Nat.le_of_ble_eq_true rfl) ⟨by dsimp only; omega, by dsimp only; omega⟩ dL_build_5 (fun r9 M9 hp9 => ?_)
    obtain ⟨-, -, hr9, -, hF9⟩ := hp9
    rw [hr9 rfl]
    have hO2 : M9 o = some (.inl (gJ G, 1, .inr (.inl g0))) := (hF9 o (fun hm => by obtain ⟨r, hr, e⟩ := List.mem_map.mp hm; exact ho r (vtA_l r hr) e.symm)).trans hO1
    refine xr_i2l C dL_build_8 ?_
    refine xr_last C hO2 hA.J (by decide) (by decide) (by decide) dL_build_9 ?_
    refine mq_ren (fun M1 hM1 => ?_)
    refine xr_goto C dL_build_10 rfl ?_
    refine xr_iconst (n := 0) C dL_build_17 (by decide +kernel) ?_
    refine mq_retX ?_
    exact xr_iret C hr hlk ⟨_, rfl, by rw [if_pos hv]; exact ⟨rfl, by rw [if_pos rfl]; exact ⟨_, by rw [hM1, mq_up_s], fun x9 e9 => by cases e9; rfl⟩, lwF.up (lwF.of hF9 vtA_l) hM1⟩⟩ (by omega) (by omega) dL_build_18
  · refine xr_callXV2i C (x_build l hlt G sb sn sx hG La hI M hV d hdr p hpr (by omega)) (cwV 2 C.1.2.2.2.2 gL_build_X11_build rfl rfl rfl (by decide +kernel) ⟨Nat.le_of_ble_eq_true rfl, Nat.le_of_ble_eq_true rfl⟩) hV.1 rfl (Nat.le_of_ble_eq_true rfl) ⟨by dsimp only; omega, by dsimp only; omega⟩ dL_build_5 (fun E9 M9 hx9 => ?_) (fun _ _ h9 => h9.elim)
    obtain ⟨rfl, rfl⟩ := hx9
    refine xt_catch (name := "java/lang/IllegalArgumentException") C [] ⟨0, 10, 13, 13⟩ [] (hex.trans rfl) (fun _ h9 => nomatch h9) (by decide) (by decide) (C.1.2.2.2.2 (.classLink RL 13 "java/lang/IllegalArgumentException") (by decide +kernel)) (va_Nw.use (w := .castable eIA eIA) rfl ((hG.old C).2.2.1 _ (by decide +kernel))) (fun q9 => ?_)
    refine xr_astore C dL_build_13 (by decide) rfl ?_
    refine xr_iconst (n := 1) C dL_build_15 (by decide +kernel) ?_
    refine mq_retX ?_
    exact xr_iret C hr hlk ⟨_, rfl, by rw [if_neg hv]; exact ⟨rfl, by rw [if_neg (by decide)]; exact hO, lwF.rf⟩⟩ (by omega) (by omega) dL_build_16
set_option maxHeartbeats 4000000 in
set_option maxRecDepth 100000 in
theorem h_sizeOf (l : Launch) (hlt : l.stackTraces = false) (G : mq_G) (sb sn : Nat) (sx : Nat → Int32) (hG : pG G sb sn sx) (hA : pA G) (La : Nat → Nat) (hI : mq_inj La) (M : mq_M) (hV : vF G M La) (o : Nat) (ho : ∀ i, i < 275 → o ≠ La i) (hO : lwO G M o none) (i : Int) (hir : -2147483648 ≤ i ∧ i < 2147483648) : mq_MetX l yL_sizeOf wsL_sizeOf { frames := 8, cells := 1, slots := 6, locals := 125 } G.1.1 (mq_tys G) [.ref (La 0), .int (zI i), .ref o] M (lwR G La o M (if 0 ≤ i ∧ i ≤ 15 then 0 else 1) ((zI (-1)).toInt64)) (fun _ _ => False) 1 6 := by
  refine mq_MetX.ofH (cc := cL_sizeOf) (maxL := 4) (ret := (some .int)) (hh := [(0, 9, 12, 25)]) (by decide) rfl (Nat.le_of_ble_eq_true rfl) rfl rfl ?_
  intro p_ e_ s_ m_ args_ below_ meth_ c_ z_ C hr hlk hex
  obtain ⟨g0, hO1, -⟩ := id hO
  refine xr_aload_n C dL_sizeOf_0 rfl ?_
  refine xr_iconst (n := 0) C dL_sizeOf_1 (by decide +kernel) ?_
  refine xr_aload_n C dL_sizeOf_2 rfl ?_
  refine xr_iload_n C dL_sizeOf_3 rfl ?_
  by_cases hv : 0 ≤ i ∧ i ≤ 15
  · obtain ⟨i, rfl⟩ := Int.eq_ofNat_of_zero_le (show 0 ≤ i by omega)
    refine xr_callV1i C (c_sizeOf l G La hI [] vk0 (fun _ => false) (fun _ => []) vr0 M hV i (by omega)) (cwV 1 C.1.2.2.2.2 gL_sizeOf_X11_sizeOf rfl rfl rfl (by decide +kernel) ⟨Nat.le_of_ble_eq_true rfl, Nat.le_of_ble_eq_true rfl⟩) hV.1 rfl (Nat.le_of_ble_eq_true rfl) ⟨by dsimp only; omega, by dsimp only; omega⟩ dL_sizeOf_4 (fun r1 M9 hp9 => ?_)
    obtain ⟨rfl, rfl⟩ := hp9
    have hO2 : M o = some (.inl (gJ G, 1, .inr (.inl g0))) := hO1
    refine xr_i2l C dL_sizeOf_7 ?_
    refine xr_last C hO2 hA.J (by decide) (by decide) (by decide) dL_sizeOf_8 ?_
    refine mq_ren (fun M2 hM2 => ?_)
    refine xr_goto C dL_sizeOf_9 rfl ?_
    refine xr_iconst (n := 0) C dL_sizeOf_15 (by decide +kernel) ?_
    refine mq_retX ?_
    exact xr_iret C hr hlk ⟨_, rfl, by rw [if_pos hv]; exact ⟨rfl, by rw [if_pos rfl]; exact ⟨_, by rw [hM2, mq_up_s], fun x9 e9 => by cases e9; rfl⟩, lwF.up lwF.rf hM2⟩⟩ (by omega) (by omega) dL_sizeOf_16
  · refine xr_callXV1i C (x_sizeOf l hlt G sb sn sx hG La hI M hV i hir (by omega)) (cwV 1 C.1.2.2.2.2 gL_sizeOf_X11_sizeOf rfl rfl rfl (by decide +kernel) ⟨Nat.le_of_ble_eq_true rfl, Nat.le_of_ble_eq_true rfl⟩) hV.1 rfl (Nat.le_of_ble_eq_true rfl) ⟨by dsimp only; omega, by dsimp only; omega⟩ dL_sizeOf_4 (fun E9 M9 hx9 => ?_) (fun _ _ h9 => h9.elim)
    obtain ⟨rfl, rfl⟩ := hx9
    refine xt_catch (name := "java/lang/IndexOutOfBoundsException") C [] ⟨0, 9, 12, 25⟩ [] (hex.trans rfl) (fun _ h9 => nomatch h9) (by decide) (by decide) (C.1.2.2.2.2 (.classLink RL 25 "java/lang/IndexOutOfBoundsException") (by decide +kernel)) (va_Nw.use (w := .castable eIO eIO) rfl ((hG.old C).2.2.1 _ (by decide +kernel))) (fun q9 => ?_)
    refine xr_astore_n C dL_sizeOf_12 (by decide) rfl ?_
    refine xr_iconst (n := 1) C dL_sizeOf_13 (by decide +kernel) ?_
    refine mq_retX ?_
    exact xr_iret C hr hlk ⟨_, rfl, by rw [if_neg hv]; exact ⟨rfl, by rw [if_neg (by decide)]; exact hO, lwF.rf⟩⟩ (by omega) (by omega) dL_sizeOf_14
set_option maxHeartbeats 4000000 in
set_option maxRecDepth 100000 in
theorem h_lose (l : Launch) (hlt : l.stackTraces = false) (G : mq_G) (sb sn : Nat) (sx : Nat → Int32) (hG : pG G sb sn sx) (hA : pA G) (La : Nat → Nat) (hI : mq_inj La) (M : mq_M) (hV : vF G M La) (o : Nat) (ho : ∀ i, i < 275 → o ≠ La i) (hO : lwO G M o none) (i : Int) (hir : -2147483648 ≤ i ∧ i < 2147483648) : mq_MetX l yL_lose wsL_lose { frames := 8, cells := 1, slots := 6, locals := 127 } G.1.1 (mq_tys G) [.ref (La 0), .int (zI i), .ref o] M (lwR G La o M (if 0 ≤ i ∧ i ≤ 15 then 0 else 1) (0)) (fun _ _ => False) 1 6 := by
  refine mq_MetX.ofH (cc := cL_lose) (maxL := 4) (ret := (some .int)) (hh := [(0, 16, 19, 25)]) (by decide) rfl (Nat.le_of_ble_eq_true rfl) rfl rfl ?_
  intro p_ e_ s_ m_ args_ below_ meth_ c_ z_ C hr hlk hex
  obtain ⟨g0, hO1, -⟩ := id hO
  refine xr_aload_n C dL_lose_0 rfl ?_
  refine xr_iconst (n := 0) C dL_lose_1 (by decide +kernel) ?_
  refine xr_aload_n C dL_lose_2 rfl ?_
  refine xr_iload_n C dL_lose_3 rfl ?_
  by_cases hv : 0 ≤ i ∧ i ≤ 15
  · obtain ⟨i, rfl⟩ := Int.eq_ofNat_of_zero_le (show 0 ≤ i by omega)
    refine xr_callV1i C (c_lose l G La hI [] vk0 (fun _ => false) (fun _ => []) vr0 M hV i (by omega)) (cwV 1 C.1.2.2.2.2 gL_lose_X11_lose rfl rfl rfl (by decide +kernel) ⟨Nat.le_of_ble_eq_true rfl, Nat.le_of_ble_eq_true rfl⟩) hV.1 rfl (Nat.le_of_ble_eq_true rfl) ⟨by dsimp only; omega, by dsimp only; omega⟩ dL_lose_4 (fun r9 M9 hp9 => ?_)
    obtain ⟨rfl, -, hF9⟩ := hp9
    rw [show mq_b false = 0 from rfl]
    have hO2 : M9 o = some (.inl (gJ G, 1, .inr (.inl g0))) := (hF9 o (fun hm => by obtain ⟨r, hr, e⟩ := List.mem_map.mp hm; exact ho r (vtA_l r hr) e.symm)).trans hO1
    refine xr_if_eq C dL_lose_7 rfl (by decide) (fun _ => ?_) (fun hq => absurd hq (by decide))
    refine xr_lconst C dL_lose_14 rfl ?_
    refine xr_last C hO2 hA.J (by decide) (by decide) (by decide) dL_lose_15 ?_
    refine mq_ren (fun M1 hM1 => ?_)
    refine xr_goto C dL_lose_16 rfl ?_
    refine xr_iconst (n := 0) C dL_lose_22 (by decide +kernel) ?_
    refine mq_retX ?_
    exact xr_iret C hr hlk ⟨_, rfl, by rw [if_pos hv]; exact ⟨rfl, by rw [if_pos rfl]; exact ⟨_, by rw [hM1, mq_up_s], fun x9 e9 => by cases e9; rfl⟩, lwF.up (lwF.of hF9 vtA_l) hM1⟩⟩ (by omega) (by omega) dL_lose_23
  · refine xr_callXV1i C (x_lose l hlt G sb sn sx hG La hI M hV i hir (by omega)) (cwV 1 C.1.2.2.2.2 gL_lose_X11_lose rfl rfl rfl (by decide +kernel) ⟨Nat.le_of_ble_eq_true rfl, Nat.le_of_ble_eq_true rfl⟩) hV.1 rfl (Nat.le_of_ble_eq_true rfl) ⟨by dsimp only; omega, by dsimp only; omega⟩ dL_lose_4 (fun E9 M9 hx9 => ?_) (fun _ _ h9 => h9.elim)
    obtain ⟨rfl, rfl⟩ := hx9
    refine xt_catch (name := "java/lang/IndexOutOfBoundsException") C [] ⟨0, 16, 19, 25⟩ [] (hex.trans rfl) (fun _ h9 => nomatch h9) (by decide) (by decide) (C.1.2.2.2.2 (.classLink RL 25 "java/lang/IndexOutOfBoundsException") (by decide +kernel)) (va_Nw.use (w := .castable eIO eIO) rfl ((hG.old C).2.2.1 _ (by decide +kernel))) (fun q9 => ?_)
    refine xr_astore_n C dL_lose_19 (by decide) rfl ?_
    refine xr_iconst (n := 1) C dL_lose_20 (by decide +kernel) ?_
    refine mq_retX ?_
    exact xr_iret C hr hlk ⟨_, rfl, by rw [if_neg hv]; exact ⟨rfl, by rw [if_neg (by decide)]; exact hO, lwF.rf⟩⟩ (by omega) (by omega) dL_lose_21
set_option maxHeartbeats 4000000 in
set_option maxRecDepth 100000 in
theorem h_exchange (l : Launch) (hlt : l.stackTraces = false) (G : mq_G) (sb sn : Nat) (sx : Nat → Int32) (hG : pG G sb sn sx) (hA : pA G) (La : Nat → Nat) (hI : mq_inj La) (M : mq_M) (hV : vF G M La) (o : Nat) (ho : ∀ i, i < 275 → o ≠ La i) (hO : lwO G M o none) (i : Int) (hir : -2147483648 ≤ i ∧ i < 2147483648) (q : Int) (hqr : -2147483648 ≤ q ∧ q < 2147483648) : mq_MetX l yL_exchange wsL_exchange { frames := 8, cells := 1, slots := 6, locals := 128 } G.1.1 (mq_tys G) [.ref (La 0), .int (zI i), .int (zI q), .ref o] M (lwR G La o M (if (0 ≤ i ∧ i ≤ 15) ∧ (0 ≤ q ∧ q ≤ 15) then 0 else 1) ((zI 0).toInt64)) (fun _ _ => False) 1 6 := by
  refine mq_MetX.ofH (cc := cL_exchange) (maxL := 5) (ret := (some .int)) (hh := [(0, 10, 13, 25)]) (by decide) rfl (Nat.le_of_ble_eq_true rfl) rfl rfl ?_
  intro p_ e_ s_ m_ args_ below_ meth_ c_ z_ C hr hlk hex
  obtain ⟨g0, hO1, -⟩ := id hO
  refine xr_aload_n C dL_exchange_0 rfl ?_
  refine xr_iconst (n := 0) C dL_exchange_1 (by decide +kernel) ?_
  refine xr_aload_n C dL_exchange_2 rfl ?_
  refine xr_iload_n C dL_exchange_3 rfl ?_
  refine xr_iload_n C dL_exchange_4 rfl ?_
  by_cases hv : (0 ≤ i ∧ i ≤ 15) ∧ (0 ≤ q ∧ q ≤ 15)
  · obtain ⟨i, rfl⟩ := Int.eq_ofNat_of_zero_le (show 0 ≤ i by omega)
    obtain ⟨q, rfl⟩ := Int.eq_ofNat_of_zero_le (show 0 ≤ q by omega)
    refine xr_callV2i C (c_exchange l G La hI [] vk0 (fun _ => false) (fun _ => []) vr0 M hV i q (by omega) (by omega)) (cwV 2 C.1.2.2.2.2 gL_exchange_X11_exchange rfl rfl rfl (by decide +kernel) ⟨Nat.le_of_ble_eq_true rfl, Nat.le_of_ble_eq_true rfl⟩) hV.1 rfl (Nat.le_of_ble_eq_true rfl) ⟨by dsimp only; omega, by dsimp only; omega⟩ dL_exchange_5 (fun r9 M9 hp9 => ?_)
    obtain ⟨rfl, -, hF9⟩ := hp9
    rw [show mq_b false + mq_b false = 0 from rfl]
    have hO2 : M9 o = some (.inl (gJ G, 1, .inr (.inl g0))) := (hF9 o (fun hm => by obtain ⟨r, hr, e⟩ := List.mem_map.mp hm; exact ho r (vtA_l r hr) e.symm)).trans hO1
    refine xr_i2l C dL_exchange_8 ?_
    refine xr_last C hO2 hA.J (by decide) (by decide) (by decide) dL_exchange_9 ?_
    refine mq_ren (fun M1 hM1 => ?_)
    refine xr_goto C dL_exchange_10 rfl ?_
    refine xr_iconst (n := 0) C dL_exchange_17 (by decide +kernel) ?_
    refine mq_retX ?_
    exact xr_iret C hr hlk ⟨_, rfl, by rw [if_pos hv]; exact ⟨rfl, by rw [if_pos rfl]; exact ⟨_, by rw [hM1, mq_up_s], fun x9 e9 => by cases e9; rfl⟩, lwF.up (lwF.of hF9 vtA_l) hM1⟩⟩ (by omega) (by omega) dL_exchange_18
  · refine xr_callXV2i C (x_exchange l hlt G sb sn sx hG La hI M hV i hir q hqr (by omega)) (cwV 2 C.1.2.2.2.2 gL_exchange_X11_exchange rfl rfl rfl (by decide +kernel) ⟨Nat.le_of_ble_eq_true rfl, Nat.le_of_ble_eq_true rfl⟩) hV.1 rfl (Nat.le_of_ble_eq_true rfl) ⟨by dsimp only; omega, by dsimp only; omega⟩ dL_exchange_5 (fun E9 M9 hx9 => ?_) (fun _ _ h9 => h9.elim)
    obtain ⟨rfl, rfl⟩ := hx9
    refine xt_catch (name := "java/lang/IndexOutOfBoundsException") C [] ⟨0, 10, 13, 25⟩ [] (hex.trans rfl) (fun _ h9 => nomatch h9) (by decide) (by decide) (C.1.2.2.2.2 (.classLink RL 25 "java/lang/IndexOutOfBoundsException") (by decide +kernel)) (va_Nw.use (w := .castable eIO eIO) rfl ((hG.old C).2.2.1 _ (by decide +kernel))) (fun q9 => ?_)
    refine xr_astore C dL_exchange_13 (by decide) rfl ?_
    refine xr_iconst (n := 1) C dL_exchange_15 (by decide +kernel) ?_
    refine mq_retX ?_
    exact xr_iret C hr hlk ⟨_, rfl, by rw [if_neg hv]; exact ⟨rfl, by rw [if_neg (by decide)]; exact hO, lwF.rf⟩⟩ (by omega) (by omega) dL_exchange_16
set_option maxHeartbeats 4000000 in
set_option maxRecDepth 100000 in
theorem h_isSound (l : Launch) (hlt : l.stackTraces = false) (G : mq_G) (sb sn : Nat) (sx : Nat → Int32) (hG : pG G sb sn sx) (hA : pA G) (La : Nat → Nat) (hI : mq_inj La) (M : mq_M) (hV : vF G M La) (o : Nat) (ho : ∀ i, i < 275 → o ≠ La i) (hO : lwO G M o none) (i : Int) (hir : -2147483648 ≤ i ∧ i < 2147483648) : mq_MetX l yL_isSound wsL_isSound { frames := 8, cells := 1, slots := 6, locals := 125 } G.1.1 (mq_tys G) [.ref (La 0), .int (zI i), .ref o] M (lwR G La o M (if 0 ≤ i ∧ i ≤ 15 then 0 else 1) (0)) (fun _ _ => False) 1 6 := by
  refine mq_MetX.ofH (cc := cL_isSound) (maxL := 4) (ret := (some .int)) (hh := [(0, 16, 19, 25)]) (by decide) rfl (Nat.le_of_ble_eq_true rfl) rfl rfl ?_
  intro p_ e_ s_ m_ args_ below_ meth_ c_ z_ C hr hlk hex
  obtain ⟨g0, hO1, -⟩ := id hO
  refine xr_aload_n C dL_isSound_0 rfl ?_
  refine xr_iconst (n := 0) C dL_isSound_1 (by decide +kernel) ?_
  refine xr_aload_n C dL_isSound_2 rfl ?_
  refine xr_iload_n C dL_isSound_3 rfl ?_
  by_cases hv : 0 ≤ i ∧ i ≤ 15
  · obtain ⟨i, rfl⟩ := Int.eq_ofNat_of_zero_le (show 0 ≤ i by omega)
    refine xr_callV1i C (c_isSound l G La hI [] vk0 (fun _ => false) (fun _ => []) vr0 M hV i (by omega)) (cwV 1 C.1.2.2.2.2 gL_isSound_X11_isSound rfl rfl rfl (by decide +kernel) ⟨Nat.le_of_ble_eq_true rfl, Nat.le_of_ble_eq_true rfl⟩) hV.1 rfl (Nat.le_of_ble_eq_true rfl) ⟨by dsimp only; omega, by dsimp only; omega⟩ dL_isSound_4 (fun r9 M9 hp9 => ?_)
    obtain ⟨rfl, -, hF9⟩ := hp9
    rw [show mq_b (vWhl false []) = 0 by decide +kernel]
    have hO2 : M9 o = some (.inl (gJ G, 1, .inr (.inl g0))) := (hF9 o (fun hm => by obtain ⟨r, hr, e⟩ := List.mem_map.mp hm; exact ho r (vtA_l r hr) e.symm)).trans hO1
    refine xr_if_eq C dL_isSound_7 rfl (by decide) (fun _ => ?_) (fun hq => absurd hq (by decide))
    refine xr_lconst C dL_isSound_14 rfl ?_
    refine xr_last C hO2 hA.J (by decide) (by decide) (by decide) dL_isSound_15 ?_
    refine mq_ren (fun M1 hM1 => ?_)
    refine xr_goto C dL_isSound_16 rfl ?_
    refine xr_iconst (n := 0) C dL_isSound_22 (by decide +kernel) ?_
    refine mq_retX ?_
    exact xr_iret C hr hlk ⟨_, rfl, by rw [if_pos hv]; exact ⟨rfl, by rw [if_pos rfl]; exact ⟨_, by rw [hM1, mq_up_s], fun x9 e9 => by cases e9; rfl⟩, lwF.up (lwF.of hF9 vtA_l) hM1⟩⟩ (by omega) (by omega) dL_isSound_23
  · refine xr_callXV1i C (x_isSound l hlt G sb sn sx hG La hI M hV i hir (by omega)) (cwV 1 C.1.2.2.2.2 gL_isSound_X11_isSound rfl rfl rfl (by decide +kernel) ⟨Nat.le_of_ble_eq_true rfl, Nat.le_of_ble_eq_true rfl⟩) hV.1 rfl (Nat.le_of_ble_eq_true rfl) ⟨by dsimp only; omega, by dsimp only; omega⟩ dL_isSound_4 (fun E9 M9 hx9 => ?_) (fun _ _ h9 => h9.elim)
    obtain ⟨rfl, rfl⟩ := hx9
    refine xt_catch (name := "java/lang/IndexOutOfBoundsException") C [] ⟨0, 16, 19, 25⟩ [] (hex.trans rfl) (fun _ h9 => nomatch h9) (by decide) (by decide) (C.1.2.2.2.2 (.classLink RL 25 "java/lang/IndexOutOfBoundsException") (by decide +kernel)) (va_Nw.use (w := .castable eIO eIO) rfl ((hG.old C).2.2.1 _ (by decide +kernel))) (fun q9 => ?_)
    refine xr_astore_n C dL_isSound_19 (by decide) rfl ?_
    refine xr_iconst (n := 1) C dL_isSound_20 (by decide +kernel) ?_
    refine mq_retX ?_
    exact xr_iret C hr hlk ⟨_, rfl, by rw [if_neg hv]; exact ⟨rfl, by rw [if_neg (by decide)]; exact hO, lwF.rf⟩⟩ (by omega) (by omega) dL_isSound_21
set_option maxHeartbeats 4000000 in
set_option maxRecDepth 100000 in
theorem h_numberOf (l : Launch) (hlt : l.stackTraces = false) (G : mq_G) (sb sn : Nat) (sx : Nat → Int32) (hG : pG G sb sn sx) (hA : pA G) (La : Nat → Nat) (hI : mq_inj La) (M : mq_M) (hV : vF G M La) (o : Nat) (ho : ∀ i, i < 275 → o ≠ La i) (hO : lwO G M o none) (i : Int) (hir : -2147483648 ≤ i ∧ i < 2147483648) : mq_MetX l yL_numberOf wsL_numberOf { frames := 8, cells := 1, slots := 6, locals := 149 } G.1.1 (mq_tys G) [.ref (La 0), .int (zI i), .ref o] M (lwR G La o M (if 0 ≤ i ∧ i ≤ 15 then 0 else 1) ((zI (-1)).toInt64)) (fun _ _ => False) 1 6 := by
  refine mq_MetX.ofH (cc := cL_numberOf) (maxL := 4) (ret := (some .int)) (hh := [(0, 9, 12, 25)]) (by decide) rfl (Nat.le_of_ble_eq_true rfl) rfl rfl ?_
  intro p_ e_ s_ m_ args_ below_ meth_ c_ z_ C hr hlk hex
  obtain ⟨g0, hO1, -⟩ := id hO
  refine xr_aload_n C dL_numberOf_0 rfl ?_
  refine xr_iconst (n := 0) C dL_numberOf_1 (by decide +kernel) ?_
  refine xr_aload_n C dL_numberOf_2 rfl ?_
  refine xr_iload_n C dL_numberOf_3 rfl ?_
  by_cases hv : 0 ≤ i ∧ i ≤ 15
  · obtain ⟨i, rfl⟩ := Int.eq_ofNat_of_zero_le (show 0 ≤ i by omega)
    refine xr_callV1i C (c_numberOf l G La hI [] vk0 (fun _ => false) (fun _ => []) vr0 M hV i (by omega)) (cwV 1 C.1.2.2.2.2 gL_numberOf_X11_numberOf rfl rfl rfl (by decide +kernel) ⟨Nat.le_of_ble_eq_true rfl, Nat.le_of_ble_eq_true rfl⟩) hV.1 rfl (Nat.le_of_ble_eq_true rfl) ⟨by dsimp only; omega, by dsimp only; omega⟩ dL_numberOf_4 (fun r9 M9 hp9 => ?_)
    obtain ⟨rfl, -, hF9⟩ := hp9
    rw [show (svS (fun _ => false) (fun _ => []) 16).2.2.1 i = -1 from svS_none i (by omega)]
    have hO2 : M9 o = some (.inl (gJ G, 1, .inr (.inl g0))) := (hF9 o (fun hm => by obtain ⟨r, hr, e⟩ := List.mem_map.mp hm; exact ho r (vtA_l r hr) e.symm)).trans hO1
    refine xr_i2l C dL_numberOf_7 ?_
    refine xr_last C hO2 hA.J (by decide) (by decide) (by decide) dL_numberOf_8 ?_
    refine mq_ren (fun M1 hM1 => ?_)
    refine xr_goto C dL_numberOf_9 rfl ?_
    refine xr_iconst (n := 0) C dL_numberOf_15 (by decide +kernel) ?_
    refine mq_retX ?_
    exact xr_iret C hr hlk ⟨_, rfl, by rw [if_pos hv]; exact ⟨rfl, by rw [if_pos rfl]; exact ⟨_, by rw [hM1, mq_up_s], fun x9 e9 => by cases e9; rfl⟩, lwF.up (lwF.of hF9 vtA_l) hM1⟩⟩ (by omega) (by omega) dL_numberOf_16
  · refine xr_callXV1i C (x_numberOf l hlt G sb sn sx hG La hI M hV i hir (by omega)) (cwV 1 C.1.2.2.2.2 gL_numberOf_X11_numberOf rfl rfl rfl (by decide +kernel) ⟨Nat.le_of_ble_eq_true rfl, Nat.le_of_ble_eq_true rfl⟩) hV.1 rfl (Nat.le_of_ble_eq_true rfl) ⟨by dsimp only; omega, by dsimp only; omega⟩ dL_numberOf_4 (fun E9 M9 hx9 => ?_) (fun _ _ h9 => h9.elim)
    obtain ⟨rfl, rfl⟩ := hx9
    refine xt_catch (name := "java/lang/IndexOutOfBoundsException") C [] ⟨0, 9, 12, 25⟩ [] (hex.trans rfl) (fun _ h9 => nomatch h9) (by decide) (by decide) (C.1.2.2.2.2 (.classLink RL 25 "java/lang/IndexOutOfBoundsException") (by decide +kernel)) (va_Nw.use (w := .castable eIO eIO) rfl ((hG.old C).2.2.1 _ (by decide +kernel))) (fun q9 => ?_)
    refine xr_astore_n C dL_numberOf_12 (by decide) rfl ?_
    refine xr_iconst (n := 1) C dL_numberOf_13 (by decide +kernel) ?_
    refine mq_retX ?_
    exact xr_iret C hr hlk ⟨_, rfl, by rw [if_neg hv]; exact ⟨rfl, by rw [if_neg (by decide)]; exact hO, lwF.rf⟩⟩ (by omega) (by omega) dL_numberOf_14
