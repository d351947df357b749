/-! ===== p48: the law's own check ===== -/
theorem tk_s {c : List Nat} {k : Nat} (h : k < c.length) : c.take (k + 1) = c.take k ++ [c.getD k 0] := by
  rw [List.take_succ_eq_append_getElem h, List.getD_eq_getElem?_getD, List.getElem?_eq_getElem h]
  rfl
theorem lbS_hi {c x : Nat} (h : c / 2 ^ 15 ^^^ x = 1) : lbS c x = c * 2 ^ 1 % 65536 ^^^ 4129 := by
  have e : c / 32768 ^^^ x = 1 := h
  unfold lbS
  rw [e]
theorem lbS_lo {c x : Nat} (hc : c < 65536) (hx : x < 2) (h : ¬ c / 2 ^ 15 ^^^ x = 1) : lbS c x = c * 2 ^ 1 % 65536 := by
  have h1 : c / 32768 < 2 := by omega
  have h2 := nx_lt2 h1 hx
  have e : c / 32768 ^^^ x = 0 := by
    have h3 : ¬ c / 32768 ^^^ x = 1 := h
    omega
  unfold lbS
  rw [e, Nat.zero_mul, Nat.xor_zero]
set_option maxHeartbeats 4000000 in
set_option maxRecDepth 100000 in
theorem l_check (l : Launch) (G : mq_G) (M : mq_M) (q : Nat) (f : Nat → Int32) (cs : List Nat) (hM : M q = some (.inl (G.2.1, cs.length, .inl f))) (hf : ∀ i, i < cs.length → f i = zI (cs.getD i 0 : Int)) (hb : ∀ x ∈ cs, x < 256) (hn : cs.length ≤ 240) : mq_T l yL_check wsL_check { frames := 0, cells := 0, slots := 0, locals := 0 } G [.ref q, .int (zI 0), .int (zI (cs.length : Int))] M (mq_ri M (crF 65535 cs : Int)) 0 0 := by
  refine mq_Met.of (cc := cL_check) (maxL := 7) (ret := (some .int)) (by decide) rfl (Nat.le_of_ble_eq_true rfl) rfl rfl ?_
  intro p_ e_ s_ m_ args_ below_ meth_ c_ z_ C hr hlk hname
  refine xr_ldc (k0 := 65535) C (C.1.2.2.2.2 (.constant RL 9 (zI 65535)) (by decide +kernel)) dL_check_0 ?_
  refine xr_istore_n C dL_check_2 (by decide) rfl ?_
  refine xr_iload_n C dL_check_3 rfl ?_
  refine xr_istore C dL_check_4 (by decide) rfl ?_
  rw [show (65535 : Int) = ((crF 65535 (cs.take 0) : Nat) : Int) from rfl]
  refine mq_loop (σ := Nat) (fun y => y ≤ cs.length) (fun y => cs.length - y) (fun y => M) (fun y => [some (.ref q), some (.int (zI 0)), some (.int (zI (cs.length : Int))), some (.int (zI ((crF 65535 (cs.take y) : Nat) : Int))), some (.int (zI (y : Int))), none, none]) (fun y => []) ?_ 0 (Nat.zero_le _)
  rintro k hk ih
  try dsimp only at hk ih ⊢
  have hcl : crF 65535 (cs.take k) < 65536 := crF_lt (by decide) _
  refine xr_iload C dL_check_6 rfl ?_
  refine xr_iload_n C dL_check_8 rfl ?_
  refine xr_icmp_ge C dL_check_9 rfl (by omega) (by omega) (fun hq1 => ?_) (fun hq1 => ?_)
  · refine xr_iload_n C dL_check_68 rfl ?_
    have e9 : cs.take k = cs := List.take_of_length_le (by omega)
    exact xr_iret C hr hlk ⟨_, rfl, by rw [e9], rfl⟩ (by first | omega | (dsimp only; omega)) (by first | omega | (dsimp only; omega)) dL_check_69
  · have hkl : k < cs.length := by omega
    generalize hB : cs.getD k 0 = B
    have hB2 : B < 256 := by
      rw [← hB, List.getD_eq_getElem?_getD, List.getElem?_eq_getElem hkl]
      exact hb _ (List.getElem_mem hkl)
    refine xr_bipush (n := 7) C dL_check_12 (by decide +kernel) ?_
    refine xr_istore C dL_check_14 (by decide) rfl ?_
    refine mq_loop (σ := Nat × Nat × Int) (fun y => (y.1 ≤ 8 ∧ y.2.1 < 65536 ∧ y.2.2 = (y.1 : Int) - 1) ∧ lbF B y.1 y.2.1 = crS (crF 65535 (cs.take k)) B) (fun y => y.1) (fun y => M) (fun y => [some (.ref q), some (.int (zI 0)), some (.int (zI (cs.length : Int))), some (.int (zI (y.2.1 : Int))), some (.int (zI (k : Int))), some (.int (zI y.2.2)), none]) (fun y => []) ?_ (8, crF 65535 (cs.take k), 7) ⟨⟨Nat.le_refl _, hcl, rfl⟩, lbF_crS _ _ hcl hB2⟩
    rintro ⟨y, r, v⟩ ⟨⟨hy, hr9, hv⟩, hl⟩ ih5
    dsimp only at hy hr9 hv hl ih5 ⊢
    refine xr_iload C dL_check_16 rfl ?_
    refine xr_if_lt C dL_check_18 rfl (by omega) (fun hq2 => ?_) (fun hq2 => ?_)
    · obtain rfl : y = 0 := by omega
      refine xr_iinc C dL_check_62 rfl (by decide) rfl ?_
      refine xr_goto C dL_check_65 rfl ?_
      have e9 : r = crF 65535 (cs.take (k + 1)) := by
        rw [tk_s hkl, crF_s, hB]
        exact hl
      refine mq_drop 5 ?_
      rw [e9, show (k : Int) + 1 = ((k + 1 : Nat) : Int) by omega]
      exact ih (k + 1) (by first | omega | (dsimp only; omega)) (by first | omega | (dsimp only; omega))
    · obtain ⟨j, rfl⟩ : ∃ j, y = j + 1 := ⟨y - 1, by omega⟩
      obtain rfl : v = (j : Int) := by omega
      have hx2 : B / 2 ^ j % 2 < 2 := Nat.mod_lt _ (by decide)
      have hl2 : lbF B j (lbS r (B / 2 ^ j % 2)) = crS (crF 65535 (cs.take k)) B := hl
      have hw1 : r / 2 ^ 15 < 2 := by omega
      have hBj : B / 2 ^ j ≤ B := Nat.div_le_self _ _
      have hxx := nx_lt2 hw1 hx2
      have hS9 := lbS_lt r (B / 2 ^ j % 2) hr9 hx2
      refine xr_iload_n C dL_check_21 rfl ?_
      refine xr_bipush (n := 15) C dL_check_22 (by decide +kernel) ?_
      refine xr_ishr (w := ((r / 2 ^ 15 : Nat) : Int)) C dL_check_24 (by exact zI_shrN (q := 15) (by omega) (by decide)) ?_
      refine xr_aload_n C dL_check_25 rfl ?_
      refine xr_iload C dL_check_26 rfl ?_
      refine xr_iald C hM mq_tI (by omega) (by omega) (by omega) dL_check_28 ?_
      rw [show f ((k : Int)).toNat = zI ((B : Nat) : Int) by rw [← hB]; exact hf k hkl]
      refine xr_iload C dL_check_29 rfl ?_
      refine xr_ishr (w := ((B / 2 ^ j : Nat) : Int)) C dL_check_31 (zI_shrN (by omega) (by omega)) ?_
      refine xr_iconst (n := 1) C dL_check_32 (by decide +kernel) ?_
      refine xr_iand (w := ((B / 2 ^ j % 2 : Nat) : Int)) C dL_check_33 (by exact zI_and1 (by omega)) ?_
      refine xr_ixor (w := ((r / 2 ^ 15 ^^^ B / 2 ^ j % 2 : Nat) : Int)) C dL_check_34 (zI_xorN (by omega) (by omega)) ?_
      refine xr_istore C dL_check_35 (by decide) rfl ?_
      refine xr_iload_n C dL_check_37 rfl ?_
      refine xr_iconst (n := 1) C dL_check_38 (by decide +kernel) ?_
      refine xr_ishl (w := ((r * 2 ^ 1 : Nat) : Int)) C dL_check_39 (by exact zI_shlN (q := 1) (by decide) (by omega)) ?_
      refine xr_ldc (k0 := 65535) C (C.1.2.2.2.2 (.constant RL 9 (zI 65535)) (by decide +kernel)) dL_check_40 ?_
      refine xr_iand (w := ((r * 2 ^ 1 % 65536 : Nat) : Int)) C dL_check_42 (by exact zI_and65535 (by omega)) ?_
      refine xr_istore_n C dL_check_43 (by decide) rfl ?_
      refine xr_iload C dL_check_44 rfl ?_
      refine xr_iconst (n := 1) C dL_check_46 (by decide +kernel) ?_
      refine xr_icmp_ne C dL_check_47 rfl (by omega) (by omega) (fun hq3 => ?_) (fun hq3 => ?_)
      · have e9 : lbS r (B / 2 ^ j % 2) = r * 2 ^ 1 % 65536 := lbS_lo hr9 hx2 (fun h9 => by omega)
        refine xr_iinc C dL_check_56 rfl (by decide) rfl ?_
        refine xr_goto C dL_check_59 rfl ?_
        refine mq_drop 6 ?_
        rw [show (j : Int) + -1 = ((j : Int) - 1) by omega]
        exact ih5 (j, r * 2 ^ 1 % 65536, (j : Int) - 1) ⟨⟨by dsimp only; omega, by dsimp only; omega, rfl⟩, by rw [← e9]; exact hl2⟩ (by dsimp only; omega)
      · have e9 : lbS r (B / 2 ^ j % 2) = r * 2 ^ 1 % 65536 ^^^ 4129 := lbS_hi (by omega)
        rw [e9] at hS9
        refine xr_iload_n C dL_check_50 rfl ?_
        refine xr_sipush (n := 4129) C dL_check_51 (by decide +kernel) ?_
        refine xr_ixor (w := ((r * 2 ^ 1 % 65536 ^^^ 4129 : Nat) : Int)) C dL_check_54 (by exact zI_xorN (b := 4129) (by omega) (by decide)) ?_
        refine xr_istore_n C dL_check_55 (by decide) rfl ?_
        refine xr_iinc C dL_check_56 rfl (by decide) rfl ?_
        refine xr_goto C dL_check_59 rfl ?_
        refine mq_drop 6 ?_
        rw [show (j : Int) + -1 = ((j : Int) - 1) by omega]
        exact ih5 (j, r * 2 ^ 1 % 65536 ^^^ 4129, (j : Int) - 1) ⟨⟨by dsimp only; omega, by dsimp only; omega, rfl⟩, by rw [← e9]; exact hl2⟩ (by dsimp only; omega)
