/-! ===== formed volumes: sound, of one, and the stream again ===== -/
theorem mq_gd_set (d : List Nat) (k v j : Nat) : mq_gd (d.set k v) (j : Int) = if j = k ∧ k < d.length then v else mq_gd d (j : Int) := by
  rw [mq_gd_nat, mq_gd_nat, List.getD_eq_getElem?_getD, List.getD_eq_getElem?_getD, List.getElem?_set]
  by_cases h1 : k = j
  · subst h1
    rw [if_pos rfl]
    by_cases h2 : k < d.length
    · rw [if_pos h2, if_pos ⟨rfl, h2⟩]; rfl
    · rw [if_neg h2, if_neg (fun hc => h2 hc.2), List.getElem?_eq_none (by omega)]
  · rw [if_neg h1, if_neg (fun hc => h1 hc.1.symm)]
theorem gfA_gd (d : List Nat) (fa : Nat) (d2 : List Nat) (fr : Nat) : ∀ t, 10 + t ≤ d.length → ∀ j : Nat, mq_gd (gfA d 10 fa d2 (fr : Int) t) (j : Int) = if 10 ≤ j ∧ j < 10 + t then mq_gd d (j : Int) ^^^ gfM fa (mq_gd d2 ((fr + (j - 10) : Nat) : Int)) else mq_gd d (j : Int)
  | 0, _, j => by rw [if_neg (by omega)]; rfl
  | t + 1, ht, j => by
    have ih := gfA_gd d fa d2 fr t (by omega)
    show mq_gd (mq_put (gfA d 10 fa d2 (fr : Int) t) (10 + (t : Int)) _) (j : Int) = _
    unfold mq_put
    rw [if_pos (by omega), show (10 + (t : Int)).toNat = 10 + t by omega, mq_gd_set, gfA_len]
    by_cases h1 : j = 10 + t
    · subst h1
      rw [if_pos ⟨rfl, by omega⟩, if_pos (by omega), show (10 : Int) + (t : Int) = ((10 + t : Nat) : Int) by omega, ih, if_neg (by omega), show (fr : Int) + (t : Int) = ((fr + (10 + t - 10) : Nat) : Int) by omega]
    · rw [if_neg (fun hc => h1 hc.1), ih]
      by_cases h2 : 10 ≤ j ∧ j < 10 + t
      · rw [if_pos h2, if_pos (by omega)]
      · rw [if_neg h2, if_neg (by omega)]
theorem gfP_gd (d : List Nat) (fa : Nat) (d2 : List Nat) (fr t : Nat) (ht : 10 + t ≤ d.length) (j : Nat) : mq_gd (gfP d 10 fa d2 (fr : Int) t) (j : Int) = if fa ≠ 0 ∧ 10 ≤ j ∧ j < 10 + t then mq_gd d (j : Int) ^^^ gfM fa (mq_gd d2 ((fr + (j - 10) : Nat) : Int)) else mq_gd d (j : Int) := by
  unfold gfP
  by_cases h1 : fa = 0
  · rw [if_pos h1, if_neg (fun hc => hc.1 h1)]
  · rw [if_neg h1, gfA_gd d fa d2 fr t ht j]
    by_cases h2 : 10 ≤ j ∧ j < 10 + t
    · rw [if_pos h2, if_pos ⟨h1, h2⟩]
    · rw [if_neg h2, if_neg (fun hc => h2 hc.2)]
theorem vLp_hd (S : List Nat) (nb dn bd : Nat) (b0 : List Nat) (hb : 10 + bd ≤ b0.length) : ∀ i, ∀ j : Nat, j < 10 → mq_gd (vLp S nb dn bd b0 i) (j : Int) = mq_gd b0 (j : Int)
  | 0, _, _ => rfl
  | i + 1, j, hj => by
    show mq_gd (gfP (vLp S nb dn bd b0 i) 10 (gfW nb i dn) S ((i * bd : Nat) : Int) bd) (j : Int) = _
    rw [gfP_gd _ _ _ _ _ (by rw [vLp_len]; omega), if_neg (by omega), vLp_hd S nb dn bd b0 hb i j hj]
theorem vLp_bd (S : List Nat) (hS : ∀ x ∈ S, x < 256) (nb dn bd : Nat) (hn : nb < dn) (b0 : List Nat) (hb : 10 + bd ≤ b0.length) : ∀ i, ∀ j : Nat, j < bd → mq_gd (vLp S nb dn bd b0 i) ((10 + j : Nat) : Int) = if nb < i then mq_gd b0 ((10 + j : Nat) : Int) ^^^ mq_gd S ((nb * bd + j : Nat) : Int) else mq_gd b0 ((10 + j : Nat) : Int)
  | 0, j, _ => by rw [if_neg (by omega)]; rfl
  | i + 1, j, hj => by
    show mq_gd (gfP (vLp S nb dn bd b0 i) 10 (gfW nb i dn) S ((i * bd : Nat) : Int) bd) ((10 + j : Nat) : Int) = _
    rw [gfP_gd _ _ _ _ _ (by rw [vLp_len]; omega), vLp_bd S hS nb dn bd hn b0 hb i j hj]
    have hw : gfW nb i dn = if nb = i then 1 else 0 := by unfold gfW; rw [if_pos hn]
    rw [hw]
    by_cases h1 : nb = i
    · subst h1
      rw [if_pos rfl, if_pos ⟨by decide, by omega, by omega⟩, if_neg (by omega), if_pos (by omega), gfM_one _ (mq_gd_lt hS _), show nb * bd + (10 + j - 10) = nb * bd + j by omega]
    · rw [if_neg h1, if_neg (fun hc => hc.1 rfl)]
      by_cases h2 : nb < i
      · rw [if_pos h2, if_pos (by omega)]
      · rw [if_neg h2, if_neg (by omega)]
theorem vB0_len (S : List Nat) (nb dn pn : Nat) : (vHd nb dn pn (bdS S.length dn) S.length ++ List.replicate (bdS S.length dn) 0).length = 10 + bdS S.length dn := by simp [vHd]; omega
theorem vRw_hd (S : List Nat) (nb dn pn j : Nat) (hj : j < 10) : mq_gd (vRw S nb dn pn) (j : Int) = (vHd nb dn pn (bdS S.length dn) S.length).getD j 0 := by
  unfold vRw
  rw [vLp_hd S nb dn _ _ (by rw [vB0_len]; omega) dn j hj, mq_gd_nat, List.getD_eq_getElem?_getD, List.getD_eq_getElem?_getD, List.getElem?_append_left (by simp [vHd]; omega)]
theorem vRw_bd (S : List Nat) (hS : ∀ x ∈ S, x < 256) (nb dn pn j : Nat) (hn : nb < dn) (hj : j < bdS S.length dn) : mq_gd (vRw S nb dn pn) ((10 + j : Nat) : Int) = mq_gd S ((nb * bdS S.length dn + j : Nat) : Int) := by
  unfold vRw
  rw [vLp_bd S hS nb dn _ hn _ (by rw [vB0_len]; omega) dn j hj, if_pos hn]
  have : mq_gd (vHd nb dn pn (bdS S.length dn) S.length ++ List.replicate (bdS S.length dn) 0) ((10 + j : Nat) : Int) = 0 := by
    rw [mq_gd_nat, List.getD_eq_getElem?_getD, List.getElem?_append_right (by simp [vHd]), List.getElem?_replicate]
    split <;> rfl
  rw [this, Nat.zero_xor]
theorem vFm_gd (S : List Nat) (nb dn pn j : Nat) (hj : j ≠ 8 ∧ j ≠ 9) : mq_gd (vFm S nb dn pn) (j : Int) = mq_gd (vRw S nb dn pn) (j : Int) := by
  unfold vFm
  rw [mq_gd_set, if_neg (by omega), mq_gd_set, if_neg (by omega)]
theorem vFm_h (S : List Nat) (nb dn pn j : Nat) (hj : j < 8) : mq_gd (vFm S nb dn pn) (j : Int) = (vHd nb dn pn (bdS S.length dn) S.length).getD j 0 := by
  rw [vFm_gd _ _ _ _ _ (by omega), vRw_hd _ _ _ _ _ (by omega)]
theorem mq_part_eq {d d2 : List Nat} {k t : Nat} (h : ∀ j, j < t → mq_gd d ((k + j : Nat) : Int) = mq_gd d2 ((k + j : Nat) : Int)) : mq_part d (k : Int) t = mq_part d2 (k : Int) t := by
  unfold mq_part
  apply List.map_congr_left
  intro j hj
  have := h j (List.mem_range.mp hj)
  rw [show (k : Int) + (j : Int) = ((k + j : Nat) : Int) by omega]
  exact this
theorem vFm_chk (S : List Nat) (nb dn pn : Nat) : vChk (vFm S nb dn pn) = vChk (vRw S nb dn pn) := by
  unfold vChk
  have e1 : mq_part (vFm S nb dn pn) 0 8 = mq_part (vRw S nb dn pn) 0 8 := mq_part_eq (k := 0) (fun j hj => vFm_gd _ _ _ _ _ (by omega))
  have e2 : mq_part (vFm S nb dn pn) 10 ((vFm S nb dn pn).length - 10) = mq_part (vRw S nb dn pn) 10 ((vRw S nb dn pn).length - 10) := by
    rw [vFm_len, vRw_len]
    exact mq_part_eq (k := 10) (fun j hj => vFm_gd _ _ _ _ _ (by omega))
  rw [e1, e2]
theorem vFm_nums (S : List Nat) (nb dn pn : Nat) : mq_gd (vFm S nb dn pn) 0 = 86 ∧ mq_gd (vFm S nb dn pn) 1 = nb ∧ mq_gd (vFm S nb dn pn) 2 = dn ∧ mq_gd (vFm S nb dn pn) 3 = pn ∧ mq_wd (vFm S nb dn pn) 4 = bdS S.length dn ∧ mq_wd (vFm S nb dn pn) 6 = S.length ∧ mq_wd (vFm S nb dn pn) 8 = vChk (vFm S nb dn pn) := by
  have hh := vFm_h S nb dn pn
  refine ⟨hh 0 (by decide), hh 1 (by decide), hh 2 (by decide), hh 3 (by decide), ?_, ?_, ?_⟩
  · unfold mq_wd
    rw [show mq_gd (vFm S nb dn pn) 4 = bdS S.length dn / 256 from hh 4 (by decide), show mq_gd (vFm S nb dn pn) (4 + 1) = bdS S.length dn % 256 from hh 5 (by decide)]
    omega
  · unfold mq_wd
    rw [show mq_gd (vFm S nb dn pn) 6 = S.length / 256 from hh 6 (by decide), show mq_gd (vFm S nb dn pn) (6 + 1) = S.length % 256 from hh 7 (by decide)]
    omega
  · rw [vFm_chk]
    have hl := vRw_len S nb dn pn
    unfold mq_wd vFm
    generalize vChk (vRw S nb dn pn) = c
    generalize vRw S nb dn pn = w at hl ⊢
    have e8 : mq_gd ((w.set 8 (c / 256)).set 9 (c % 256)) ((8 : Nat) : Int) = c / 256 := by
      rw [mq_gd_set, if_neg (by omega), mq_gd_set, if_pos ⟨rfl, by omega⟩]
    have e9 : mq_gd ((w.set 8 (c / 256)).set 9 (c % 256)) ((9 : Nat) : Int) = c % 256 := by
      rw [mq_gd_set, if_pos ⟨rfl, by rw [List.length_set]; omega⟩]
    show mq_gd _ ((8 : Nat) : Int) * 256 + mq_gd _ ((9 : Nat) : Int) = _
    rw [e8, e9]; omega
theorem vFm_whl (S : List Nat) (nb dn pn : Nat) (hd : 1 ≤ dn ∧ dn ≤ 10) (hp : pn ≤ 6) (hn : nb < dn + pn) : vWhl true (vFm S nb dn pn) = true := by
  obtain ⟨h0, h1, h2, h3, h4, h6, h8⟩ := vFm_nums S nb dn pn
  have hl := vFm_len S nb dn pn
  unfold vWhl vFits
  simp only [Bool.and_eq_true, decide_eq_true_eq]
  rw [h0, h1, h2, h3, h4, h6, hl]
  refine ⟨⟨?_, ?_, ?_, ?_, ?_, ?_, ?_, ?_, ?_⟩, h8⟩ <;> first | trivial | omega | rfl
theorem vFm_one (S : List Nat) (nb nb2 dn pn : Nat) : vOne (vFm S nb dn pn) (vFm S nb2 dn pn) = true := by
  obtain ⟨h0, h1, h2, h3, h4, h6, h8⟩ := vFm_nums S nb dn pn
  obtain ⟨k0, k1, k2, k3, k4, k6, k8⟩ := vFm_nums S nb2 dn pn
  unfold vOne
  rw [h2, h3, h4, h6, k2, k3, k4, k6]
  simp
theorem vFm_part (S : List Nat) (hS : ∀ x ∈ S, x < 256) (nb dn pn : Nat) (hn : nb < dn) : mq_part (vFm S nb dn pn) 10 (bdS S.length dn) = mq_part S ((nb * bdS S.length dn : Nat) : Int) (bdS S.length dn) := by
  unfold mq_part
  apply List.map_congr_left
  intro j hj
  have hj := List.mem_range.mp hj
  rw [show (10 : Int) + (j : Int) = ((10 + j : Nat) : Int) by omega, vFm_gd _ _ _ _ _ (by omega), vRw_bd S hS nb dn pn j hn hj, show ((nb * bdS S.length dn : Nat) : Int) + (j : Int) = ((nb * bdS S.length dn + j : Nat) : Int) by omega]
