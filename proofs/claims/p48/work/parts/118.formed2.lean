/-! ===== a shelf that fillWith left: its survey, its stream ===== -/
def svI9 (m : Nat) : Nat → Int := fun v => if v < m then (v : Int) else -1
theorem svI9_up (m : Nat) : svU (svI9 m) m (m : Int) = svI9 (m + 1) := by
  funext v
  unfold svU svI9
  by_cases h1 : v = m
  · subst h1
    rw [if_pos rfl, if_pos (by omega)]
  · rw [if_neg h1]
    by_cases h2 : v < m
    · rw [if_pos h2, if_pos (by omega)]
    · rw [if_neg h2, if_neg (by omega)]
theorem vWhl_no (d : List Nat) : vWhl false d = false := by
  unfold vWhl vFits
  simp
theorem svS_fw {h : Nat → Bool} {d : Nat → List Nat} {S : List Nat} {dn pn : Nat} (hd : 1 ≤ dn ∧ dn ≤ 10) (hp : pn ≤ 6) (hA : ∀ i, i < 16 → h i = fwH dn pn i ∧ d i = fwD S dn pn i) : ∀ i, i ≤ 16 → svS h d i = ((if i = 0 then -1 else 0), ((min i (dn + pn) : Nat) : Int), svI9 (min i (dn + pn)), svI9 (min i (dn + pn)))
  | 0, _ => by
    rw [show min 0 (dn + pn) = 0 by omega]
    show ((-1 : Int), (0 : Int), (fun _ => (-1 : Int)), (fun _ => (-1 : Int))) = _
    have : svI9 0 = fun _ => (-1 : Int) := by funext v; unfold svI9; rw [if_neg (by omega)]
    rw [this]; rfl
  | i + 1, hi => by
    have ih := svS_fw hd hp hA i (by omega)
    have e1 : svS h d (i + 1) = if vWhl (h i) (d i) = true then svSee d i (svS h d i) else svS h d i := rfl
    obtain ⟨a1, a2⟩ := hA i (by omega)
    obtain ⟨z1, z2⟩ := hA 0 (by omega)
    by_cases hc : i < dn + pn
    · have hhi : h i = true := by rw [a1]; unfold fwH; exact decide_eq_true hc
      have hdi : d i = vFm S i dn pn := by rw [a2]; unfold fwD; rw [if_pos hc]
      have hd0 : d 0 = vFm S 0 dn pn := by rw [z2]; unfold fwD; rw [if_pos (by omega)]
      have hg1 : mq_gd (d i) 1 = i := by rw [hdi]; exact (vFm_nums S i dn pn).2.1
      have hw : vWhl (h i) (d i) = true := by rw [hhi, hdi]; exact vFm_whl S i dn pn hd hp hc
      rw [e1, if_pos hw, ih, show min i (dn + pn) = i by omega, show min (i + 1) (dn + pn) = i + 1 by omega]
      rw [svSee_yes (k := 0) (by dsimp only; by_cases h0 : i = 0
                                 · rw [if_pos h0]; simp [h0]
                                 · rw [if_neg h0]; simp) ⟨by rw [hdi, hd0]; exact vFm_one S i 0 dn pn, by dsimp only; rw [hg1]; unfold svI9; rw [if_neg (by omega)]; decide⟩]
      dsimp only
      rw [hg1, svI9_up, if_neg (by omega)]
      rfl
    · have hhi : h i = false := by rw [a1]; unfold fwH; exact decide_eq_false hc
      rw [e1, hhi, vWhl_no, if_neg (by decide), ih, show min i (dn + pn) = dn + pn by omega, show min (i + 1) (dn + pn) = dn + pn by omega, if_neg (by omega), if_neg (by omega)]
theorem svS_fw16 {h : Nat → Bool} {d : Nat → List Nat} {S : List Nat} {dn pn : Nat} (hd : 1 ≤ dn ∧ dn ≤ 10) (hp : pn ≤ 6) (hA : ∀ i, i < 16 → h i = fwH dn pn i ∧ d i = fwD S dn pn i) : svS h d 16 = (0, ((dn + pn : Nat) : Int), svI9 (dn + pn), svI9 (dn + pn)) := by
  rw [svS_fw hd hp hA 16 (by decide), show min 16 (dn + pn) = dn + pn by omega]
  rfl
theorem spF_fw {h : Nat → Bool} {d : Nat → List Nat} {S : List Nat} {dn pn : Nat} (hd : 1 ≤ dn ∧ dn ≤ 10) (hp : pn ≤ 6) (hA : ∀ i, i < 16 → h i = fwH dn pn i ∧ d i = fwD S dn pn i) : spF h d = (pn : Int) := by
  unfold spF
  rw [svS_fw16 hd hp hA]
  dsimp only
  obtain ⟨z1, z2⟩ := hA 0 (by omega)
  have hd0 : d 0 = vFm S 0 dn pn := by rw [z2]; unfold fwD; rw [if_pos (by omega)]
  rw [if_neg (by omega), show (0 : Int).toNat = 0 from rfl, hd0, (vFm_nums S 0 dn pn).2.2.1]
  omega
theorem msC_fw (m : Nat) : ∀ i, i ≤ m → msC (svI9 m) i = 0
  | 0, _ => rfl
  | i + 1, hi => by
    unfold msC
    rw [msC_fw m i (by omega)]
    unfold svI9
    rw [if_pos (show i < m by omega), if_neg (by omega)]
theorem mq_part_app (S : List Nat) (a b c : Nat) : mq_part S (a : Int) b ++ mq_part S ((a + b : Nat) : Int) c = mq_part S (a : Int) (b + c) := by
  unfold mq_part
  rw [List.range_add, List.map_append, List.map_map]
  congr 1
  apply List.map_congr_left
  intro j _
  show mq_gd S _ = mq_gd S _
  rw [show ((a + b : Nat) : Int) + (j : Int) = (a : Int) + ((b + j : Nat) : Int) by omega]
theorem mq_part_tk (S : List Nat) (n : Nat) (hn : S.length ≤ n) : (mq_part S 0 n).take S.length = S := by
  apply List.ext_getElem?
  intro j
  unfold mq_part
  by_cases hj : j < S.length
  · rw [List.getElem?_take_of_lt hj, List.getElem?_map, List.getElem?_range (by omega), List.getElem?_eq_getElem hj]
    show some (mq_gd S (0 + (j : Int))) = _
    rw [Int.zero_add, mq_gd_nat, List.getD_eq_getElem?_getD, List.getElem?_eq_getElem hj]
    rfl
  · rw [List.getElem?_eq_none (by simp; omega), List.getElem?_eq_none (by omega)]
theorem rcS_fw {d : Nat → List Nat} {S : List Nat} (hS : ∀ x ∈ S, x < 256) {dn pn : Nat} (hd : 1 ≤ dn ∧ dn ≤ 10) (hA : ∀ i, i < dn → d i = fwD S dn pn i) : ∀ i, i ≤ dn → rcS d (svI9 (dn + pn)) (bdS S.length dn) i = mq_part S 0 (i * bdS S.length dn)
  | 0, _ => by rw [Nat.zero_mul]; rfl
  | i + 1, hi => by
    show rcS d (svI9 (dn + pn)) (bdS S.length dn) i ++ mq_part (d (svI9 (dn + pn) i).toNat) 10 (bdS S.length dn) = _
    rw [rcS_fw hS hd hA i (by omega)]
    have e1 : (svI9 (dn + pn) i).toNat = i := by unfold svI9; rw [if_pos (show i < dn + pn by omega)]; omega
    rw [e1, hA i (by omega)]
    unfold fwD
    rw [if_pos (by omega), vFm_part S hS i dn pn (by omega), Nat.succ_mul]
    have := mq_part_app S 0 (i * bdS S.length dn) (bdS S.length dn)
    rw [Nat.zero_add] at this
    exact this
theorem rcS_fwS {d : Nat → List Nat} {S : List Nat} (hS : ∀ x ∈ S, x < 256) {dn pn : Nat} (hd : 1 ≤ dn ∧ dn ≤ 10) (hA : ∀ i, i < dn → d i = fwD S dn pn i) : (rcS d (svI9 (dn + pn)) (bdS S.length dn) dn).take S.length = S := by
  rw [rcS_fw hS hd hA dn (Nat.le_refl _)]
  exact mq_part_tk S _ (bdS_ge (by omega))
theorem fwC_fw {h : Nat → Bool} {d : Nat → List Nat} {S : List Nat} {dn pn : Nat} (hA : ∀ i, i < 16 → h i = fwH dn pn i ∧ d i = fwD S dn pn i) : ∀ i, i ≤ 16 → fwC h d S dn pn i = 0
  | 0, _ => rfl
  | i + 1, hi => by
    unfold fwC
    rw [fwC_fw hA i (by omega), if_pos (hA i (by omega))]
