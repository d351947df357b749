/-! ===== one place of the shelf changed ===== -/
def vtA : List Nat := List.range 275
theorem vtA_m {r : Nat} (h : r < 275) : r ∈ vtA := List.mem_range.mpr h
theorem mq_FR.all {La : Nat → Nat} {S : List Nat} {M M' : mq_M} (h : mq_FR La S M M') (hs : ∀ r ∈ S, r < 275) : mq_FR La vtA M M' := h.sub (fun r hr => vtA_m (hs r hr))
theorem fnU_self {α : Type} (f : Nat → α) (k : Nat) : fnU f k (f k) = f := by
  funext j
  unfold fnU
  split
  · rename_i hq; rw [hq]
  · rfl
theorem shP.set {pv : Nat → Nat} {h : Nat → Bool} {d : Nat → List Nat} {vd : Nat → Int} (hP : shP pv h d vd) (i : Nat) {nh : Bool} {nd : List Nat} {nv : Int} (hv : vOK nh nd nv) : shP pv (fnU h i nh) (fnU d i nd) (fnU vd i nv) := ⟨hP.1, hP.2.1, fun j hj => by
  by_cases hji : j = i
  · rw [hji, fnU_s, fnU_s, fnU_s]; exact hv
  · rw [fnU_n hji, fnU_n hji, fnU_n hji]; exact hP.2.2 j hj⟩
theorem shI.set {G : mq_G} {M M' : mq_M} {La : Nat → Nat} {pv : Nat → Nat} {h : Nat → Bool} {d : Nat → List Nat} {vd : Nat → Int} {ld mb : Int} {nu ho : Nat → Int} (hI : mq_inj La) (hS : shI G M La pv h d vd ld mb nu ho) (hP : shP pv h d vd) {i : Nat} (hi : i < 17) (hF : mq_FR La [104 + 3 * pv i, 105 + 3 * pv i, 106 + 3 * pv i] M M') {nh : Bool} {nd : List Nat} {nv : Int} (hV : shV G M' La (pv i) nh nd nv) : shI G M' La pv (fnU h i nh) (fnU d i nd) (fnU vd i nv) ld mb nu ho := by
  obtain ⟨g1, ⟨fp, g2, g3⟩, ⟨fn, g4, g5⟩, ⟨fh, g6, g7⟩, g8⟩ := hS
  have hpi := hP.1 i hi
  have hT : ∀ r ∈ [104 + 3 * pv i, 105 + 3 * pv i, 106 + 3 * pv i], r < 275 := by
    simp only [List.mem_cons, List.not_mem_nil, or_false, forall_eq_or_imp, forall_eq]; omega
  have hn : ∀ r, r < 104 ∨ 155 ≤ r → r ∉ [104 + 3 * pv i, 105 + 3 * pv i, 106 + 3 * pv i] := fun r hr => by
    simp only [List.mem_cons, List.not_mem_nil, or_false]; omega
  refine ⟨(hF _ (mq_ni hI (by decide) hT (hn _ (by omega)))).trans g1, ⟨fp, (hF _ (mq_ni hI (by decide) hT (hn _ (by omega)))).trans g2, g3⟩, ⟨fn, (hF _ (mq_ni hI (by decide) hT (hn _ (by omega)))).trans g4, g5⟩, ⟨fh, (hF _ (mq_ni hI (by decide) hT (hn _ (by omega)))).trans g6, g7⟩, fun j hj => ?_⟩
  by_cases hji : j = i
  · rw [hji, fnU_s, fnU_s, fnU_s]; exact hV
  · rw [fnU_n hji, fnU_n hji, fnU_n hji]
    have hne : pv j ≠ pv i := fun hc => hji (hP.2.1 j i hj hi hc)
    refine (g8 j hj).fr hI hF (hP.1 j hj) hT ?_ ?_ ?_
    all_goals
      simp only [List.mem_cons, List.not_mem_nil, or_false]
      omega
theorem vtT_l {q : Nat} (hq : q < 17) : ∀ r ∈ [104 + 3 * q, 105 + 3 * q, 106 + 3 * q], (12 ≤ r ∧ r ≤ 15) ∨ (104 ≤ r ∧ r < 155) := by
  simp only [List.mem_cons, List.not_mem_nil, or_false, forall_eq_or_imp, forall_eq]; omega
theorem vtT_a {q : Nat} (hq : q < 17) : ∀ r ∈ [104 + 3 * q, 105 + 3 * q, 106 + 3 * q], r < 275 := by
  simp only [List.mem_cons, List.not_mem_nil, or_false, forall_eq_or_imp, forall_eq]; omega
theorem vtT_x {q r : Nat} (hr : r < 104) : r ∉ [104 + 3 * q, 105 + 3 * q, 106 + 3 * q] := by
  simp only [List.mem_cons, List.not_mem_nil, or_false]; omega
/-- what spare answers -/
def spF (h : Nat → Bool) (d : Nat → List Nat) : Int := if (svS h d 16).1 < 0 then -1 else max (-1) ((svS h d 16).2.1 - (mq_gd (d (svS h d 16).1.toNat) 2 : Int))
def swP (i j x : Nat) : Nat := if x = j then i else if x = i then j else x
theorem swF_eq {α : Type} (f : Nat → α) (i j x : Nat) : swF f i j x = f (swP i j x) := by
  unfold swF swP fnU
  by_cases h1 : x = j
  · rw [if_pos h1, if_pos h1]
  · rw [if_neg h1, if_neg h1]
    by_cases h2 : x = i
    · rw [if_pos h2, if_pos h2]
    · rw [if_neg h2, if_neg h2]
theorem shP.sw {pv : Nat → Nat} {h : Nat → Bool} {d : Nat → List Nat} {vd : Nat → Int} (hP : shP pv h d vd) {i j : Nat} (hi : i < 16) (hj : j < 16) : shP (swF pv i j) (swF h i j) (swF d i j) (swF vd i j) := by
  have hb : ∀ x, x < 17 → swP i j x < 17 := fun x hx => by unfold swP; (repeat' split) <;> omega
  refine ⟨fun x hx => ?_, fun x y hx hy he => ?_, fun x hx => ?_⟩
  · rw [swF_eq]; exact hP.1 _ (hb x hx)
  · rw [swF_eq, swF_eq] at he
    have := hP.2.1 _ _ (hb x hx) (hb y hy) he
    unfold swP at this
    repeat' split at this
    all_goals omega
  · rw [swF_eq, swF_eq, swF_eq]; exact hP.2.2 _ (hb x hx)
theorem mq_b_rng (b : Bool) : 0 ≤ mq_b b ∧ mq_b b ≤ 1 := by cases b <;> decide
theorem vt_nd6 {La : Nat → Nat} (hI : mq_inj La) {q t : Nat} (hq : q < 17) (ht : t < 17) (hn : q ≠ t) : [La (104 + 3 * q), La (105 + 3 * q), La (106 + 3 * q), La (104 + 3 * t), La (105 + 3 * t), La (106 + 3 * t)].Nodup := by
  simp only [List.nodup_cons, List.mem_cons, List.not_mem_nil, or_false, not_or, not_false_eq_true, List.nodup_nil, and_true]
  refine ⟨⟨?_, ?_, ?_, ?_, ?_⟩, ⟨?_, ?_, ?_, ?_⟩, ⟨?_, ?_, ?_⟩, ⟨?_, ?_⟩, ?_⟩
  all_goals exact mq_ne hI (by omega) (by omega) (by omega)
