/-! ===== the survey, as a function: ranges ===== -/
theorem vWhl_num {h : Bool} {d : List Nat} (hw : vWhl h d = true) : h = true ∧ mq_gd d 1 < 16 ∧ mq_gd d 1 < mq_gd d 2 + mq_gd d 3 ∧ 1 ≤ mq_gd d 2 ∧ mq_gd d 2 ≤ 10 ∧ mq_gd d 3 ≤ 6 := by
  unfold vWhl at hw
  have h1 : vFits h d = true := by
    cases hf : vFits h d with
    | true => rfl
    | false => rw [hf] at hw; cases hw
  have h2 := of_decide_eq_true h1
  obtain ⟨q0, q1, q2, q3, q4, q5, q6, q7, q8⟩ := h2
  exact ⟨q0, by omega, q6, q3, q4, q5⟩
def svR (s : svT) (i : Nat) : Prop := (-1 ≤ s.1 ∧ s.1 < 16) ∧ (0 ≤ s.2.1 ∧ s.2.1 ≤ (i : Int)) ∧ (∀ q, -1 ≤ s.2.2.1 q ∧ s.2.2.1 q < 16) ∧ ∀ q, -1 ≤ s.2.2.2 q ∧ s.2.2.2 q < 16
theorem svU_rng {f : Nat → Int} {k : Nat} {v : Int} (hf : ∀ q, -1 ≤ f q ∧ f q < 16) (hv : -1 ≤ v ∧ v < 16) : ∀ q, -1 ≤ svU f k v q ∧ svU f k v q < 16 := by
  intro q
  unfold svU
  split
  · exact hv
  · exact hf q
theorem svSee_no {d : Nat → List Nat} {i : Nat} {s : svT} {k : Nat} (hk : (if s.1 < 0 then (i : Int) else s.1) = (k : Int)) (h : ¬ (vOne (d i) (d k) = true ∧ s.2.2.2 (mq_gd (d i) 1) < 0)) : svSee d i s = ((k : Int), s.2.1, s.2.2.1, s.2.2.2) := by
  unfold svSee
  rw [hk]
  exact if_neg h
theorem svSee_yes {d : Nat → List Nat} {i : Nat} {s : svT} {k : Nat} (hk : (if s.1 < 0 then (i : Int) else s.1) = (k : Int)) (h : vOne (d i) (d k) = true ∧ s.2.2.2 (mq_gd (d i) 1) < 0) : svSee d i s = ((k : Int), s.2.1 + 1, svU s.2.2.1 i (mq_gd (d i) 1 : Int), svU s.2.2.2 (mq_gd (d i) 1) (i : Int)) := by
  unfold svSee
  rw [hk]
  exact if_pos h
theorem svSee_rng {d : Nat → List Nat} {i : Nat} {s : svT} (hs : svR s i) (hi : i < 16) (hn : mq_gd (d i) 1 < 16) : svR (svSee d i s) (i + 1) := by
  obtain ⟨h1, h2, h3, h4⟩ := hs
  obtain ⟨k, hk⟩ : ∃ k : Nat, (if s.1 < 0 then (i : Int) else s.1) = (k : Int) := by
    split
    · exact ⟨i, rfl⟩
    · exact ⟨s.1.toNat, by omega⟩
  have hk16 : k < 16 := by
    split at hk
    · omega
    · omega
  by_cases h : vOne (d i) (d k) = true ∧ s.2.2.2 (mq_gd (d i) 1) < 0
  · rw [svSee_yes hk h]
    exact ⟨⟨by dsimp only; omega, by dsimp only; omega⟩, ⟨by dsimp only; omega, by dsimp only; omega⟩, svU_rng h3 (by omega), svU_rng h4 (by omega)⟩
  · rw [svSee_no hk h]
    exact ⟨⟨by dsimp only; omega, by dsimp only; omega⟩, ⟨by dsimp only; omega, by dsimp only; omega⟩, h3, h4⟩
theorem svS_rng (h : Nat → Bool) (d : Nat → List Nat) : ∀ i, i ≤ 16 → svR (svS h d i) i
  | 0, _ => by
    show svR (-1, 0, (fun _ => -1), fun _ => -1) 0
    exact ⟨by decide, by decide, fun _ => ⟨Int.le_refl _, by show (-1 : Int) < 16; decide⟩, fun _ => ⟨Int.le_refl _, by show (-1 : Int) < 16; decide⟩⟩
  | i + 1, hi => by
    have ih := svS_rng h d i (by omega)
    unfold svS
    split
    · rename_i hw
      exact svSee_rng ih (by omega) (vWhl_num hw).2.1
    · obtain ⟨h1, h2, h3, h4⟩ := ih
      exact ⟨h1, ⟨h2.1, by omega⟩, h3, h4⟩
def mq_TV : List Nat := 12 :: 13 :: 14 :: 15 :: (List.range 51).map (fun i => 104 + i)
theorem mq_TVm {r : Nat} : r ∈ mq_TV ↔ (12 ≤ r ∧ r ≤ 15) ∨ (104 ≤ r ∧ r < 155) := by
  unfold mq_TV
  rw [List.mem_cons, List.mem_cons, List.mem_cons, List.mem_cons, List.mem_map]
  constructor
  · rintro (h | h | h | h | ⟨x, hx, h⟩)
    · omega
    · omega
    · omega
    · omega
    · have := List.mem_range.mp hx
      omega
  · rintro (h | ⟨h1, h2⟩)
    · omega
    · exact Or.inr (Or.inr (Or.inr (Or.inr ⟨r - 104, List.mem_range.mpr (by omega), by omega⟩)))
theorem mq_TVl : ∀ q ∈ mq_TV, q < 275 := fun q h => by have := mq_TVm.mp h; omega
theorem mq_TTV {La : Nat → Nat} {M M' : mq_M} (h : mq_FR La mq_TT M M') : mq_FR La mq_TV M M' := h.mono (fun a ha => by
  obtain ⟨r, hr, rfl⟩ := List.mem_map.mp ha
  exact List.mem_map.mpr ⟨r, mq_TVm.mpr (by have := mq_TTm.mp hr; omega), rfl⟩)
/-- a frame of some roles among others -/
theorem mq_FR.sub {La : Nat → Nat} {S T : List Nat} {M M' : mq_M} (h : mq_FR La S M M') (hs : ∀ r ∈ S, r ∈ T) : mq_FR La T M M' := h.mono (fun a ha => by
  obtain ⟨r, hr, rfl⟩ := List.mem_map.mp ha
  exact List.mem_map.mpr ⟨r, hs r hr, rfl⟩)
