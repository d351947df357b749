theorem dkPl_spec {n : Nat} {ky : Nat → Nat} {k : Nat} : (∀ j, j < dkPl n ky k → ky j < k) ∧ (dkPl n ky k < n → k ≤ ky (dkPl n ky k)) := by
  have hle := dkPl_le n ky k
  cases h : (List.range n).find? (fun i => decide (k ≤ ky i)) with
  | none =>
    have e1 : dkPl n ky k = n := by unfold dkPl; rw [h]; rfl
    rw [List.find?_range_eq_none] at h
    rw [e1]
    exact ⟨fun j hj => by have := h j hj; simp at this; omega, fun q => by omega⟩
  | some i =>
    have e1 : dkPl n ky k = i := by unfold dkPl; rw [h]; rfl
    rw [List.find?_range_eq_some] at h
    obtain ⟨h1, h2, h3⟩ := h
    rw [e1]
    exact ⟨fun j hj => by have := h3 j hj; simp at this; omega, fun _ => by simpa using h1⟩
theorem mq_rnd {La : Nat → Nat} (hI : mq_inj La) : ∀ {l : List Nat}, l.Nodup → (∀ r ∈ l, r < 275) → (l.map La).Nodup
  | [], _, _ => List.nodup_nil
  | a :: l, hn, hl => by
    rw [List.nodup_cons] at hn
    rw [List.map_cons, List.nodup_cons]
    exact ⟨mq_ni hI (hl a List.mem_cons_self) (fun q hq => hl q (List.mem_cons_of_mem _ hq)) hn.1, mq_rnd hI hn.2 (fun r hr => hl r (List.mem_cons_of_mem _ hr))⟩
/-- a row with something put in at a place -/
def fnI {α : Type} (f : Nat → α) (k : Nat) (v : α) : Nat → α := fun j => if j < k then f j else if j = k then v else f (j - 1)
/-- a row with the place n moved to the place k -/
def fnM {α : Type} (f : Nat → α) (k n : Nat) : Nat → α := fun j => if j < k then f j else if j = k then f n else if j ≤ n then f (j - 1) else f j
def mq_TD : List Nat := 6 :: 11 :: (List.range 80).map (fun i => 24 + i)
theorem mq_TDm {r : Nat} : r ∈ mq_TD ↔ r = 6 ∨ r = 11 ∨ (24 ≤ r ∧ r < 104) := by
  unfold mq_TD
  rw [List.mem_cons, List.mem_cons, List.mem_map]
  constructor
  · rintro (h | h | ⟨x, hx, h⟩)
    · omega
    · omega
    · have := List.mem_range.mp hx
      omega
  · rintro (h | h | ⟨h1, h2⟩)
    · exact Or.inl h
    · exact Or.inr (Or.inl h)
    · exact Or.inr (Or.inr ⟨r - 24, List.mem_range.mpr (by omega), by omega⟩)
theorem mq_TDl : ∀ q ∈ mq_TD, q < 275 := fun q h => by have := mq_TDm.mp h; omega
theorem dkP_mv {pf : Nat → Nat} {n : Nat} {ky : Nat → Nat} {c : Nat → List Nat} {ck : Nat → Nat} {k k2 : Nat} {c2 : Nat → List Nat} (hP : dkP pf n ky c ck) (hn : n < 16) (hk : k ≤ n) (hk2 : k2 < 65536) (h1 : ∀ j, j < k → ky j < k2) (h2 : k < n → k2 < ky k) {v : Nat} (hv : v < 65536) : dkP (fnM pf k n) (n + 1) (fnI ky k k2) c2 (fnI ck k v) := by
  obtain ⟨a1, a2, a3, a4, a5⟩ := hP
  refine ⟨fun i hi => ?_, fun i j hi hj => ?_, by omega, fun i hi => ?_, fun i j hij hj => ?_⟩
  · unfold fnM
    split
    · exact a1 i hi
    · split
      · exact a1 n hn
      · split
        · exact a1 (i - 1) (by omega)
        · exact a1 i hi
  · have b1 := a2 i j hi hj
    have b2 := a2 i n hi hn
    have b3 := a2 n j hn hj
    have b4 := a2 (i - 1) (j - 1) (by omega) (by omega)
    have b5 := a2 (i - 1) j (by omega) hj
    have b6 := a2 i (j - 1) hi (by omega)
    have b7 := a2 (i - 1) n (by omega) hn
    have b8 := a2 n (j - 1) hn (by omega)
    unfold fnM
    repeat' split
    all_goals (intro e; first | omega | (have := b1 e; omega) | (have := b2 e; omega) | (have := b3 e; omega) | (have := b4 e; omega) | (have := b5 e; omega) | (have := b6 e; omega) | (have := b7 e; omega) | (have := b8 e; omega))
  · unfold fnI
    split
    · exact a4 i (by omega)
    · split
      · exact ⟨hk2, hv⟩
      · exact a4 (i - 1) (by omega)
  · unfold fnI
    by_cases hik : i < k
    · rw [if_pos hik]
      by_cases hjk : j < k
      · rw [if_pos hjk]; exact a5 i j hij (by omega)
      · rw [if_neg hjk]
        by_cases hj2 : j = k
        · rw [if_pos hj2]; exact h1 i hik
        · rw [if_neg hj2]; exact a5 i (j - 1) (by omega) (by omega)
    · rw [if_neg hik]
      by_cases hi2 : i = k
      · rw [if_pos hi2, if_neg (by omega), if_neg (by omega)]
        have c1 := h2 (by omega)
        by_cases hj3 : j - 1 = k
        · rw [hj3]; exact c1
        · have := a5 k (j - 1) (by omega) (by omega); omega
      · rw [if_neg hi2, if_neg (by omega), if_neg (by omega)]
        exact a5 (i - 1) (j - 1) (by omega) (by omega)
theorem fnM_n {α : Type} (f : Nat → α) (n : Nat) : fnM f n n = f := by
  funext j
  unfold fnM
  split
  · rfl
  · split
    · rename_i h
      rw [h]
    · rw [if_neg (by omega)]
theorem fnM_sw {α : Type} {f : Nat → α} {y n : Nat} (hy : 0 < y) (hn : y ≤ n) : swF (fnM f y n) (y - 1) y = fnM f (y - 1) n := by
  funext j
  unfold swF fnU
  by_cases h1 : j = y
  · rw [if_pos h1]
    unfold fnM
    rw [if_pos (by omega), if_neg (by omega), if_neg (by omega), if_pos (by omega), h1]
  · rw [if_neg h1]
    by_cases h2 : j = y - 1
    · rw [if_pos h2]
      unfold fnM
      rw [if_neg (by omega), if_pos rfl, if_neg (by omega), if_pos h2]
    · rw [if_neg h2]
      unfold fnM
      by_cases h3 : j < y
      · rw [if_pos h3, if_pos (by omega)]
      · rw [if_neg h3, if_neg h1, if_neg (show ¬ j < y - 1 by omega), if_neg h2]
theorem fnM_I {α : Type} {f : Nat → α} {i n : Nat} {v : α} {j : Nat} (hj : j < n + 1) : fnU (fnM f i n) i v j = fnI f i v j := by
  unfold fnU fnM fnI
  by_cases h1 : j = i
  · rw [if_pos h1, if_neg (by omega), if_pos h1]
  · rw [if_neg h1]
    by_cases h2 : j < i
    · rw [if_pos h2, if_pos h2]
    · rw [if_neg h2, if_neg h2, if_neg h1, if_neg h1, if_pos (by omega)]
