def swF {α : Type} (f : Nat → α) (i j : Nat) : Nat → α := fnU (fnU f i (f j)) j (f i)
theorem shP_ex {pw : Nat → Nat} {h : Nat → Bool} {d : Nat → List Nat} {vd : Nat → Int} {i j : Nat} (hP : shP pw h d vd) (hi : i < 17) (hj : j < 17) : shP (swF pw i j) (swF h i j) (swF d i j) (swF vd i j) := by
  obtain ⟨h1, h2, h3⟩ := hP
  refine ⟨fun k hk => ?_, fun k m hk hm => ?_, fun k hk => ?_⟩
  · unfold swF fnU
    split
    · exact h1 i hi
    · split
      · exact h1 j hj
      · exact h1 k hk
  · have a1 := h2 k m hk hm
    have a2 := h2 k i hk hi
    have a3 := h2 i m hi hm
    have a4 := h2 k j hk hj
    have a5 := h2 j m hj hm
    have a6 := h2 i j hi hj
    have a7 := h2 j i hj hi
    unfold swF fnU
    repeat' split
    all_goals (intro e; first | omega | (have := a1 e; omega) | (have := a2 e; omega) | (have := a3 e; omega) | (have := a4 e; omega) | (have := a5 e; omega) | (have := a6 e; omega) | (have := a7 e; omega))
  · unfold swF fnU
    split
    · exact h3 i hi
    · split
      · exact h3 j hj
      · exact h3 k hk
/-- the desk: files in order; a place's file is the file with the number pf i; those from the count on are blank -/
def dkP (pf : Nat → Nat) (n : Nat) (ky : Nat → Nat) (c : Nat → List Nat) (ck : Nat → Nat) : Prop := (∀ i, i < 16 → pf i < 16) ∧ (∀ i j, i < 16 → j < 16 → pf i = pf j → i = j) ∧ n ≤ 16 ∧ (∀ i, i < n → ky i < 65536 ∧ ck i < 65536) ∧ ∀ i j, i < j → j < n → ky i < ky j
def dkV (G : mq_G) (M : mq_M) (La : Nat → Nat) (q : Nat) (key : Nat) (c pk : List Nat) (ck : Nat) : Prop := dfI G M (La (24 + 5 * q)) (La (25 + 5 * q)) (La (26 + 5 * q)) (La (27 + 5 * q)) (La (28 + 5 * q)) key c pk ck
def dkI (G : mq_G) (M : mq_M) (La : Nat → Nat) (pf : Nat → Nat) (n : Nat) (ky : Nat → Nat) (c pk : Nat → List Nat) (ck : Nat → Nat) : Prop :=
  M (La 6) = some (.inr (2, [.ref (La 1), .ref (La 7), .ref (La 9), .ref (La 11), .int (zI (n : Int))])) ∧
  (∃ f : Nat → Option Nat, M (La 11) = some (.inl (G.2.2.1, 16, .inr (.inr (.inr (.inr f))))) ∧ ∀ i, i < 16 → f i = some (La (24 + 5 * pf i))) ∧
  ∀ i, i < 16 → dkV G M La (pf i) (ky i) (c i) (pk i) (ck i)
theorem dkV.fr {G : mq_G} {M M' : mq_M} {La : Nat → Nat} {q key : Nat} {c pk : List Nat} {ck : Nat} {S : List Nat} (hI : mq_inj La) (hv : dkV G M La q key c pk ck) (hF : mq_FR La S M M') (hq : q < 16) (hS : ∀ r ∈ S, r < 275) (h : ∀ r, 24 + 5 * q ≤ r → r < 29 + 5 * q → r ∉ S) : dkV G M' La q key c pk ck :=
  dfI.fr hv hF (mq_ni hI (by omega) hS (h _ (by omega) (by omega))) (mq_ni hI (by omega) hS (h _ (by omega) (by omega))) (mq_ni hI (by omega) hS (h _ (by omega) (by omega))) (mq_ni hI (by omega) hS (h _ (by omega) (by omega))) (mq_ni hI (by omega) hS (h _ (by omega) (by omega)))
/-- before which file a key goes -/
def dkPl (n : Nat) (ky : Nat → Nat) (k : Nat) : Nat := ((List.range n).find? (fun i => decide (k ≤ ky i))).getD n
theorem dkPl_of {n : Nat} {ky : Nat → Nat} {k i : Nat} (h1 : i ≤ n) (h2 : ∀ j, j < i → ky j < k) (h3 : i < n → k ≤ ky i) : dkPl n ky k = i := by
  unfold dkPl
  by_cases hin : i < n
  · have e1 : (List.range n).find? (fun i => decide (k ≤ ky i)) = some i := by
      rw [List.find?_range_eq_some]
      refine ⟨by simpa using h3 hin, List.mem_range.mpr hin, fun j hj => ?_⟩
      have := h2 j hj
      simp
      omega
    rw [e1]
    rfl
  · have e1 : (List.range n).find? (fun i => decide (k ≤ ky i)) = none := by
      rw [List.find?_range_eq_none]
      intro j hj
      have := h2 j (by omega)
      simp
      omega
    rw [e1]
    show n = i
    omega
