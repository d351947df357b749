/-! ===== the recovery ===== -/
theorem shI.fr {G : mq_G} {M M' : mq_M} {La : Nat → Nat} {pv : Nat → Nat} {h : Nat → Bool} {d : Nat → List Nat} {vd : Nat → Int} {ld mb : Int} {nu ho : Nat → Int} {S : List Nat} (hI : mq_inj La) (hS : shI G M La pv h d vd ld mb nu ho) (hP : ∀ i, i < 17 → pv i < 17) (hF : mq_FR La S M M') (hT : ∀ r ∈ S, r < 275) (h1 : ∀ r, (12 ≤ r ∧ r ≤ 15) ∨ (104 ≤ r ∧ r < 155) → r ∉ S) : shI G M' La pv h d vd ld mb nu ho := by
  obtain ⟨g1, ⟨fp, g2, g3⟩, ⟨fn, g4, g5⟩, ⟨fh, g6, g7⟩, g8⟩ := hS
  exact ⟨(hF _ (mq_ni hI (by decide) hT (h1 _ (by omega)))).trans g1, ⟨fp, (hF _ (mq_ni hI (by decide) hT (h1 _ (by omega)))).trans g2, g3⟩, ⟨fn, (hF _ (mq_ni hI (by decide) hT (h1 _ (by omega)))).trans g4, g5⟩, ⟨fh, (hF _ (mq_ni hI (by decide) hT (h1 _ (by omega)))).trans g6, g7⟩, fun i hi => (g8 i hi).fr hI hF (hP i hi) hT (h1 _ (by have := hP i hi; omega)) (h1 _ (by have := hP i hi; omega)) (h1 _ (by have := hP i hi; omega))⟩
def rcI (G : mq_G) (M : mq_M) (La : Nat → Nat) (mt : List Nat) (cho : Nat → Nat) : Prop := M (La 16) = some (.inr (7, [.ref (La 3), .ref (La 17), .ref (La 19)])) ∧ bI G M (La 17) (La 18) 200 mt ∧ ∃ f : Nat → Int32, M (La 19) = some (.inl (G.2.1, 10, .inl f)) ∧ ∀ i, i < 10 → f i = zI (cho i : Int)
theorem rcI.fr {G : mq_G} {M M' : mq_M} {La : Nat → Nat} {mt : List Nat} {cho : Nat → Nat} {S : List Nat} (hI : mq_inj La) (hS : rcI G M La mt cho) (hF : mq_FR La S M M') (hT : ∀ r ∈ S, r < 275) (h1 : 16 ∉ S) (h2 : 17 ∉ S) (h3 : 18 ∉ S) (h4 : 19 ∉ S) : rcI G M' La mt cho := by
  obtain ⟨g1, g2, f, g3, g4⟩ := hS
  exact ⟨(hF _ (mq_ni hI (by decide) hT h1)).trans g1, g2.fr hF (mq_ni hI (by decide) hT h2) (mq_ni hI (by decide) hT h3), f, (hF _ (mq_ni hI (by decide) hT h4)).trans g3, g4⟩
theorem rcI.mt {G : mq_G} {M M' : mq_M} {La : Nat → Nat} {mt mt2 : List Nat} {cho : Nat → Nat} (hI : mq_inj La) (hS : rcI G M La mt cho) (hF : mq_FR La [17, 18] M M') (hB : bI G M' (La 17) (La 18) 200 mt2) : rcI G M' La mt2 cho := by
  obtain ⟨g1, g2, f, g3, g4⟩ := hS
  have hT : ∀ r ∈ [17, 18], r < 275 := by decide
  exact ⟨(hF _ (mq_ni hI (by decide) hT (by decide))).trans g1, hB, f, (hF _ (mq_ni hI (by decide) hT (by decide))).trans g3, g4⟩
/-- how many of the first data volumes are missing -/
def msC (ho : Nat → Int) : Nat → Nat
  | 0 => 0
  | i + 1 => msC ho i + (if ho i < 0 then 1 else 0)
theorem msC_le (ho : Nat → Int) : ∀ i, msC ho i ≤ i
  | 0 => Nat.le_refl _
  | i + 1 => by
    have := msC_le ho i
    unfold msC
    split <;> omega
theorem msC_mono (ho : Nat → Int) {i : Nat} : ∀ j, i ≤ j → msC ho i ≤ msC ho j
  | 0, h => by rw [show i = 0 by omega]; exact Nat.le_refl _
  | j + 1, h => by
    by_cases hij : i = j + 1
    · rw [hij]; exact Nat.le_refl _
    · have := msC_mono ho (i := i) j (by omega)
      show _ ≤ msC ho j + _
      omega
/-- the stream out of the data volumes that are there -/
def rcS (d : Nat → List Nat) (ho : Nat → Int) (bd : Nat) : Nat → List Nat
  | 0 => []
  | i + 1 => rcS d ho bd i ++ mq_part (d (ho i).toNat) 10 bd
theorem rcS_len (d : Nat → List Nat) (ho : Nat → Int) (bd : Nat) : ∀ i, (rcS d ho bd i).length = i * bd
  | 0 => by simp [rcS]
  | i + 1 => by
    unfold rcS
    rw [List.length_append, rcS_len d ho bd i, mq_part_len, Nat.succ_mul]
