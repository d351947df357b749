theorem rdI.ff {G : mq_G} {M M2 : mq_M} {La : Nat → Nat} (hI : mq_inj La) {op : Bool} {da pa : Int} {ix : Bool} {n : Nat} {S : List Nat} {fc : Nat → List Nat} {fk fp ft : Nat → Int} {fg : Nat → Bool} (hS : rdI G M La op da pa ix n S fc fk fp ft fg) {k : Nat} (hk : k < 40) (hF : mq_FR La [155 + 3 * k, 156 + 3 * k, 157 + 3 * k] M M2) {c : List Nat} {key pl tl : Int} {g : Bool} (hV : ffV G M2 La k c key pl tl g) : rdI G M2 La op da pa ix n S (fnU fc k c) (fnU fk k key) (fnU fp k pl) (fnU ft k tl) (fnU fg k g) := by
  obtain ⟨g1, g2, ⟨ff, g3, g4⟩, g5⟩ := hS
  have hT : ∀ r ∈ [155 + 3 * k, 156 + 3 * k, 157 + 3 * k], r < 275 := by intro r hr; simp at hr; omega
  refine ⟨(hF _ (mq_ni hI (by decide) hT (by simp; omega))).trans g1, g2.fr hF (mq_ni hI (by decide) hT (by simp; omega)) (mq_ni hI (by decide) hT (by simp; omega)), ⟨ff, (hF _ (mq_ni hI (by decide) hT (by simp; omega))).trans g3, g4⟩, fun j hj => ?_⟩
  by_cases hjk : j = k
  · subst hjk
    rw [fnU_s, fnU_s, fnU_s, fnU_s, fnU_s]
    exact hV
  · rw [fnU_n hjk, fnU_n hjk, fnU_n hjk, fnU_n hjk, fnU_n hjk]
    exact (g5 j hj).fr hI hF hj hT (fun r h1 h2 => by simp; omega)
theorem rdI.hd {G : mq_G} {M M2 : mq_M} {La : Nat → Nat} (hI : mq_inj La) {op : Bool} {da pa : Int} {ix : Bool} {n : Nat} {S : List Nat} {fc : Nat → List Nat} {fk fp ft : Nat → Int} {fg : Nat → Bool} (hS : rdI G M La op da pa ix n S fc fk fp ft fg) (hF : mq_FR La [20] M M2) {op2 : Bool} {da2 pa2 : Int} {ix2 : Bool} {n2 : Nat}
    (h1 : M2 (La 20) = some (.inr (6, [.ref (La 1), .ref (La 21), .ref (La 23), .int (zI (mq_b op2)), .int (zI da2), .int (zI pa2), .int (zI (mq_b ix2)), .int (zI (n2 : Int))]))) : rdI G M2 La op2 da2 pa2 ix2 n2 S fc fk fp ft fg := by
  obtain ⟨g1, g2, ⟨ff, g3, g4⟩, g5⟩ := hS
  have hT : ∀ r ∈ [20], r < 275 := by decide
  exact ⟨h1, g2.fr hF (mq_ni hI (by decide) hT (by decide)) (mq_ni hI (by decide) hT (by decide)), ⟨ff, (hF _ (mq_ni hI (by decide) hT (by decide))).trans g3, g4⟩, fun j hj => (g5 j hj).fr hI hF hj hT (fun r h1 h2 => by simp; omega)⟩
theorem rdR.up {fk fp ft : Nat → Int} (h : rdR fk fp ft) {k : Nat} {a b c : Int} (ha : -10 ≤ a ∧ a < 1000000) (hb : -10 ≤ b ∧ b < 1000000) (hc : -10 ≤ c ∧ c < 1000000) : rdR (fnU fk k a) (fnU fp k b) (fnU ft k c) := by
  intro j hj
  unfold fnU
  split
  · exact ⟨ha, hb, hc⟩
  · exact h j hj
theorem rdLk_rng {S : List Nat} (hS : ∀ x ∈ S, x < 256) : ∀ i, (∀ j, j < i → rdLies S (rdLk S j) = true) → 0 ≤ rdLk S i ∧ rdLk S i ≤ (S.length : Int)
  | 0, _ => ⟨Int.le_refl _, Int.natCast_nonneg _⟩
  | i + 1, h => by
    have h1 := rdLk_rng hS i (fun j hj => h j (by omega))
    have h2 := of_decide_eq_true (h i (by omega))
    have h3 := rdEnd_rng hS (rdLk S i)
    obtain ⟨q0, q1, q2, q3, q4⟩ := h2
    show 0 ≤ rdEnd S (rdLk S i) ∧ _
    exact ⟨by omega, q4⟩
