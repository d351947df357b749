/-! ===== open ===== -/
/-- what stands of the files of an opened stream -/
def rdOK (S : List Nat) (fc : Nat → List Nat) (fk fp ft : Nat → Int) (fg : Nat → Bool) : Prop := ∀ k, k < rdN S → fk k = rdK S k ∧ fp k = rdP S k ∧ ft k = rdT S k ∧ fg k = (rdG S k).isSome ∧ ∀ c, rdG S k = some c → fc k = c
theorem rdN_le (S : List Nat) : rdN S ≤ 40 := by
  unfold rdN
  split
  · omega
  · unfold rdLkN
    cases hf : (List.range 40).find? (fun i => !rdLies S (rdLk S i)) with
    | none => exact Nat.le_refl _
    | some v =>
      have := List.mem_range.mp (List.mem_of_find?_eq_some hf)
      show v ≤ 40
      omega
theorem rdI.st {G : mq_G} {M M' : mq_M} {La : Nat → Nat} {op : Bool} {da pa : Int} {ix : Bool} {n : Nat} {S S2 : List Nat} {fc : Nat → List Nat} {fk fp ft : Nat → Int} {fg : Nat → Bool} {T : List Nat} (hI : mq_inj La) (hS : rdI G M La op da pa ix n S fc fk fp ft fg) (hF : mq_FR La T M M') (hT : ∀ r ∈ T, r < 275) (h1 : ∀ r, r = 20 ∨ r = 23 ∨ (155 ≤ r ∧ r < 275) → r ∉ T) (hB : bI G M' (La 21) (La 22) 40700 S2) : rdI G M' La op da pa ix n S2 fc fk fp ft fg := by
  obtain ⟨g1, g2, ⟨f, g3, g4⟩, g5⟩ := hS
  exact ⟨(hF _ (mq_ni hI (by decide) hT (h1 _ (by omega)))).trans g1, hB, ⟨f, (hF _ (mq_ni hI (by decide) hT (h1 _ (by omega)))).trans g3, g4⟩, fun k hk => (g5 k hk).fr hI hF hk hT (fun r h2 h3 => h1 _ (by omega))⟩
