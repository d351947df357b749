theorem dkPl_le (n : Nat) (ky : Nat → Nat) (k : Nat) : dkPl n ky k ≤ n := by
  unfold dkPl
  cases h : (List.range n).find? (fun i => decide (k ≤ ky i)) with
  | none => exact Nat.le_refl _
  | some i =>
    have := List.mem_range.mp (List.mem_of_find?_eq_some h)
    show i ≤ n
    omega
def dkOf (n : Nat) (ky : Nat → Nat) (k : Nat) : Int := if dkPl n ky k < n ∧ ky (dkPl n ky k) = k then (dkPl n ky k : Int) else -1
theorem dkOf_rng (n : Nat) (ky : Nat → Nat) (k : Nat) : -1 ≤ dkOf n ky k ∧ dkOf n ky k ≤ (n : Int) := by
  unfold dkOf
  split
  · omega
  · omega
/-- how long the stream of the first files is, with their index and the tail -/
def dkSz (c pk : Nat → List Nat) : Nat → Nat
  | 0 => 6
  | i + 1 => dkSz c pk i + (8 + (dfB (c i) (pk i)).length + 6)
theorem dkSz_s (c pk : Nat → List Nat) (i : Nat) : dkSz c pk (i + 1) = dkSz c pk i + (8 + (dfB (c i) (pk i)).length + 6) := rfl
theorem dkSz_le {c pk : Nat → List Nat} (h : ∀ j, j < 16 → (c j).length ≤ 240) : ∀ i, i ≤ 16 → dkSz c pk i ≤ 6 + 254 * i
  | 0, _ => by show 6 ≤ _; omega
  | i + 1, hi => by
    have h1 := dkSz_le (pk := pk) h i (by omega)
    have h2 := dfB_len (c i) (pk i)
    have h3 := h i (by omega)
    rw [dkSz_s]
    omega
/-- the bytes of the first files together -/
def dkCs (c : Nat → List Nat) : Nat → Nat
  | 0 => 0
  | i + 1 => dkCs c i + (c i).length
theorem dkCs_s (c : Nat → List Nat) (i : Nat) : dkCs c (i + 1) = dkCs c i + (c i).length := rfl
theorem dkCs_le {c : Nat → List Nat} (h : ∀ j, j < 16 → (c j).length ≤ 240) : ∀ i, i ≤ 16 → dkCs c i ≤ 240 * i
  | 0, _ => Nat.le_refl _
  | i + 1, hi => by
    have h1 := dkCs_le h i (by omega)
    have h3 := h i (by omega)
    rw [dkCs_s]
    omega
