/-! ===== the shelf's writes: frames by roles ===== -/
theorem shV.fr {G : mq_G} {M M' : mq_M} {La : Nat → Nat} {q : Nat} {h : Bool} {d : List Nat} {vd : Int} {S : List Nat} (hI : mq_inj La) (hv : shV G M La q h d vd) (hF : mq_FR La S M M') (hq : q < 17) (hS : ∀ r ∈ S, r < 275) (h1 : 104 + 3 * q ∉ S) (h2 : 105 + 3 * q ∉ S) (h3 : 106 + 3 * q ∉ S) : shV G M' La q h d vd :=
  voI.fr hv hF (mq_ni hI (by omega) hS h1) (mq_ni hI (by omega) hS h2) (mq_ni hI (by omega) hS h3)
theorem mq_vnd {La : Nat → Nat} (hI : mq_inj La) {q : Nat} (hq : q < 17) : [La (104 + 3 * q), La (105 + 3 * q), La (106 + 3 * q)].Nodup := by
  have a1 := mq_ne hI (r := 104 + 3 * q) (q := 105 + 3 * q) (by omega) (by omega) (by omega)
  have a2 := mq_ne hI (r := 104 + 3 * q) (q := 106 + 3 * q) (by omega) (by omega) (by omega)
  have a3 := mq_ne hI (r := 105 + 3 * q) (q := 106 + 3 * q) (by omega) (by omega) (by omega)
  simp [a1, a2, a3]
/-- what stands at a place behind a filling -/
def fwH (dn pn : Nat) (i : Nat) : Bool := decide (i < dn + pn)
def fwD (S : List Nat) (dn pn : Nat) (i : Nat) : List Nat := if i < dn + pn then vFm S i dn pn else []
/-- how many of the first places are other than before -/
def fwC (h : Nat → Bool) (d : Nat → List Nat) (S : List Nat) (dn pn : Nat) : Nat → Nat
  | 0 => 0
  | i + 1 => fwC h d S dn pn i + (if h i = fwH dn pn i ∧ d i = fwD S dn pn i then 0 else 1)
theorem fwC_le (h : Nat → Bool) (d : Nat → List Nat) (S : List Nat) (dn pn : Nat) : ∀ i, fwC h d S dn pn i ≤ i
  | 0 => Nat.le_refl _
  | i + 1 => by
    have := fwC_le h d S dn pn i
    unfold fwC
    split <;> omega
def fnU {α : Type} (f : Nat → α) (k : Nat) (v : α) : Nat → α := fun j => if j = k then v else f j
theorem fnU_s {α : Type} {f : Nat → α} {k : Nat} {v : α} : fnU f k v k = v := by simp [fnU]
theorem fnU_n {α : Type} {f : Nat → α} {k j : Nat} {v : α} (h : j ≠ k) : fnU f k v j = f j := by simp [fnU, h]
theorem shP_sw {pw : Nat → Nat} {h : Nat → Bool} {d : Nat → List Nat} {vd : Nat → Int} {i : Nat} {nh : Bool} {nd : List Nat} {nv : Int} (hP : shP pw h d vd) (hi : i < 16) (hv : vOK nh nd nv) : shP (fnU (fnU pw 16 (pw i)) i (pw 16)) (fnU (fnU h 16 (h i)) i nh) (fnU (fnU d 16 (d i)) i nd) (fnU (fnU vd 16 (vd i)) i nv) := by
  obtain ⟨h1, h2, h3⟩ := hP
  refine ⟨fun j hj => ?_, fun j k hj hk => ?_, fun j hj => ?_⟩
  · unfold fnU
    split
    · exact h1 16 (by decide)
    · split
      · exact h1 i (by omega)
      · exact h1 j hj
  · have a1 := h2 j k hj hk
    have a2 := h2 j i hj (by omega)
    have a3 := h2 i k (by omega) hk
    have a4 := h2 j 16 hj (by decide)
    have a5 := h2 16 k (by decide) hk
    have a6 := h2 i 16 (by omega) (by decide)
    have a7 := h2 16 i (by decide) (by omega)
    unfold fnU
    repeat' split
    all_goals (intro e; first | omega | (have := a1 e; omega) | (have := a2 e; omega) | (have := a3 e; omega) | (have := a4 e; omega) | (have := a5 e; omega) | (have := a6 e; omega) | (have := a7 e; omega))
  · unfold fnU
    split
    · exact hv
    · split
      · exact h3 i (by omega)
      · exact h3 j hj
def mq_TT : List Nat := 12 :: 13 :: (List.range 51).map (fun i => 104 + i)
theorem mq_TTm {r : Nat} : r ∈ mq_TT ↔ r = 12 ∨ r = 13 ∨ (104 ≤ r ∧ r < 155) := by
  unfold mq_TT
  rw [List.mem_cons, List.mem_cons, List.mem_map]
  constructor
  · rintro (h | h | ⟨x, hx, h⟩)
    · exact Or.inl h
    · exact Or.inr (Or.inl h)
    · have := List.mem_range.mp hx
      exact Or.inr (Or.inr ⟨by omega, by omega⟩)
  · rintro (h | h | ⟨h1, h2⟩)
    · exact Or.inl h
    · exact Or.inr (Or.inl h)
    · exact Or.inr (Or.inr ⟨r - 104, List.mem_range.mpr (by omega), by omega⟩)
theorem mq_TTl : ∀ q ∈ mq_TT, q < 275 := fun q h => by have := mq_TTm.mp h; omega
