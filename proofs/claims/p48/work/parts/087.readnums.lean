/-! ===== the reading, as functions of the stream ===== -/
def rdTail (S : List Nat) : Int := (S.length : Int) - 6
def rdEnd (S : List Nat) (pl : Int) : Int := pl + 8 + (mq_wd S (pl + 4) : Int)
def rdLies (S : List Nat) (pl : Int) : Bool := decide (0 ≤ pl ∧ pl + 8 ≤ (S.length : Int) ∧ mq_gd S pl = 69 ∧ mq_gd S (pl + 1) ≤ 1 ∧ rdEnd S pl ≤ (S.length : Int))
def rdIx (S : List Nat) : Bool := decide (0 ≤ rdTail S ∧ mq_gd S (rdTail S) = 88 ∧ (mq_wd S (rdTail S + 2) : Int) + 6 * (mq_gd S (rdTail S + 1) : Int) = rdTail S ∧ crF 65535 (mq_part S (mq_wd S (rdTail S + 2) : Int) (rdTail S - (mq_wd S (rdTail S + 2) : Int)).toNat) = mq_wd S (rdTail S + 4))
def rdLk (S : List Nat) : Nat → Int
  | 0 => 0
  | i + 1 => rdEnd S (rdLk S i)
def rdLkN (S : List Nat) : Nat := ((List.range 40).find? (fun i => !rdLies S (rdLk S i))).getD 40
def rdN (S : List Nat) : Nat := if rdIx S = true then min (mq_gd S (rdTail S + 1)) 40 else rdLkN S
def rdK (S : List Nat) (k : Nat) : Int := if rdIx S = true then (mq_wd S ((mq_wd S (rdTail S + 2) : Int) + (k : Int) * 6) : Int) else (mq_wd S (rdLk S k + 2) : Int)
def rdP (S : List Nat) (k : Nat) : Int := if rdIx S = true then (mq_wd S ((mq_wd S (rdTail S + 2) : Int) + (k : Int) * 6 + 2) : Int) else rdLk S k
def rdT (S : List Nat) (k : Nat) : Int := if rdIx S = true then (mq_wd S ((mq_wd S (rdTail S + 2) : Int) + (k : Int) * 6 + 4) : Int) else -1
/-- the content of a record at pl, if it can be had -/
def rdC (S : List Nat) (pl : Int) : Option (List Nat) := if mq_gd S (pl + 1) = 1 then upk S (rdEnd S pl) (rdEnd S pl - (pl + 8)).toNat (pl + 8) [] else if 240 < rdEnd S pl - (pl + 8) then none else some (mq_part S (pl + 8) (rdEnd S pl - (pl + 8)).toNat)
def rdW (S : List Nat) (key pl tl : Int) : Option (List Nat) := if rdLies S pl = true ∧ (mq_wd S (pl + 2) : Int) = key then (rdC S pl).bind (fun c => if (tl < 0 ∨ (c.length : Int) = tl) ∧ crF 65535 c = mq_wd S (pl + 6) then some c else none) else none
def rdG (S : List Nat) (k : Nat) : Option (List Nat) := rdW S (rdK S k) (rdP S k) (rdT S k)
theorem rdLkN_of {S : List Nat} {i : Nat} (h1 : i ≤ 40) (h2 : ∀ j, j < i → rdLies S (rdLk S j) = true) (h3 : i < 40 → rdLies S (rdLk S i) = false) : rdLkN S = i := by
  unfold rdLkN
  by_cases hi : i < 40
  · have e1 : (List.range 40).find? (fun i => !rdLies S (rdLk S i)) = some i := by
      rw [List.find?_range_eq_some]
      exact ⟨by rw [h3 hi]; rfl, List.mem_range.mpr hi, fun j hj => by rw [h2 j hj]; rfl⟩
    rw [e1]
    rfl
  · have e1 : (List.range 40).find? (fun i => !rdLies S (rdLk S i)) = none := by
      rw [List.find?_range_eq_none]
      intro j hj
      rw [h2 j (by omega)]
      rfl
    rw [e1]
    show 40 = i
    omega
theorem rdEnd_rng {S : List Nat} (hS : ∀ x ∈ S, x < 256) (pl : Int) : pl + 8 ≤ rdEnd S pl ∧ rdEnd S pl < pl + 8 + 65536 := by
  have := mq_wd_lt hS (pl + 4)
  unfold rdEnd
  omega
def ffV (G : mq_G) (M : mq_M) (La : Nat → Nat) (k : Nat) (c : List Nat) (key pl tl : Int) (gd : Bool) : Prop := ffI G M (La (155 + 3 * k)) (La (156 + 3 * k)) (La (157 + 3 * k)) c key pl tl gd
theorem ffV.fr {G : mq_G} {M M' : mq_M} {La : Nat → Nat} {k : Nat} {c : List Nat} {key pl tl : Int} {gd : Bool} {S : List Nat} (hI : mq_inj La) (hv : ffV G M La k c key pl tl gd) (hF : mq_FR La S M M') (hk : k < 40) (hS : ∀ r ∈ S, r < 275) (h : ∀ r, 155 + 3 * k ≤ r → r < 158 + 3 * k → r ∉ S) : ffV G M' La k c key pl tl gd :=
  ffI.fr hv hF (mq_ni hI (by omega) hS (h _ (by omega) (by omega))) (mq_ni hI (by omega) hS (h _ (by omega) (by omega))) (mq_ni hI (by omega) hS (h _ (by omega) (by omega)))
/-- the Reading: open or not, data, parity, indexed, how many files, the stream, the files -/
def rdI (G : mq_G) (M : mq_M) (La : Nat → Nat) (op : Bool) (da pa : Int) (ix : Bool) (n : Nat) (S : List Nat) (fc : Nat → List Nat) (fk fp ft : Nat → Int) (fg : Nat → Bool) : Prop :=
  M (La 20) = some (.inr (6, [.ref (La 1), .ref (La 21), .ref (La 23), .int (zI (mq_b op)), .int (zI da), .int (zI pa), .int (zI (mq_b ix)), .int (zI (n : Int))])) ∧
  bI G M (La 21) (La 22) 40700 S ∧
  (∃ f : Nat → Option Nat, M (La 23) = some (.inl (G.2.2.2.2, 40, .inr (.inr (.inr (.inr f))))) ∧ ∀ k, k < 40 → f k = some (La (155 + 3 * k))) ∧
  ∀ k, k < 40 → ffV G M La k (fc k) (fk k) (fp k) (ft k) (fg k)
def rdR (fk fp ft : Nat → Int) : Prop := ∀ k, k < 40 → (-10 ≤ fk k ∧ fk k < 1000000) ∧ (-10 ≤ fp k ∧ fp k < 1000000) ∧ (-10 ≤ ft k ∧ ft k < 1000000)
def mq_TR : List Nat := 20 :: (List.range 120).map (fun i => 155 + i)
theorem mq_TRm {r : Nat} : r ∈ mq_TR ↔ r = 20 ∨ (155 ≤ r ∧ r < 275) := by
  unfold mq_TR
  rw [List.mem_cons, List.mem_map]
  constructor
  · rintro (h | ⟨x, hx, h⟩)
    · omega
    · have := List.mem_range.mp hx
      omega
  · rintro (h | ⟨h1, h2⟩)
    · exact Or.inl h
    · exact Or.inr ⟨r - 155, List.mem_range.mpr (by omega), by omega⟩
theorem mq_TRl : ∀ q ∈ mq_TR, q < 275 := fun q h => by have := mq_TRm.mp h; omega
