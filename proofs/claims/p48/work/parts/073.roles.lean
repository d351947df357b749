/-! ===== the system's cells, by roles: 0 vault, 1 check, 2 its table, 3 field, 4 powers, 5 logs, 6 desk, 7 8 sheet, 9 10 the desk's stream, 11 slots, 12 shelf, 13 places, 14 numbers, 15 holders, 16 recovery, 17 18 matrix, 19 chosen, 20 reading, 21 22 its stream, 23 entries; 24 + 5 i a file of the desk; 104 + 3 j a volume; 155 + 3 k a found file ===== -/
def mq_inj (La : Nat → Nat) : Prop := ∀ i j : Nat, i < 275 → j < 275 → La i = La j → i = j
theorem mq_ni {La : Nat → Nat} (hI : mq_inj La) {r : Nat} {S : List Nat} (hr : r < 275) (hS : ∀ q ∈ S, q < 275) (h : r ∉ S) : La r ∉ S.map La := by
  intro hm
  obtain ⟨q, hq, he⟩ := List.mem_map.mp hm
  exact h (hI r q hr (hS q hq) he.symm ▸ hq)
theorem mq_ne {La : Nat → Nat} (hI : mq_inj La) {r q : Nat} (hr : r < 275) (hq : q < 275) (h : r ≠ q) : La r ≠ La q := fun e => h (hI r q hr hq e)
/-- frames by roles -/
abbrev mq_FR (La : Nat → Nat) (S : List Nat) (M M' : mq_M) : Prop := mq_F (S.map La) M M'

/-- a place (16: the blank one): the volume's number, whether it is here, its bytes, what was judged -/
def shP (pv : Nat → Nat) (h : Nat → Bool) (d : Nat → List Nat) (vd : Nat → Int) : Prop := (∀ i, i < 17 → pv i < 17) ∧ (∀ i j, i < 17 → j < 17 → pv i = pv j → i = j) ∧ ∀ i, i < 17 → vOK (h i) (d i) (vd i)
def shV (G : mq_G) (M : mq_M) (La : Nat → Nat) (q : Nat) (h : Bool) (d : List Nat) (vd : Int) : Prop := voI G M (La (104 + 3 * q)) (La 1) (La (105 + 3 * q)) (La (106 + 3 * q)) h d vd
def shI (G : mq_G) (M : mq_M) (La : Nat → Nat) (pv : Nat → Nat) (h : Nat → Bool) (d : Nat → List Nat) (vd : Nat → Int) (ld mb : Int) (nu ho : Nat → Int) : Prop :=
  M (La 12) = some (.inr (8, [.ref (La 3), .ref (La 13), .ref (La 14), .ref (La 15), .ref (La (104 + 3 * pv 16)), .int (zI ld), .int (zI mb)])) ∧
  (∃ f : Nat → Option Nat, M (La 13) = some (.inl (G.2.2.2.1, 16, .inr (.inr (.inr (.inr f))))) ∧ ∀ i, i < 16 → f i = some (La (104 + 3 * pv i))) ∧
  (∃ f : Nat → Int32, M (La 14) = some (.inl (G.2.1, 16, .inl f)) ∧ ∀ i, i < 16 → f i = zI (nu i)) ∧
  (∃ f : Nat → Int32, M (La 15) = some (.inl (G.2.1, 16, .inl f)) ∧ ∀ i, i < 16 → f i = zI (ho i)) ∧
  ∀ i, i < 17 → shV G M La (pv i) (h i) (d i) (vd i)
theorem vOK.rng {h : Bool} {d : List Nat} {vd : Int} (hv : vOK h d vd) : -5 ≤ vd ∧ vd ≤ 5 := by
  rcases hv with h1 | h1
  · omega
  · rw [h1]
    split <;> decide
/-- one step of a survey: the leader, how many are members, numbers by places, places by numbers -/
abbrev svT : Type := Int × Int × (Nat → Int) × (Nat → Int)
def svU (f : Nat → Int) (k : Nat) (v : Int) : Nat → Int := fun j => if j = k then v else f j
def svSee (d : Nat → List Nat) (i : Nat) (s : svT) : svT :=
  let ld : Int := if s.1 < 0 then (i : Int) else s.1
  if vOne (d i) (d ld.toNat) = true ∧ s.2.2.2 (mq_gd (d i) 1) < 0 then (ld, s.2.1 + 1, svU s.2.2.1 i (mq_gd (d i) 1 : Int), svU s.2.2.2 (mq_gd (d i) 1) (i : Int)) else (ld, s.2.1, s.2.2.1, s.2.2.2)
def svS (h : Nat → Bool) (d : Nat → List Nat) : Nat → svT
  | 0 => (-1, 0, fun _ => -1, fun _ => -1)
  | i + 1 => if vWhl (h i) (d i) = true then svSee d i (svS h d i) else svS h d i
section MQR
variable {p : Program} {l : Launch} {e : Env} {R : Room} {s : State} {m : MethodId} {args : Array Value} {below : List Frame} {meth : Method} {c : Code} {Q : State → Prop}
variable {nL : Nat} {D : va_G} {z : Nat} {H0 : Heap} {cells slots : Nat} {M : mq_M} {pc : Nat} {L : List (Option Value)} {st : List Value}
theorem mq_rfs {x : Nat} (k : mq_X p l e R s m args below meth c Q nL D z H0 cells slots M pc L (.ref x :: st)) : mq_X p l e R s m args below meth c Q nL D z H0 cells slots M pc L (va_rf (some x) :: st) := k
end MQR
