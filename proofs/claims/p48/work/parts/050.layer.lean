/-! ===== the layer: numbers, a memory as a function, one judgement X over W, a row an instruction ===== -/
def zI (k : Int) : Int32 := Int32.ofInt k
theorem zI_add (a b : Int) : zI a + zI b = zI (a + b) := (Int32.ofInt_add a b).symm
theorem zI_sub (a b : Int) : zI a - zI b = zI (a - b) := (Int32.ofInt_sub a b).symm
theorem zI_mul (a b : Int) : zI a * zI b = zI (a * b) := (Int32.ofInt_mul a b).symm
theorem zI_toInt {a : Int} (h : -2147483648 ≤ a ∧ a < 2147483648) : (zI a).toInt = a := Int32.toInt_ofInt_of_le h.1 h.2
theorem zI_lt {a b : Int} (ha : -2147483648 ≤ a ∧ a < 2147483648) (hb : -2147483648 ≤ b ∧ b < 2147483648) : zI a < zI b ↔ a < b := by
  rw [Int32.lt_iff_toInt_lt, zI_toInt ha, zI_toInt hb]
theorem zI_le {a b : Int} (ha : -2147483648 ≤ a ∧ a < 2147483648) (hb : -2147483648 ≤ b ∧ b < 2147483648) : zI a ≤ zI b ↔ a ≤ b := by
  rw [Int32.le_iff_toInt_le, zI_toInt ha, zI_toInt hb]
theorem zI_eq {a b : Int} (ha : -2147483648 ≤ a ∧ a < 2147483648) (hb : -2147483648 ≤ b ∧ b < 2147483648) : zI a = zI b ↔ a = b := by
  rw [← Int32.toInt_inj, zI_toInt ha, zI_toInt hb]
theorem zI_0 : zI 0 = 0 := by decide +kernel
theorem zI_nat (n : Nat) : zI (n : Int) = nI n := rfl
theorem zI_of (x : Int32) : ∃ k : Int, x = zI k ∧ -2147483648 ≤ k ∧ k < 2147483648 :=
  ⟨x.toInt, (Int32.ofInt_toInt x).symm, x.le_toInt, x.toInt_lt⟩
theorem zI_clamp {k : Int} (h : 0 ≤ k ∧ k < 2147483648) : (zI k).toNatClampNeg = k.toNat := by
  show (zI k).toInt.toNat = _
  rw [zI_toInt ⟨by omega, h.2⟩]
theorem zI_in {k : Int} {n : Nat} (h0 : 0 ≤ k) (h1 : k < n) (hn : n < 2147483648) : vp_in (zI k) n := by
  rw [vp_in_iff, zI_toInt ⟨by omega, by omega⟩]
  exact ⟨h0, h1⟩
theorem zI_ne0 {b : Int} (hb : 0 < b ∧ b < 2147483648) : ¬ zI b = 0 := by
  rw [← zI_0, zI_eq ⟨by omega, by omega⟩ (by decide)]
  omega
theorem zI_div {a b : Int} (ha : 0 ≤ a ∧ a < 2147483648) (hb : 0 < b ∧ b < 2147483648) : zI a / zI b = zI (a / b) := by
  obtain ⟨x, rfl⟩ := Int.eq_ofNat_of_zero_le ha.1
  obtain ⟨y, rfl⟩ := Int.eq_ofNat_of_zero_le (Int.le_of_lt hb.1)
  exact pk_div (by omega) (by omega) (by omega)
theorem zI_rem {a b : Int} (ha : 0 ≤ a ∧ a < 2147483648) (hb : 0 < b ∧ b < 2147483648) : zI a - zI a / zI b * zI b = zI (a % b) := by
  obtain ⟨x, rfl⟩ := Int.eq_ofNat_of_zero_le ha.1
  obtain ⟨y, rfl⟩ := Int.eq_ofNat_of_zero_le (Int.le_of_lt hb.1)
  exact pk_rem (by omega) (by omega) (by omega)
/-- a memory: what stands at an address -/
abbrev mq_M : Type := Nat → Option va_E
def mq_up (M : mq_M) (a : Nat) (e : va_E) : mq_M := fun b => if b = a then some e else M b
theorem mq_up_s {M : mq_M} {a : Nat} {e : va_E} : mq_up M a e a = some e := by simp [mq_up]
theorem mq_up_n {M : mq_M} {a b : Nat} {e : va_E} (h : b ≠ a) : mq_up M a e b = M b := by simp [mq_up, h]
/-- the list of cells ws is the memory M -/
def mq_I (M : mq_M) (ws : va_W) : Prop := ∀ (a : Nat) (e : va_E), M a = some e ↔ (a, e) ∈ ws
/-- the heap holds M, all of it at or above z -/
def mq_H (D : va_G) (z : Nat) (M : mq_M) (H : Heap) : Prop := ∃ ws : va_W, va_P D vwCl ws H ∧ va_D (fun q => z ≤ q) ws ∧ mq_I M ws
theorem mq_I.at {M : mq_M} {ws : va_W} {a : Nat} {e : va_E} (h : mq_I M ws) (hM : M a = some e) : ∃ q : Nat, ws[q]? = some (a, e) := List.getElem?_of_mem ((h a e).mp hM)
theorem mq_I.set {M : mq_M} {ws : va_W} {A : Nat → Prop} {q a : Nat} {e0 e : va_E} (h : mq_I M ws) (hD : va_D A ws) (hq : ws[q]? = some (a, e0)) : mq_I (mq_up M a e) (ws.set q (a, e)) := by
  have hl := (List.getElem?_eq_some_iff.mp hq).1
  intro b x
  by_cases hb : b = a
  · subst hb
    rw [mq_up_s]
    constructor
    · intro hx
      cases hx
      exact List.mem_of_getElem? (i := q) (by rw [List.getElem?_set_self hl])
    · intro hx
      obtain ⟨i, hi⟩ := List.getElem?_of_mem hx
      by_cases hiq : i = q
      · subst hiq
        rw [List.getElem?_set_self hl] at hi
        cases hi
        rfl
      · rw [List.getElem?_set_ne (Ne.symm hiq)] at hi
        exact absurd (hD.1 i q _ _ hi hq rfl) hiq
  · rw [mq_up_n hb, h b x]
    constructor
    · intro hx
      obtain ⟨i, hi⟩ := List.getElem?_of_mem hx
      have hiq : i ≠ q := fun z => by
        subst z
        rw [hq] at hi
        cases hi
        exact hb rfl
      exact List.mem_of_getElem? (i := i) (by rw [List.getElem?_set_ne (Ne.symm hiq)]; exact hi)
    · intro hx
      obtain ⟨i, hi⟩ := List.getElem?_of_mem hx
      by_cases hiq : i = q
      · subst hiq
        rw [List.getElem?_set_self hl] at hi
        cases hi
        exact absurd rfl hb
      · rw [List.getElem?_set_ne (Ne.symm hiq)] at hi
        exact List.mem_of_getElem? hi
theorem mq_I.push {M : mq_M} {ws : va_W} {A : Nat → Prop} {a : Nat} {e : va_E} (h : mq_I M ws) (hD : va_D A (ws ++ [(a, e)])) : M a = none ∧ mq_I (mq_up M a e) (ws ++ [(a, e)]) := by
  have hn : M a = none := by
    cases hx : M a with
    | none => rfl
    | some x =>
      obtain ⟨i, hi⟩ := h.at hx
      have hl := (List.getElem?_eq_some_iff.mp hi).1
      have h1 : (ws ++ [(a, e)])[i]? = some (a, x) := by rw [List.getElem?_append_left hl]; exact hi
      have h2 : (ws ++ [(a, e)])[ws.length]? = some (a, e) := by simp
      have := hD.1 i ws.length _ _ h1 h2 rfl
      omega
  refine ⟨hn, fun b x => ?_⟩
  by_cases hb : b = a
  · subst hb
    rw [mq_up_s]
    constructor
    · intro hx
      cases hx
      exact List.mem_append_right _ List.mem_cons_self
    · intro hx
      rcases List.mem_append.mp hx with h1 | h1
      · rw [(h b x).mpr h1] at hn
        cases hn
      · cases List.mem_singleton.mp h1
        rfl
  · rw [mq_up_n hb, h b x]
    constructor
    · exact fun hx => List.mem_append_left _ hx
    · intro hx
      rcases List.mem_append.mp hx with h1 | h1
      · exact h1
      · cases List.mem_singleton.mp h1
        exact absurd rfl hb
/-- locals, by place; none: nothing is known -/
def mq_L (la : Array Slot) (nL : Nat) (L : List (Option Value)) : Prop := la.size = nL ∧ lv_wf la ∧ L.length = nL ∧ ∀ (i : Nat) (v : Value), L[i]? = some (some v) → la[i]? = some (.val v)
def mq_prs (L : List (Option Value)) : List (Nat × Value) := (List.range L.length).filterMap (fun i => match L[i]? with | some (some v) => some (i, v) | _ => none)
theorem mq_prs_mem {L : List (Option Value)} {i : Nat} {v : Value} : (i, v) ∈ mq_prs L ↔ L[i]? = some (some v) := by
  unfold mq_prs
  rw [List.mem_filterMap]
  constructor
  · rintro ⟨j, -, h2⟩
    split at h2
    · rename_i w hw
      cases h2
      exact hw
    · cases h2
  · intro h
    refine ⟨i, List.mem_range.mpr (List.getElem?_eq_some_iff.mp h).1, ?_⟩
    rw [h]
theorem mq_L.has {la : Array Slot} {nL : Nat} {L : List (Option Value)} (h : mq_L la nL L) : lv_has la nL (mq_prs L) := ⟨h.1, h.2.1, fun q hq => h.2.2.2 q.1 q.2 (mq_prs_mem.mp hq)⟩
/-- no long or double stands just ahead of place i -/
def mq_no2 (L : List (Option Value)) : Nat → Bool
  | 0 => true
  | j + 1 => match L[j]? with
    | some (some v) => v.category == 1
    | _ => true
theorem mq_L.set1 {la la' : Array Slot} {nL : Nat} {L : List (Option Value)} {i : Nat} {v : Value} (h : mq_L la nL L) (hi : i < nL) (h2 : mq_no2 L i = true)
    (h' : lv_has la' nL ((i, v) :: (mq_prs L).filter (fun q => !(q.1 == i) && !(q.1 + 1 == i && q.2.category == 2)))) : mq_L la' nL (L.set i (some v)) := by
  refine ⟨h'.1, h'.2.1, by rw [List.length_set]; exact h.2.2.1, fun j w hj => ?_⟩
  by_cases hji : j = i
  · subst hji
    rw [List.getElem?_set_self (by rw [h.2.2.1]; exact hi)] at hj
    cases hj
    exact h'.2.2 (j, v) List.mem_cons_self
  · rw [List.getElem?_set_ne (Ne.symm hji)] at hj
    refine h'.2.2 (j, w) (List.mem_cons_of_mem _ (List.mem_filter.mpr ⟨mq_prs_mem.mpr hj, ?_⟩))
    have h3 : (j + 1 == i && w.category == 2) = false := by
      by_cases hk : j + 1 = i
      · subst hk
        have h4 : w.category = 1 := by simpa [mq_no2, hj] using h2
        simp [h4]
      · simp [hk]
    simp [hji, h3]
theorem mq_L.set2 {la la' : Array Slot} {nL : Nat} {L : List (Option Value)} {i : Nat} {v : Value} (h : mq_L la nL L) (hi : i + 1 < nL) (h2 : mq_no2 L i = true)
    (h' : lv_has la' nL ((i, v) :: (mq_prs L).filter (fun q => !(q.1 == i) && (!(q.1 == i + 1) && !(q.1 + 1 == i && q.2.category == 2))))) : mq_L la' nL ((L.set i (some v)).set (i + 1) none) := by
  refine ⟨h'.1, h'.2.1, by rw [List.length_set, List.length_set]; exact h.2.2.1, fun j w hj => ?_⟩
  by_cases hj1 : j = i + 1
  · subst hj1
    rw [List.getElem?_set_self (by rw [List.length_set, h.2.2.1]; exact hi)] at hj
    cases hj
  rw [List.getElem?_set_ne (Ne.symm hj1)] at hj
  by_cases hji : j = i
  · subst hji
    rw [List.getElem?_set_self (by rw [h.2.2.1]; omega)] at hj
    cases hj
    exact h'.2.2 (j, v) List.mem_cons_self
  · rw [List.getElem?_set_ne (Ne.symm hji)] at hj
    refine h'.2.2 (j, w) (List.mem_cons_of_mem _ (List.mem_filter.mpr ⟨mq_prs_mem.mpr hj, ?_⟩))
    have h3 : (j + 1 == i && w.category == 2) = false := by
      by_cases hk : j + 1 = i
      · subst hk
        have h4 : w.category = 1 := by simpa [mq_no2, hj] using h2
        simp [h4]
      · simp [hk]
    simp [hji, hj1, h3]
/-- the locals of a method at its entry -/
def mq_of (n : Nat) (l : List (Nat × Value)) : List (Option Value) := (List.range n).map (fun i => (l.find? (fun q => q.1 == i)).map (fun q => q.2))
theorem mq_L.entry {la : Array Slot} {n : Nat} {l : List (Nat × Value)} (h : lv_has la n l) : mq_L la n (mq_of n l) := by
  refine ⟨h.1, h.2.1, by simp [mq_of], fun i v hi => ?_⟩
  unfold mq_of at hi
  rw [List.getElem?_map] at hi
  by_cases hn : i < n
  · rw [List.getElem?_range hn] at hi
    simp only [Option.map_some, Option.some.injEq] at hi
    cases hf : l.find? (fun q => q.1 == i) with
    | none => rw [hf] at hi; cases hi
    | some q =>
      rw [hf] at hi
      cases hi
      have h1 := List.mem_of_find?_eq_some hf
      have h2 := List.find?_some hf
      have h3 : q.1 = i := by simpa using h2
      rw [← h3]
      exact h.2.2 q h1
  · rw [List.getElem?_eq_none (by simp; omega)] at hi
    cases hi
/-- a contract: from the memory M with the arguments av the method returns, 'post' of its answer and of the memory behind it; nothing below z changes -/
def mq_nf : List (String × Nat × String × String × String × String) := [("OssuaryVault$Desk", 64, "OssuaryVault$DeskFile", "content", "LOssuaryVault$Bytes;", "OssuaryVault"), ("OssuaryVault", 153, "OssuaryVault$DeskFile", "content", "LOssuaryVault$Bytes;", "OssuaryVault"), ("OssuaryVault", 163, "OssuaryVault$DeskFile", "packed", "LOssuaryVault$Bytes;", "OssuaryVault"), ("OssuaryVault$Desk", 49, "OssuaryVault$DeskFile", "key", "I", "OssuaryVault"), ("OssuaryVault", 147, "OssuaryVault$DeskFile", "key", "I", "OssuaryVault"), ("OssuaryVault", 160, "OssuaryVault$DeskFile", "contentCheck", "I", "OssuaryVault"), ("OssuaryVault", 89, "OssuaryVault$Desk", "sheet", "LOssuaryVault$Bytes;", "OssuaryVault"), ("OssuaryVault$Recovery", 62, "OssuaryVault$Volume", "bytes", "LOssuaryVault$Bytes;", "OssuaryVault"), ("OssuaryVault$Shelf", 100, "OssuaryVault$Volume", "bytes", "LOssuaryVault$Bytes;", "OssuaryVault"), ("OssuaryVault", 195, "OssuaryVault$Volume", "bytes", "LOssuaryVault$Bytes;", "OssuaryVault"), ("OssuaryVault", 233, "OssuaryVault$Shelf", "leaderPlace", "I", "OssuaryVault"), ("OssuaryVault", 236, "OssuaryVault$Shelf", "members", "I", "OssuaryVault"), ("OssuaryVault$Reading", 114, "OssuaryVault$FoundFile", "content", "LOssuaryVault$Bytes;", "OssuaryVault"), ("OssuaryVault", 298, "OssuaryVault$FoundFile", "content", "LOssuaryVault$Bytes;", "OssuaryVault"), ("OssuaryVault$Reading", 95, "OssuaryVault$FoundFile", "key", "I", "OssuaryVault"), ("OssuaryVault", 286, "OssuaryVault$FoundFile", "key", "I", "OssuaryVault"), ("OssuaryVault$Reading", 98, "OssuaryVault$FoundFile", "place", "I", "OssuaryVault"), ("OssuaryVault", 289, "OssuaryVault$FoundFile", "place", "I", "OssuaryVault"), ("OssuaryVault$Reading", 101, "OssuaryVault$FoundFile", "lengthTold", "I", "OssuaryVault"), ("OssuaryVault$Reading", 67, "OssuaryVault$FoundFile", "good", "Z", "OssuaryVault"), ("OssuaryVault", 292, "OssuaryVault$FoundFile", "good", "Z", "OssuaryVault"), ("OssuaryVault", 248, "OssuaryVault$Reading", "stream", "LOssuaryVault$Bytes;", "OssuaryVault"), ("OssuaryVault", 327, "OssuaryVault$Reading", "isOpen", "Z", "OssuaryVault"), ("OssuaryVault", 251, "OssuaryVault$Reading", "data", "I", "OssuaryVault"), ("OssuaryVault", 254, "OssuaryVault$Reading", "parity", "I", "OssuaryVault"), ("OssuaryVault", 276, "OssuaryVault$Reading", "indexed", "Z", "OssuaryVault"), ("OssuaryVault", 280, "OssuaryVault$Reading", "count", "I", "OssuaryVault")]
def mq_na : List String := ["OssuaryVault$DeskFile", "OssuaryVault$FoundFile", "OssuaryVault$Volume"]
def mq_nm : List (String × Nat × MethodName × String) := [("OssuaryVault$Volume", 54, ⟨"OssuaryVault", "bodySize", "(II)I"⟩, "OssuaryVault"), ("OssuaryVault$Shelf", 91, ⟨"OssuaryVault", "bodySize", "(II)I"⟩, "OssuaryVault"), ("OssuaryVault$Desk", 33, ⟨"OssuaryVault$DeskFile", "<init>", "()V"⟩, "OssuaryVault"), ("OssuaryVault$Reading", 31, ⟨"OssuaryVault$FoundFile", "<init>", "()V"⟩, "OssuaryVault"), ("OssuaryVaultLaw$Desk", 32, ⟨"OssuaryVaultLaw", "cell", "([II)I"⟩, "OssuaryVaultLaw"), ("OssuaryVaultLaw$Desk", 38, ⟨"OssuaryVaultLaw", "below", "(II)I"⟩, "OssuaryVaultLaw")]
/-- the arrays' classes, and what stands of the old part of the heap -/
abbrev mq_Y : Type := List (ClassId × FieldType) × (Nat → State → Heap → Prop)
/-- it stands in every heap that is the same below z -/
def mq_Sx (y : mq_Y) (z : Nat) (U : State) : Prop := ∀ (U2 : State) (H1 : Heap), U.WarmedH U2.vm → (∀ q : Nat, q < z → H1[q]? = U.heap[q]?) → y.2 z U2 H1
theorem mq_Sx.moved {y : mq_Y} {z : Nat} {s U : State} (h : mq_Sx y z s) (hv : s.WarmedH U.vm) (hh : ∀ q : Nat, q < z → U.heap[q]? = s.heap[q]?) : mq_Sx y z U := fun U2 H1 a b => h U2 H1 (State.WarmedH.trans (t := U) hv a) (fun q hq => (b q hq).trans (hh q hq))
/-- the links among nest mates stand in the tables -/
def mq_N (y : mq_Y) (z : Nat) (U : State) : Prop := (∀ q ∈ mq_nf, va_Nw (.fieldLinkNest q.1 q.2.1 q.2.2.1 q.2.2.2.1 q.2.2.2.2.1 q.2.2.2.2.2) U) ∧ (∀ q ∈ mq_nm, va_Nw (.methodLinkNest q.1 q.2.1 q.2.2.1 q.2.2.2) U) ∧ (∀ q ∈ mq_na, va_AO q U) ∧ mq_Sx y z U
theorem mq_N.warm {y : mq_Y} {z : Nat} {s U : State} (hW : s.WarmedH U.vm) (hh : ∀ q : Nat, q < z → U.heap[q]? = s.heap[q]?) (h : mq_N y z s) : mq_N y z U := ⟨fun q hq => va_Nw.warmF hW (h.1 q hq), fun q hq => va_Nw.warmM hW (h.2.1 q hq), fun q hq => (h.2.2.1 q hq).moved hW.alike, h.2.2.2.moved hW hh⟩
theorem mq_N.same {y : mq_Y} {z : Nat} {s U : State} (e : s.vm = U.vm) (hh : U.heap = s.heap) (h : mq_N y z s) : mq_N y z U := ⟨fun q hq => va_Nw.same rfl e (h.1 q hq), fun q hq => va_Nw.same rfl e (h.2.1 q hq), fun q hq => (h.2.2.1 q hq).moved (by rw [e]; exact Vm.Alike.refl _), h.2.2.2.moved (by rw [← e]; exact State.WarmedH.refl _) (fun _ _ => by rw [hh])⟩
def mq_K (D : va_G) (tys : mq_Y) (z : Nat) (U : State) : Prop := va_K D vwCl tys.1 U ∧ mq_N tys z U
def mq_Qc (D : va_G) (z : Nat) (post : Option Value → mq_M → Prop) : Array Value → State → Outcome → State → Prop := fun _ st oc t => (∃ (v : Option Value) (M' : mq_M), oc = .returned v ∧ post v M' ∧ mq_H D z M' t.heap) ∧ va_F (fun q => z ≤ q) st t
def mq_Pr (D : va_G) (tys : mq_Y) (z : Nat) (M : mq_M) (U : State) : Prop := mq_H D z M U.heap ∧ z ≤ U.heap.size ∧ mq_K D tys z U
def mq_Met (l : Launch) (y : MethodName) (ws : List Cond) (rm : Room) (D : va_G) (tys : mq_Y) (av : List Value) (M : mq_M) (post : Option Value → mq_M → Prop) (mc ms : Nat) : Prop :=
  ∀ z : Nat, Met l y ws rm (va_Pc av (mq_Pr D tys z M)) (mq_Qc D z post) mc ms (fun q => z ≤ q)
/-- the kinds of answers -/
def mq_pi (P : Int → mq_M → Prop) : Option Value → mq_M → Prop := fun v M' => ∃ k : Int, v = some (.int (zI k)) ∧ P k M'
def mq_pl (P : Int64 → mq_M → Prop) : Option Value → mq_M → Prop := fun v M' => ∃ k : Int64, v = some (.long k) ∧ P k M'
def mq_pv (P : mq_M → Prop) : Option Value → mq_M → Prop := fun v M' => v = none ∧ P M'
def mq_pr (P : Option Nat → mq_M → Prop) : Option Value → mq_M → Prop := fun v M' => ∃ k : Option Nat, v = some (va_rf k) ∧ P k M'
def mq_pa (P : Nat → mq_M → Prop) : Option Value → mq_M → Prop := fun v M' => ∃ k : Nat, v = some (.ref k) ∧ P k M'
def mq_pn (P : mq_M → Prop) : Option Value → mq_M → Prop := fun v M' => v = some .null ∧ P M'
/-- what stays through a method's walk -/
def mq_C (p : Program) (m : MethodId) (c : Code) (cc : ByteArray) (nL : Nat) (s : State) (args : Array Value) (Ts : List Cond) (own : String) (D : va_G) (tys : mq_Y) (z : Nat) : Prop :=
  CallFix p m c cc nL s args Ts own ∧ mq_K D tys z s
section MQX
variable {p : Program} {l : Launch} {e : Env} {R : Room} {s : State} {m : MethodId} {args : Array Value} {below : List Frame} {meth : Method} {c : Code} {Q : State → Prop}
variable {cc : ByteArray} {nL : Nat} {Ts : List Cond} {own : String} {D : va_G} {tys : mq_Y} {z : Nat} {H0 : Heap} {cells slots : Nat} {M : mq_M} {pc : Nat} {L : List (Option Value)} {st : List Value}
/-- the machine at pc, the memory M, the locals L, the stack st: it comes to Q -/
def mq_X (p : Program) (l : Launch) (e : Env) (R : Room) (s : State) (m : MethodId) (args : Array Value) (below : List Frame) (meth : Method) (c : Code) (Q : State → Prop) (nL : Nat) (D : va_G) (z : Nat) (H0 : Heap) (cells slots : Nat) (M : mq_M) (pc : Nat) (L : List (Option Value)) (st : List Value) : Prop :=
  ∀ (H : Heap) (locs : List Loc) (la : Array Slot) (ws : va_W), mq_L la nL L → va_P D vwCl ws H → va_D (fun q => z ≤ q) ws → mq_I M ws → va_S (fun q => z ≤ q) H0 H locs → (z ≤ H0.size ∧ H0 = s.heap) → W p l e R s m args below meth c H locs cells slots Q (F0 m pc la st)

theorem xr_iconst (C : mq_C p m c cc nL s args Ts own D tys z) {n : Int} (d : decode cc pc = .ok (.iconst n, 1)) (hv : Int32.ofInt n = zI n)
    (k : mq_X p l e R s m args below meth c Q nL D z H0 cells slots M (pc + 1) L (.int (zI n) :: st)) : mq_X p l e R s m args below meth c Q nL D z H0 cells slots M pc L st :=
  fun H locs la ws h1 h2 h3 h4 h5 h6 => lv_iconst C.1.1 C.1.2.1 d hv (k H locs la ws h1 h2 h3 h4 h5 h6)
theorem xr_bipush (C : mq_C p m c cc nL s args Ts own D tys z) {n : Int} (d : decode cc pc = .ok (.bipush n, 2)) (hv : (Int8.ofInt n).toInt32 = zI n)
    (k : mq_X p l e R s m args below meth c Q nL D z H0 cells slots M (pc + 2) L (.int (zI n) :: st)) : mq_X p l e R s m args below meth c Q nL D z H0 cells slots M pc L st :=
  fun H locs la ws h1 h2 h3 h4 h5 h6 => lv_bipush C.1.1 C.1.2.1 d hv (k H locs la ws h1 h2 h3 h4 h5 h6)
theorem xr_sipush (C : mq_C p m c cc nL s args Ts own D tys z) {n : Int} (d : decode cc pc = .ok (.sipush n, 3)) (hv : (Int16.ofInt n).toInt32 = zI n)
    (k : mq_X p l e R s m args below meth c Q nL D z H0 cells slots M (pc + 3) L (.int (zI n) :: st)) : mq_X p l e R s m args below meth c Q nL D z H0 cells slots M pc L st :=
  fun H locs la ws h1 h2 h3 h4 h5 h6 => lv_sipush C.1.1 C.1.2.1 d hv (k H locs la ws h1 h2 h3 h4 h5 h6)
theorem xr_ldc (C : mq_C p m c cc nL s args Ts own D tys z) {index : Nat} {k0 : Int} (hc : (Jvm.Cond.constant own index (zI k0)).before args s = true) (d : decode cc pc = .ok (.ldc index, 2))
    (k : mq_X p l e R s m args below meth c Q nL D z H0 cells slots M (pc + 2) L (.int (zI k0) :: st)) : mq_X p l e R s m args below meth c Q nL D z H0 cells slots M pc L st :=
  fun H locs la ws h1 h2 h3 h4 h5 h6 => lv_ldc C.1.1 C.1.2.1 C.1.2.2.2.1 hc d (k H locs la ws h1 h2 h3 h4 h5 h6)
theorem xr_ldc2 (C : mq_C p m c cc nL s args Ts own D tys z) {index : Nat} {k0 : Int64} (hc : (Jvm.Cond.constantLong own index k0).before args s = true) (d : decode cc pc = .ok (.ldc2_w index, 3))
    (k : mq_X p l e R s m args below meth c Q nL D z H0 cells slots M (pc + 3) L (.long k0 :: st)) : mq_X p l e R s m args below meth c Q nL D z H0 cells slots M pc L st :=
  fun H locs la ws h1 h2 h3 h4 h5 h6 => lv_ldc2 C.1.1 C.1.2.1 C.1.2.2.2.1 hc d (k H locs la ws h1 h2 h3 h4 h5 h6)
theorem xr_lconst (C : mq_C p m c cc nL s args Ts own D tys z) {n : Fin 2} {v : Int64} (d : decode cc pc = .ok (.lconst n, 1)) (hv : Int64.ofNat (n : Nat) = v)
    (k : mq_X p l e R s m args below meth c Q nL D z H0 cells slots M (pc + 1) L (.long v :: st)) : mq_X p l e R s m args below meth c Q nL D z H0 cells slots M pc L st :=
  fun H locs la ws h1 h2 h3 h4 h5 h6 => lv_lconst C.1.1 C.1.2.1 d hv (k H locs la ws h1 h2 h3 h4 h5 h6)
theorem xr_null (C : mq_C p m c cc nL s args Ts own D tys z) (d : decode cc pc = .ok (.aconst_null, 1))
    (k : mq_X p l e R s m args below meth c Q nL D z H0 cells slots M (pc + 1) L (.null :: st)) : mq_X p l e R s m args below meth c Q nL D z H0 cells slots M pc L st :=
  fun H locs la ws h1 h2 h3 h4 h5 h6 => lv_null C.1.1 C.1.2.1 d (k H locs la ws h1 h2 h3 h4 h5 h6)
theorem xr_iload_n (C : mq_C p m c cc nL s args Ts own D tys z) {k0 : Fin 4} {x : Int32} (d : decode cc pc = .ok (.iload_n k0, 1)) (hL : L[(k0 : Nat)]? = some (some (.int x)))
    (k : mq_X p l e R s m args below meth c Q nL D z H0 cells slots M (pc + 1) L (.int x :: st)) : mq_X p l e R s m args below meth c Q nL D z H0 cells slots M pc L st :=
  fun H locs la ws h1 h2 h3 h4 h5 h6 => lv_iload_n C.1.1 C.1.2.1 d rfl (h1.2.2.2 _ _ hL) (k H locs la ws h1 h2 h3 h4 h5 h6)
theorem xr_iload (C : mq_C p m c cc nL s args Ts own D tys z) {i : Nat} {x : Int32} (d : decode cc pc = .ok (.iload i, 2)) (hL : L[i]? = some (some (.int x)))
    (k : mq_X p l e R s m args below meth c Q nL D z H0 cells slots M (pc + 2) L (.int x :: st)) : mq_X p l e R s m args below meth c Q nL D z H0 cells slots M pc L st :=
  fun H locs la ws h1 h2 h3 h4 h5 h6 => lv_iload C.1.1 C.1.2.1 d (h1.2.2.2 _ _ hL) (k H locs la ws h1 h2 h3 h4 h5 h6)
theorem xr_istore_n (C : mq_C p m c cc nL s args Ts own D tys z) {k0 : Fin 4} {x : Int32} (d : decode cc pc = .ok (.istore_n k0, 1)) (hi : (k0 : Nat) < nL) (h2 : mq_no2 L (k0 : Nat) = true)
    (k : mq_X p l e R s m args below meth c Q nL D z H0 cells slots M (pc + 1) (L.set (k0 : Nat) (some (.int x))) st) : mq_X p l e R s m args below meth c Q nL D z H0 cells slots M pc L (.int x :: st) :=
  fun H locs la ws h1 g2 h3 h4 h5 h6 => lv_istore_n C.1.1 C.1.2.1 d rfl h1.has hi rfl (fun la2 h => k H locs la2 ws (h1.set1 hi h2 h) g2 h3 h4 h5 h6)
theorem xr_istore (C : mq_C p m c cc nL s args Ts own D tys z) {i : Nat} {x : Int32} (d : decode cc pc = .ok (.istore i, 2)) (hi : i < nL) (h2 : mq_no2 L i = true)
    (k : mq_X p l e R s m args below meth c Q nL D z H0 cells slots M (pc + 2) (L.set i (some (.int x))) st) : mq_X p l e R s m args below meth c Q nL D z H0 cells slots M pc L (.int x :: st) :=
  fun H locs la ws h1 g2 h3 h4 h5 h6 => lv_istore C.1.1 C.1.2.1 d h1.has hi rfl (fun la2 h => k H locs la2 ws (h1.set1 hi h2 h) g2 h3 h4 h5 h6)
theorem xr_lload_n (C : mq_C p m c cc nL s args Ts own D tys z) {k0 : Fin 4} {x : Int64} (d : decode cc pc = .ok (.lload_n k0, 1)) (hL : L[(k0 : Nat)]? = some (some (.long x)))
    (k : mq_X p l e R s m args below meth c Q nL D z H0 cells slots M (pc + 1) L (.long x :: st)) : mq_X p l e R s m args below meth c Q nL D z H0 cells slots M pc L st :=
  fun H locs la ws h1 h2 h3 h4 h5 h6 => lv_lload_n C.1.1 C.1.2.1 d rfl (h1.2.2.2 _ _ hL) (k H locs la ws h1 h2 h3 h4 h5 h6)
theorem xr_lload (C : mq_C p m c cc nL s args Ts own D tys z) {i : Nat} {x : Int64} (d : decode cc pc = .ok (.lload i, 2)) (hL : L[i]? = some (some (.long x)))
    (k : mq_X p l e R s m args below meth c Q nL D z H0 cells slots M (pc + 2) L (.long x :: st)) : mq_X p l e R s m args below meth c Q nL D z H0 cells slots M pc L st :=
  fun H locs la ws h1 h2 h3 h4 h5 h6 => lv_lload C.1.1 C.1.2.1 d (h1.2.2.2 _ _ hL) (k H locs la ws h1 h2 h3 h4 h5 h6)
theorem xr_lstore_n (C : mq_C p m c cc nL s args Ts own D tys z) {k0 : Fin 4} {x : Int64} (d : decode cc pc = .ok (.lstore_n k0, 1)) (hi : (k0 : Nat) + 1 < nL) (h2 : mq_no2 L (k0 : Nat) = true)
    (k : mq_X p l e R s m args below meth c Q nL D z H0 cells slots M (pc + 1) ((L.set (k0 : Nat) (some (.long x))).set ((k0 : Nat) + 1) none) st) : mq_X p l e R s m args below meth c Q nL D z H0 cells slots M pc L (.long x :: st) :=
  fun H locs la ws h1 g2 h3 h4 h5 h6 => lv_lstore_n C.1.1 C.1.2.1 d rfl h1.has hi rfl (fun la2 h => k H locs la2 ws (h1.set2 hi h2 h) g2 h3 h4 h5 h6)
theorem xr_lstore (C : mq_C p m c cc nL s args Ts own D tys z) {i : Nat} {x : Int64} (d : decode cc pc = .ok (.lstore i, 2)) (hi : i + 1 < nL) (h2 : mq_no2 L i = true)
    (k : mq_X p l e R s m args below meth c Q nL D z H0 cells slots M (pc + 2) ((L.set i (some (.long x))).set (i + 1) none) st) : mq_X p l e R s m args below meth c Q nL D z H0 cells slots M pc L (.long x :: st) :=
  fun H locs la ws h1 g2 h3 h4 h5 h6 => lv_lstore C.1.1 C.1.2.1 d h1.has hi rfl (fun la2 h => k H locs la2 ws (h1.set2 hi h2 h) g2 h3 h4 h5 h6)
theorem xr_aload_n (C : mq_C p m c cc nL s args Ts own D tys z) {k0 : Fin 4} {x : Nat} (d : decode cc pc = .ok (.aload_n k0, 1)) (hL : L[(k0 : Nat)]? = some (some (.ref x)))
    (k : mq_X p l e R s m args below meth c Q nL D z H0 cells slots M (pc + 1) L (.ref x :: st)) : mq_X p l e R s m args below meth c Q nL D z H0 cells slots M pc L st :=
  fun H locs la ws h1 h2 h3 h4 h5 h6 => lv_aload_n C.1.1 C.1.2.1 d rfl (h1.2.2.2 _ _ hL) (k H locs la ws h1 h2 h3 h4 h5 h6)
theorem xr_aload (C : mq_C p m c cc nL s args Ts own D tys z) {i : Nat} {x : Nat} (d : decode cc pc = .ok (.aload i, 2)) (hL : L[i]? = some (some (.ref x)))
    (k : mq_X p l e R s m args below meth c Q nL D z H0 cells slots M (pc + 2) L (.ref x :: st)) : mq_X p l e R s m args below meth c Q nL D z H0 cells slots M pc L st :=
  fun H locs la ws h1 h2 h3 h4 h5 h6 => lv_aload C.1.1 C.1.2.1 d (h1.2.2.2 _ _ hL) (k H locs la ws h1 h2 h3 h4 h5 h6)
theorem xr_astore_n (C : mq_C p m c cc nL s args Ts own D tys z) {k0 : Fin 4} {x : Nat} (d : decode cc pc = .ok (.astore_n k0, 1)) (hi : (k0 : Nat) < nL) (h2 : mq_no2 L (k0 : Nat) = true)
    (k : mq_X p l e R s m args below meth c Q nL D z H0 cells slots M (pc + 1) (L.set (k0 : Nat) (some (.ref x))) st) : mq_X p l e R s m args below meth c Q nL D z H0 cells slots M pc L (.ref x :: st) :=
  fun H locs la ws h1 g2 h3 h4 h5 h6 => lv_astore_n C.1.1 C.1.2.1 d rfl h1.has hi rfl (fun la2 h => k H locs la2 ws (h1.set1 hi h2 h) g2 h3 h4 h5 h6)
theorem xr_astore (C : mq_C p m c cc nL s args Ts own D tys z) {i : Nat} {x : Nat} (d : decode cc pc = .ok (.astore i, 2)) (hi : i < nL) (h2 : mq_no2 L i = true)
    (k : mq_X p l e R s m args below meth c Q nL D z H0 cells slots M (pc + 2) (L.set i (some (.ref x))) st) : mq_X p l e R s m args below meth c Q nL D z H0 cells slots M pc L (.ref x :: st) :=
  fun H locs la ws h1 g2 h3 h4 h5 h6 => lv_astore C.1.1 C.1.2.1 d h1.has hi rfl (fun la2 h => k H locs la2 ws (h1.set1 hi h2 h) g2 h3 h4 h5 h6)
theorem xr_iinc (C : mq_C p m c cc nL s args Ts own D tys z) {i : Nat} {n x : Int} (d : decode cc pc = .ok (.iinc i n, 3)) (hL : L[i]? = some (some (.int (zI x)))) (hi : i < nL) (h2 : mq_no2 L i = true)
    (k : mq_X p l e R s m args below meth c Q nL D z H0 cells slots M (pc + 3) (L.set i (some (.int (zI (x + n))))) st) : mq_X p l e R s m args below meth c Q nL D z H0 cells slots M pc L st :=
  fun H locs la ws h1 g2 h3 h4 h5 h6 => by
    obtain ⟨q, hq⟩ := List.getElem?_of_mem (mq_prs_mem.mpr hL)
    exact lv_iinc C.1.1 C.1.2.1 d h1.has hq (zI_add x n) hi rfl (fun la2 h => k H locs la2 ws (h1.set1 hi h2 h) g2 h3 h4 h5 h6)
theorem xr_nload_n (C : mq_C p m c cc nL s args Ts own D tys z) {k0 : Fin 4} (d : decode cc pc = .ok (.aload_n k0, 1)) (hL : L[(k0 : Nat)]? = some (some .null))
    (k : mq_X p l e R s m args below meth c Q nL D z H0 cells slots M (pc + 1) L (.null :: st)) : mq_X p l e R s m args below meth c Q nL D z H0 cells slots M pc L st :=
  fun H locs la ws h1 h2 h3 h4 h5 h6 => lv_aload_nN C.1.1 C.1.2.1 d rfl (h1.2.2.2 _ _ hL) (k H locs la ws h1 h2 h3 h4 h5 h6)
theorem xr_nload (C : mq_C p m c cc nL s args Ts own D tys z) {i : Nat} (d : decode cc pc = .ok (.aload i, 2)) (hL : L[i]? = some (some .null))
    (k : mq_X p l e R s m args below meth c Q nL D z H0 cells slots M (pc + 2) L (.null :: st)) : mq_X p l e R s m args below meth c Q nL D z H0 cells slots M pc L st :=
  fun H locs la ws h1 h2 h3 h4 h5 h6 => lv_aloadN C.1.1 C.1.2.1 d (h1.2.2.2 _ _ hL) (k H locs la ws h1 h2 h3 h4 h5 h6)
theorem xr_nstore_n (C : mq_C p m c cc nL s args Ts own D tys z) {k0 : Fin 4} (d : decode cc pc = .ok (.astore_n k0, 1)) (hi : (k0 : Nat) < nL) (h2 : mq_no2 L (k0 : Nat) = true)
    (k : mq_X p l e R s m args below meth c Q nL D z H0 cells slots M (pc + 1) (L.set (k0 : Nat) (some .null)) st) : mq_X p l e R s m args below meth c Q nL D z H0 cells slots M pc L (.null :: st) :=
  fun H locs la ws h1 g2 h3 h4 h5 h6 => lv_astore_nN C.1.1 C.1.2.1 d rfl h1.has hi rfl (fun la2 h => k H locs la2 ws (h1.set1 hi h2 h) g2 h3 h4 h5 h6)
theorem xr_nstore (C : mq_C p m c cc nL s args Ts own D tys z) {i : Nat} (d : decode cc pc = .ok (.astore i, 2)) (hi : i < nL) (h2 : mq_no2 L i = true)
    (k : mq_X p l e R s m args below meth c Q nL D z H0 cells slots M (pc + 2) (L.set i (some .null)) st) : mq_X p l e R s m args below meth c Q nL D z H0 cells slots M pc L (.null :: st) :=
  fun H locs la ws h1 g2 h3 h4 h5 h6 => lv_astoreN C.1.1 C.1.2.1 d h1.has hi rfl (fun la2 h => k H locs la2 ws (h1.set1 hi h2 h) g2 h3 h4 h5 h6)
theorem xr_iadd (C : mq_C p m c cc nL s args Ts own D tys z) {a b : Int} (d : decode cc pc = .ok (.iadd, 1))
    (k : mq_X p l e R s m args below meth c Q nL D z H0 cells slots M (pc + 1) L (.int (zI (a + b)) :: st)) : mq_X p l e R s m args below meth c Q nL D z H0 cells slots M pc L (.int (zI b) :: .int (zI a) :: st) :=
  fun H locs la ws h1 h2 h3 h4 h5 h6 => lv_iadd C.1.1 C.1.2.1 d (by rw [zI_add]; exact k H locs la ws h1 h2 h3 h4 h5 h6)
theorem xr_isub (C : mq_C p m c cc nL s args Ts own D tys z) {a b : Int} (d : decode cc pc = .ok (.isub, 1))
    (k : mq_X p l e R s m args below meth c Q nL D z H0 cells slots M (pc + 1) L (.int (zI (a - b)) :: st)) : mq_X p l e R s m args below meth c Q nL D z H0 cells slots M pc L (.int (zI b) :: .int (zI a) :: st) :=
  fun H locs la ws h1 h2 h3 h4 h5 h6 => lv_isub C.1.1 C.1.2.1 d (by rw [zI_sub]; exact k H locs la ws h1 h2 h3 h4 h5 h6)
theorem xr_imul (C : mq_C p m c cc nL s args Ts own D tys z) {a b : Int} (d : decode cc pc = .ok (.imul, 1))
    (k : mq_X p l e R s m args below meth c Q nL D z H0 cells slots M (pc + 1) L (.int (zI (a * b)) :: st)) : mq_X p l e R s m args below meth c Q nL D z H0 cells slots M pc L (.int (zI b) :: .int (zI a) :: st) :=
  fun H locs la ws h1 h2 h3 h4 h5 h6 => lv_imul C.1.1 C.1.2.1 d (by rw [zI_mul]; exact k H locs la ws h1 h2 h3 h4 h5 h6)
theorem xr_iand (C : mq_C p m c cc nL s args Ts own D tys z) {x y : Int32} {w : Int} (d : decode cc pc = .ok (.iand, 1)) (hw : x &&& y = zI w)
    (k : mq_X p l e R s m args below meth c Q nL D z H0 cells slots M (pc + 1) L (.int (zI w) :: st)) : mq_X p l e R s m args below meth c Q nL D z H0 cells slots M pc L (.int y :: .int x :: st) :=
  fun H locs la ws h1 h2 h3 h4 h5 h6 => lv_iand C.1.1 C.1.2.1 d (by rw [hw]; exact k H locs la ws h1 h2 h3 h4 h5 h6)
theorem xr_ior (C : mq_C p m c cc nL s args Ts own D tys z) {x y : Int32} {w : Int} (d : decode cc pc = .ok (.ior, 1)) (hw : x ||| y = zI w)
    (k : mq_X p l e R s m args below meth c Q nL D z H0 cells slots M (pc + 1) L (.int (zI w) :: st)) : mq_X p l e R s m args below meth c Q nL D z H0 cells slots M pc L (.int y :: .int x :: st) :=
  fun H locs la ws h1 h2 h3 h4 h5 h6 => lv_ior C.1.1 C.1.2.1 d (by rw [hw]; exact k H locs la ws h1 h2 h3 h4 h5 h6)
theorem xr_ixor (C : mq_C p m c cc nL s args Ts own D tys z) {x y : Int32} {w : Int} (d : decode cc pc = .ok (.ixor, 1)) (hw : x ^^^ y = zI w)
    (k : mq_X p l e R s m args below meth c Q nL D z H0 cells slots M (pc + 1) L (.int (zI w) :: st)) : mq_X p l e R s m args below meth c Q nL D z H0 cells slots M pc L (.int y :: .int x :: st) :=
  fun H locs la ws h1 h2 h3 h4 h5 h6 => lv_ixor C.1.1 C.1.2.1 d (by rw [hw]; exact k H locs la ws h1 h2 h3 h4 h5 h6)
theorem xr_idiv (C : mq_C p m c cc nL s args Ts own D tys z) {a b : Int} (d : decode cc pc = .ok (.idiv, 1)) (ha : 0 ≤ a ∧ a < 2147483648) (hb : 0 < b ∧ b < 2147483648)
    (k : mq_X p l e R s m args below meth c Q nL D z H0 cells slots M (pc + 1) L (.int (zI (a / b)) :: st)) : mq_X p l e R s m args below meth c Q nL D z H0 cells slots M pc L (.int (zI b) :: .int (zI a) :: st) :=
  fun H locs la ws h1 h2 h3 h4 h5 h6 => lv_idiv C.1.1 C.1.2.1 d (zI_ne0 hb) (by rw [zI_div ha hb]; exact k H locs la ws h1 h2 h3 h4 h5 h6)
theorem xr_irem (C : mq_C p m c cc nL s args Ts own D tys z) {a b : Int} (d : decode cc pc = .ok (.irem, 1)) (ha : 0 ≤ a ∧ a < 2147483648) (hb : 0 < b ∧ b < 2147483648)
    (k : mq_X p l e R s m args below meth c Q nL D z H0 cells slots M (pc + 1) L (.int (zI (a % b)) :: st)) : mq_X p l e R s m args below meth c Q nL D z H0 cells slots M pc L (.int (zI b) :: .int (zI a) :: st) :=
  fun H locs la ws h1 h2 h3 h4 h5 h6 => lv_irem C.1.1 C.1.2.1 d (zI_ne0 hb) (by rw [zI_rem ha hb]; exact k H locs la ws h1 h2 h3 h4 h5 h6)
theorem xr_ladd (C : mq_C p m c cc nL s args Ts own D tys z) {x y : Int64} (d : decode cc pc = .ok (.ladd, 1))
    (k : mq_X p l e R s m args below meth c Q nL D z H0 cells slots M (pc + 1) L (.long (x + y) :: st)) : mq_X p l e R s m args below meth c Q nL D z H0 cells slots M pc L (.long y :: .long x :: st) :=
  fun H locs la ws h1 h2 h3 h4 h5 h6 => lv_ladd C.1.1 C.1.2.1 d (k H locs la ws h1 h2 h3 h4 h5 h6)
theorem xr_lmul (C : mq_C p m c cc nL s args Ts own D tys z) {x y : Int64} (d : decode cc pc = .ok (.lmul, 1))
    (k : mq_X p l e R s m args below meth c Q nL D z H0 cells slots M (pc + 1) L (.long (x * y) :: st)) : mq_X p l e R s m args below meth c Q nL D z H0 cells slots M pc L (.long y :: .long x :: st) :=
  fun H locs la ws h1 h2 h3 h4 h5 h6 => lv_lmul C.1.1 C.1.2.1 d (k H locs la ws h1 h2 h3 h4 h5 h6)
theorem xr_i2l (C : mq_C p m c cc nL s args Ts own D tys z) {x : Int32} (d : decode cc pc = .ok (.i2l, 1))
    (k : mq_X p l e R s m args below meth c Q nL D z H0 cells slots M (pc + 1) L (.long x.toInt64 :: st)) : mq_X p l e R s m args below meth c Q nL D z H0 cells slots M pc L (.int x :: st) :=
  fun H locs la ws h1 h2 h3 h4 h5 h6 => lv_i2l C.1.1 C.1.2.1 d rfl (k H locs la ws h1 h2 h3 h4 h5 h6)
theorem xr_dup (C : mq_C p m c cc nL s args Ts own D tys z) {v : Value} (d : decode cc pc = .ok (.dup, 1)) (hv : v.category = 1)
    (k : mq_X p l e R s m args below meth c Q nL D z H0 cells slots M (pc + 1) L (v :: v :: st)) : mq_X p l e R s m args below meth c Q nL D z H0 cells slots M pc L (v :: st) :=
  fun H locs la ws h1 h2 h3 h4 h5 h6 => lv_dup C.1.1 C.1.2.1 d hv (k H locs la ws h1 h2 h3 h4 h5 h6)
theorem xr_pop (C : mq_C p m c cc nL s args Ts own D tys z) {v : Value} (d : decode cc pc = .ok (.pop, 1)) (hv : v.category = 1)
    (k : mq_X p l e R s m args below meth c Q nL D z H0 cells slots M (pc + 1) L st) : mq_X p l e R s m args below meth c Q nL D z H0 cells slots M pc L (v :: st) :=
  fun H locs la ws h1 h2 h3 h4 h5 h6 => lv_pop C.1.1 C.1.2.1 d hv (k H locs la ws h1 h2 h3 h4 h5 h6)
theorem xr_dup_x1 (C : mq_C p m c cc nL s args Ts own D tys z) {v w : Value} (d : decode cc pc = .ok (.dup_x1, 1)) (hv : v.category = 1) (hw : w.category = 1)
    (k : mq_X p l e R s m args below meth c Q nL D z H0 cells slots M (pc + 1) L (v :: w :: v :: st)) : mq_X p l e R s m args below meth c Q nL D z H0 cells slots M pc L (v :: w :: st) :=
  fun H locs la ws h1 h2 h3 h4 h5 h6 => lv_dup_x1 C.1.1 C.1.2.1 d hv hw (k H locs la ws h1 h2 h3 h4 h5 h6)
theorem xr_goto (C : mq_C p m c cc nL s args Ts own D tys z) {off : Int} {tgt : Nat} (d : decode cc pc = .ok (.goto off, 3)) (ht : (pc : Int) + off = (tgt : Int))
    (k : mq_X p l e R s m args below meth c Q nL D z H0 cells slots M tgt L st) : mq_X p l e R s m args below meth c Q nL D z H0 cells slots M pc L st :=
  fun H locs la ws h1 h2 h3 h4 h5 h6 => lv_goto C.1.1 C.1.2.1 d ht (k H locs la ws h1 h2 h3 h4 h5 h6)
theorem xr_icmp_eq (C : mq_C p m c cc nL s args Ts own D tys z) {a b : Int} {off : Int} {tgt : Nat} (d : decode cc pc = .ok (.if_icmp .eq off, 3)) (ht : (pc : Int) + off = (tgt : Int)) (ha : -2147483648 ≤ a ∧ a < 2147483648) (hb : -2147483648 ≤ b ∧ b < 2147483648)
    (kt : a = b → mq_X p l e R s m args below meth c Q nL D z H0 cells slots M tgt L st) (kf : a ≠ b → mq_X p l e R s m args below meth c Q nL D z H0 cells slots M (pc + 3) L st) : mq_X p l e R s m args below meth c Q nL D z H0 cells slots M pc L (.int (zI b) :: .int (zI a) :: st) :=
  fun H locs la ws h1 h2 h3 h4 h5 h6 => lv_icmp_eq C.1.1 C.1.2.1 d ht (fun h => kt ((zI_eq ha hb).mp h) H locs la ws h1 h2 h3 h4 h5 h6) (fun h => kf (fun q => h ((zI_eq ha hb).mpr q)) H locs la ws h1 h2 h3 h4 h5 h6)
theorem xr_if_eq (C : mq_C p m c cc nL s args Ts own D tys z) {a : Int} {off : Int} {tgt : Nat} (d : decode cc pc = .ok (.ifCond .eq off, 3)) (ht : (pc : Int) + off = (tgt : Int)) (ha : -2147483648 ≤ a ∧ a < 2147483648)
    (kt : a = 0 → mq_X p l e R s m args below meth c Q nL D z H0 cells slots M tgt L st) (kf : a ≠ 0 → mq_X p l e R s m args below meth c Q nL D z H0 cells slots M (pc + 3) L st) : mq_X p l e R s m args below meth c Q nL D z H0 cells slots M pc L (.int (zI a) :: st) := by
  have hb : -2147483648 ≤ (0 : Int) ∧ (0 : Int) < 2147483648 := by decide
  exact fun H locs la ws h1 h2 h3 h4 h5 h6 => lv_if_eq C.1.1 C.1.2.1 d ht (fun h => kt (by rw [← zI_0] at h; exact ((zI_eq ha hb).mp h)) H locs la ws h1 h2 h3 h4 h5 h6) (fun h => kf (by rw [← zI_0] at h; exact (fun q => h ((zI_eq ha hb).mpr q))) H locs la ws h1 h2 h3 h4 h5 h6)
theorem xr_icmp_ne (C : mq_C p m c cc nL s args Ts own D tys z) {a b : Int} {off : Int} {tgt : Nat} (d : decode cc pc = .ok (.if_icmp .ne off, 3)) (ht : (pc : Int) + off = (tgt : Int)) (ha : -2147483648 ≤ a ∧ a < 2147483648) (hb : -2147483648 ≤ b ∧ b < 2147483648)
    (kt : a ≠ b → mq_X p l e R s m args below meth c Q nL D z H0 cells slots M tgt L st) (kf : a = b → mq_X p l e R s m args below meth c Q nL D z H0 cells slots M (pc + 3) L st) : mq_X p l e R s m args below meth c Q nL D z H0 cells slots M pc L (.int (zI b) :: .int (zI a) :: st) :=
  fun H locs la ws h1 h2 h3 h4 h5 h6 => lv_icmp_ne C.1.1 C.1.2.1 d ht (fun h => kt (fun q => h ((zI_eq ha hb).mpr q)) H locs la ws h1 h2 h3 h4 h5 h6) (fun h => kf ((zI_eq ha hb).mp h) H locs la ws h1 h2 h3 h4 h5 h6)
theorem xr_if_ne (C : mq_C p m c cc nL s args Ts own D tys z) {a : Int} {off : Int} {tgt : Nat} (d : decode cc pc = .ok (.ifCond .ne off, 3)) (ht : (pc : Int) + off = (tgt : Int)) (ha : -2147483648 ≤ a ∧ a < 2147483648)
    (kt : a ≠ 0 → mq_X p l e R s m args below meth c Q nL D z H0 cells slots M tgt L st) (kf : a = 0 → mq_X p l e R s m args below meth c Q nL D z H0 cells slots M (pc + 3) L st) : mq_X p l e R s m args below meth c Q nL D z H0 cells slots M pc L (.int (zI a) :: st) := by
  have hb : -2147483648 ≤ (0 : Int) ∧ (0 : Int) < 2147483648 := by decide
  exact fun H locs la ws h1 h2 h3 h4 h5 h6 => lv_if_ne C.1.1 C.1.2.1 d ht (fun h => kt (by rw [← zI_0] at h; exact (fun q => h ((zI_eq ha hb).mpr q))) H locs la ws h1 h2 h3 h4 h5 h6) (fun h => kf (by rw [← zI_0] at h; exact ((zI_eq ha hb).mp h)) H locs la ws h1 h2 h3 h4 h5 h6)
theorem xr_icmp_lt (C : mq_C p m c cc nL s args Ts own D tys z) {a b : Int} {off : Int} {tgt : Nat} (d : decode cc pc = .ok (.if_icmp .lt off, 3)) (ht : (pc : Int) + off = (tgt : Int)) (ha : -2147483648 ≤ a ∧ a < 2147483648) (hb : -2147483648 ≤ b ∧ b < 2147483648)
    (kt : a < b → mq_X p l e R s m args below meth c Q nL D z H0 cells slots M tgt L st) (kf : b ≤ a → mq_X p l e R s m args below meth c Q nL D z H0 cells slots M (pc + 3) L st) : mq_X p l e R s m args below meth c Q nL D z H0 cells slots M pc L (.int (zI b) :: .int (zI a) :: st) :=
  fun H locs la ws h1 h2 h3 h4 h5 h6 => lv_icmp_lt C.1.1 C.1.2.1 d ht (fun h => kt ((zI_lt ha hb).mp h) H locs la ws h1 h2 h3 h4 h5 h6) (fun h => kf (Int.not_lt.mp fun q => h ((zI_lt ha hb).mpr q)) H locs la ws h1 h2 h3 h4 h5 h6)
theorem xr_if_lt (C : mq_C p m c cc nL s args Ts own D tys z) {a : Int} {off : Int} {tgt : Nat} (d : decode cc pc = .ok (.ifCond .lt off, 3)) (ht : (pc : Int) + off = (tgt : Int)) (ha : -2147483648 ≤ a ∧ a < 2147483648)
    (kt : a < 0 → mq_X p l e R s m args below meth c Q nL D z H0 cells slots M tgt L st) (kf : 0 ≤ a → mq_X p l e R s m args below meth c Q nL D z H0 cells slots M (pc + 3) L st) : mq_X p l e R s m args below meth c Q nL D z H0 cells slots M pc L (.int (zI a) :: st) := by
  have hb : -2147483648 ≤ (0 : Int) ∧ (0 : Int) < 2147483648 := by decide
  exact fun H locs la ws h1 h2 h3 h4 h5 h6 => lv_if_lt C.1.1 C.1.2.1 d ht (fun h => kt (by rw [← zI_0] at h; exact ((zI_lt ha hb).mp h)) H locs la ws h1 h2 h3 h4 h5 h6) (fun h => kf (by rw [← zI_0] at h; exact (Int.not_lt.mp fun q => h ((zI_lt ha hb).mpr q))) H locs la ws h1 h2 h3 h4 h5 h6)
theorem xr_icmp_ge (C : mq_C p m c cc nL s args Ts own D tys z) {a b : Int} {off : Int} {tgt : Nat} (d : decode cc pc = .ok (.if_icmp .ge off, 3)) (ht : (pc : Int) + off = (tgt : Int)) (ha : -2147483648 ≤ a ∧ a < 2147483648) (hb : -2147483648 ≤ b ∧ b < 2147483648)
    (kt : b ≤ a → mq_X p l e R s m args below meth c Q nL D z H0 cells slots M tgt L st) (kf : a < b → mq_X p l e R s m args below meth c Q nL D z H0 cells slots M (pc + 3) L st) : mq_X p l e R s m args below meth c Q nL D z H0 cells slots M pc L (.int (zI b) :: .int (zI a) :: st) :=
  fun H locs la ws h1 h2 h3 h4 h5 h6 => lv_icmp_ge C.1.1 C.1.2.1 d ht (fun h => kt ((zI_le hb ha).mp h) H locs la ws h1 h2 h3 h4 h5 h6) (fun h => kf (Int.not_le.mp fun q => h ((zI_le hb ha).mpr q)) H locs la ws h1 h2 h3 h4 h5 h6)
theorem xr_if_ge (C : mq_C p m c cc nL s args Ts own D tys z) {a : Int} {off : Int} {tgt : Nat} (d : decode cc pc = .ok (.ifCond .ge off, 3)) (ht : (pc : Int) + off = (tgt : Int)) (ha : -2147483648 ≤ a ∧ a < 2147483648)
    (kt : 0 ≤ a → mq_X p l e R s m args below meth c Q nL D z H0 cells slots M tgt L st) (kf : a < 0 → mq_X p l e R s m args below meth c Q nL D z H0 cells slots M (pc + 3) L st) : mq_X p l e R s m args below meth c Q nL D z H0 cells slots M pc L (.int (zI a) :: st) := by
  have hb : -2147483648 ≤ (0 : Int) ∧ (0 : Int) < 2147483648 := by decide
  exact fun H locs la ws h1 h2 h3 h4 h5 h6 => lv_if_ge C.1.1 C.1.2.1 d ht (fun h => kt (by rw [← zI_0] at h; exact ((zI_le hb ha).mp h)) H locs la ws h1 h2 h3 h4 h5 h6) (fun h => kf (by rw [← zI_0] at h; exact (Int.not_le.mp fun q => h ((zI_le hb ha).mpr q))) H locs la ws h1 h2 h3 h4 h5 h6)
theorem xr_icmp_gt (C : mq_C p m c cc nL s args Ts own D tys z) {a b : Int} {off : Int} {tgt : Nat} (d : decode cc pc = .ok (.if_icmp .gt off, 3)) (ht : (pc : Int) + off = (tgt : Int)) (ha : -2147483648 ≤ a ∧ a < 2147483648) (hb : -2147483648 ≤ b ∧ b < 2147483648)
    (kt : b < a → mq_X p l e R s m args below meth c Q nL D z H0 cells slots M tgt L st) (kf : a ≤ b → mq_X p l e R s m args below meth c Q nL D z H0 cells slots M (pc + 3) L st) : mq_X p l e R s m args below meth c Q nL D z H0 cells slots M pc L (.int (zI b) :: .int (zI a) :: st) :=
  fun H locs la ws h1 h2 h3 h4 h5 h6 => lv_icmp_gt C.1.1 C.1.2.1 d ht (fun h => kt ((zI_lt hb ha).mp h) H locs la ws h1 h2 h3 h4 h5 h6) (fun h => kf (Int.not_lt.mp fun q => h ((zI_lt hb ha).mpr q)) H locs la ws h1 h2 h3 h4 h5 h6)
theorem xr_if_gt (C : mq_C p m c cc nL s args Ts own D tys z) {a : Int} {off : Int} {tgt : Nat} (d : decode cc pc = .ok (.ifCond .gt off, 3)) (ht : (pc : Int) + off = (tgt : Int)) (ha : -2147483648 ≤ a ∧ a < 2147483648)
    (kt : 0 < a → mq_X p l e R s m args below meth c Q nL D z H0 cells slots M tgt L st) (kf : a ≤ 0 → mq_X p l e R s m args below meth c Q nL D z H0 cells slots M (pc + 3) L st) : mq_X p l e R s m args below meth c Q nL D z H0 cells slots M pc L (.int (zI a) :: st) := by
  have hb : -2147483648 ≤ (0 : Int) ∧ (0 : Int) < 2147483648 := by decide
  exact fun H locs la ws h1 h2 h3 h4 h5 h6 => lv_if_gt C.1.1 C.1.2.1 d ht (fun h => kt (by rw [← zI_0] at h; exact ((zI_lt hb ha).mp h)) H locs la ws h1 h2 h3 h4 h5 h6) (fun h => kf (by rw [← zI_0] at h; exact (Int.not_lt.mp fun q => h ((zI_lt hb ha).mpr q))) H locs la ws h1 h2 h3 h4 h5 h6)
theorem xr_icmp_le (C : mq_C p m c cc nL s args Ts own D tys z) {a b : Int} {off : Int} {tgt : Nat} (d : decode cc pc = .ok (.if_icmp .le off, 3)) (ht : (pc : Int) + off = (tgt : Int)) (ha : -2147483648 ≤ a ∧ a < 2147483648) (hb : -2147483648 ≤ b ∧ b < 2147483648)
    (kt : a ≤ b → mq_X p l e R s m args below meth c Q nL D z H0 cells slots M tgt L st) (kf : b < a → mq_X p l e R s m args below meth c Q nL D z H0 cells slots M (pc + 3) L st) : mq_X p l e R s m args below meth c Q nL D z H0 cells slots M pc L (.int (zI b) :: .int (zI a) :: st) :=
  fun H locs la ws h1 h2 h3 h4 h5 h6 => lv_icmp_le C.1.1 C.1.2.1 d ht (fun h => kt ((zI_le ha hb).mp h) H locs la ws h1 h2 h3 h4 h5 h6) (fun h => kf (Int.not_le.mp fun q => h ((zI_le ha hb).mpr q)) H locs la ws h1 h2 h3 h4 h5 h6)
theorem xr_if_le (C : mq_C p m c cc nL s args Ts own D tys z) {a : Int} {off : Int} {tgt : Nat} (d : decode cc pc = .ok (.ifCond .le off, 3)) (ht : (pc : Int) + off = (tgt : Int)) (ha : -2147483648 ≤ a ∧ a < 2147483648)
    (kt : a ≤ 0 → mq_X p l e R s m args below meth c Q nL D z H0 cells slots M tgt L st) (kf : 0 < a → mq_X p l e R s m args below meth c Q nL D z H0 cells slots M (pc + 3) L st) : mq_X p l e R s m args below meth c Q nL D z H0 cells slots M pc L (.int (zI a) :: st) := by
  have hb : -2147483648 ≤ (0 : Int) ∧ (0 : Int) < 2147483648 := by decide
  exact fun H locs la ws h1 h2 h3 h4 h5 h6 => lv_if_le C.1.1 C.1.2.1 d ht (fun h => kt (by rw [← zI_0] at h; exact ((zI_le ha hb).mp h)) H locs la ws h1 h2 h3 h4 h5 h6) (fun h => kf (by rw [← zI_0] at h; exact (Int.not_le.mp fun q => h ((zI_le ha hb).mpr q))) H locs la ws h1 h2 h3 h4 h5 h6)
theorem xr_ifnull_s (C : mq_C p m c cc nL s args Ts own D tys z) {x : Nat} {off : Int} (d : decode cc pc = .ok (.ifnull off, 3))
    (k : mq_X p l e R s m args below meth c Q nL D z H0 cells slots M (pc + 3) L st) : mq_X p l e R s m args below meth c Q nL D z H0 cells slots M pc L (.ref x :: st) :=
  fun H locs la ws h1 h2 h3 h4 h5 h6 => lv_ifnull C.1.1 C.1.2.1 d (k H locs la ws h1 h2 h3 h4 h5 h6)
theorem xr_ifnull_n (C : mq_C p m c cc nL s args Ts own D tys z) {off : Int} {tgt : Nat} (d : decode cc pc = .ok (.ifnull off, 3)) (ht : (pc : Int) + off = (tgt : Int))
    (k : mq_X p l e R s m args below meth c Q nL D z H0 cells slots M tgt L st) : mq_X p l e R s m args below meth c Q nL D z H0 cells slots M pc L (.null :: st) :=
  fun H locs la ws h1 h2 h3 h4 h5 h6 => lv_ifnullN C.1.1 C.1.2.1 d ht (k H locs la ws h1 h2 h3 h4 h5 h6)
theorem xr_ifnonnull_s (C : mq_C p m c cc nL s args Ts own D tys z) {x : Nat} {off : Int} {tgt : Nat} (d : decode cc pc = .ok (.ifnonnull off, 3)) (ht : (pc : Int) + off = (tgt : Int))
    (k : mq_X p l e R s m args below meth c Q nL D z H0 cells slots M tgt L st) : mq_X p l e R s m args below meth c Q nL D z H0 cells slots M pc L (.ref x :: st) :=
  fun H locs la ws h1 h2 h3 h4 h5 h6 => lv_ifnonnull C.1.1 C.1.2.1 d ht (k H locs la ws h1 h2 h3 h4 h5 h6)
theorem xr_ifnonnull_n (C : mq_C p m c cc nL s args Ts own D tys z) {off : Int} (d : decode cc pc = .ok (.ifnonnull off, 3))
    (k : mq_X p l e R s m args below meth c Q nL D z H0 cells slots M (pc + 3) L st) : mq_X p l e R s m args below meth c Q nL D z H0 cells slots M pc L (.null :: st) :=
  fun H locs la ws h1 h2 h3 h4 h5 h6 => lv_ifnonnullN C.1.1 C.1.2.1 d (k H locs la ws h1 h2 h3 h4 h5 h6)
theorem xr_acmp_eq_n (C : mq_C p m c cc nL s args Ts own D tys z) {x y : Nat} {off : Int} {tgt : Nat} (d : decode cc pc = .ok (.if_acmp .eq off, 3)) (ht : (pc : Int) + off = (tgt : Int)) (hne : y ≠ x)
    (k : mq_X p l e R s m args below meth c Q nL D z H0 cells slots M (pc + 3) L st) : mq_X p l e R s m args below meth c Q nL D z H0 cells slots M pc L (.ref y :: .ref x :: st) :=
  fun H locs la ws h1 h2 h3 h4 h5 h6 => lv_acmp_eq (rx := some x) (ry := some y) C.1.1 C.1.2.1 d ht (fun h => absurd (Option.some.inj h).symm hne) (fun _ => k H locs la ws h1 h2 h3 h4 h5 h6)
theorem xr_acmp_eq_y (C : mq_C p m c cc nL s args Ts own D tys z) {x : Nat} {off : Int} {tgt : Nat} (d : decode cc pc = .ok (.if_acmp .eq off, 3)) (ht : (pc : Int) + off = (tgt : Int))
    (k : mq_X p l e R s m args below meth c Q nL D z H0 cells slots M tgt L st) : mq_X p l e R s m args below meth c Q nL D z H0 cells slots M pc L (.ref x :: .ref x :: st) :=
  fun H locs la ws h1 h2 h3 h4 h5 h6 => lv_acmp_eq (rx := some x) (ry := some x) C.1.1 C.1.2.1 d ht (fun _ => k H locs la ws h1 h2 h3 h4 h5 h6) (fun h => absurd rfl h)
theorem xr_get (C : mq_C p m c cc nL s args Ts own D tys z) {ref Cn : String} {T : u_T} {N ci index : Nat} {fs : List Value} {a : Nat} (hin : ∀ w ∈ u_ws Cn T N, w ∈ Ts) (hM : M a = some (.inr (ci, fs))) (hc : vwCl[ci]? = some (Cn, T, N)) (i : Nat) (hi : i < N) (hlink : (Cond.fieldLink own index ref (T i).2.1 (T i).2.2.1).before args s = true) (hsame : ∀ x, s.fieldFound? (T i).1 (T i).2.1 (T i).2.2.1 = some x → s.fieldFound? ref (T i).2.1 (T i).2.2.1 = some x) {v : Value} (hv : fs[i]? = some v) (d : decode cc pc = .ok (.getfield index, 3))
    (k : mq_X p l e R s m args below meth c Q nL D z H0 cells slots M (pc + 3) L (v :: st)) : mq_X p l e R s m args below meth c Q nL D z H0 cells slots M pc L (.ref a :: st) :=
  fun H locs la ws h1 h2 h3 h4 h5 h6 => by
    obtain ⟨q, hq⟩ := h4.at hM
    exact va_get C.1.1 C.1.2.1 C.1.2.2.2.2 hin C.1.2.2.2.1 C.2.1 h2 q hq hc i hi hlink hsame hv d (k H locs la ws h1 h2 h3 h4 h5 h6)
theorem xr_put (C : mq_C p m c cc nL s args Ts own D tys z) {ref Cn : String} {T : u_T} {N ci index : Nat} {fs : List Value} {a : Nat} (hin : ∀ w ∈ u_ws Cn T N, w ∈ Ts) (hM : M a = some (.inr (ci, fs))) (hc : vwCl[ci]? = some (Cn, T, N)) (i : Nat) (hi : i < N) (ty0 : Nat → FieldType) (hty : ∀ k, k < N → parseFieldDescriptor (T k).2.2.1 = some (ty0 k)) (hnm : ∀ a, a < N → ∀ b, b < N → a ≠ b → (T a).2.1 ≠ (T b).2.1) (hlink : (Cond.fieldLink own index ref (T i).2.1 (T i).2.2.1).before args s = true) (hsame : ∀ x, s.fieldFound? (T i).1 (T i).2.1 (T i).2.2.1 = some x → s.fieldFound? ref (T i).2.1 (T i).2.2.1 = some x) (hfin : (T i).2.2.2 = false) {ty : FieldType} {v : Value} (hd : parseFieldDescriptor (T i).2.2.1 = some ty) (hn : narrow ty v = v) (hfit : fits ty v = true) (hl : i < fs.length) (d : decode cc pc = .ok (.putfield index, 3))
    (k : mq_X p l e R s m args below meth c Q nL D z H0 cells slots (mq_up M a (.inr (ci, fs.set i v))) (pc + 3) L st) : mq_X p l e R s m args below meth c Q nL D z H0 cells slots M pc L (v :: .ref a :: st) :=
  fun H locs la ws h1 h2 h3 h4 h5 h6 => by
    obtain ⟨q, hq⟩ := h4.at hM
    exact va_put C.1.1 C.1.2.1 C.1.2.2.2.2 hin ty0 hty hnm C.1.2.2.2.1 C.2.1 h2 h3 h5 q hq hc i hi hlink hsame hfin hd hn hfit hl d (fun H2 locs2 g2 g3 g5 => k H2 locs2 la _ h1 g2 g3 (h4.set h3 hq) g5 h6)
theorem xr_putF (C : mq_C p m c cc nL s args Ts own D tys z) {ref Cn : String} {T : u_T} {N ci index : Nat} {fs : List Value} {a : Nat} (hin : ∀ w ∈ u_ws Cn T N, w ∈ Ts) (hM : M a = some (.inr (ci, fs))) (hc : vwCl[ci]? = some (Cn, T, N)) (i : Nat) (hi : i < N) (ty0 : Nat → FieldType) (hty : ∀ k, k < N → parseFieldDescriptor (T k).2.2.1 = some (ty0 k)) (hnm : ∀ a, a < N → ∀ b, b < N → a ≠ b → (T a).2.1 ≠ (T b).2.1) (hlink : (Cond.fieldLink own index ref (T i).2.1 (T i).2.2.1).before args s = true) (hsame : ∀ x, s.fieldFound? (T i).1 (T i).2.1 (T i).2.2.1 = some x → s.fieldFound? ref (T i).2.1 (T i).2.2.1 = some x) (hfin : (T i).2.2.2 = true) (hin2 : meth.name = "<init>") (hdecl : (T i).1 = own) {ty : FieldType} {v : Value} (hd : parseFieldDescriptor (T i).2.2.1 = some ty) (hn : narrow ty v = v) (hfit : fits ty v = true) (hl : i < fs.length) (d : decode cc pc = .ok (.putfield index, 3))
    (k : mq_X p l e R s m args below meth c Q nL D z H0 cells slots (mq_up M a (.inr (ci, fs.set i v))) (pc + 3) L st) : mq_X p l e R s m args below meth c Q nL D z H0 cells slots M pc L (v :: .ref a :: st) :=
  fun H locs la ws h1 h2 h3 h4 h5 h6 => by
    obtain ⟨q, hq⟩ := h4.at hM
    exact va_putF C.1.1 C.1.2.1 C.1.2.2.2.2 hin ty0 hty hnm C.1.2.2.2.1 C.2.1 h2 h3 h5 q hq hc i hi hlink hsame hfin hin2 hdecl hd hn hfit hl d (fun H2 locs2 g2 g3 g5 => k H2 locs2 la _ h1 g2 g3 (h4.set h3 hq) g5 h6)
theorem xr_getN (C : mq_C p m c cc nL s args Ts own D tys z) {ref Cn : String} {T : u_T} {N ci index : Nat} {fs : List Value} {a : Nat} (hin : ∀ w ∈ u_ws Cn T N, w ∈ Ts) (hM : M a = some (.inr (ci, fs))) (hc : vwCl[ci]? = some (Cn, T, N)) (i : Nat) (hi : i < N) {host : String} (hlink : (Cond.fieldLinkNest own index ref (T i).2.1 (T i).2.2.1 host).before args s = true) (hsame : ∀ x, s.fieldFound? (T i).1 (T i).2.1 (T i).2.2.1 = some x → s.fieldFound? ref (T i).2.1 (T i).2.2.1 = some x) {v : Value} (hv : fs[i]? = some v) (d : decode cc pc = .ok (.getfield index, 3))
    (k : mq_X p l e R s m args below meth c Q nL D z H0 cells slots M (pc + 3) L (v :: st)) : mq_X p l e R s m args below meth c Q nL D z H0 cells slots M pc L (.ref a :: st) :=
  fun H locs la ws h1 h2 h3 h4 h5 h6 => by
    obtain ⟨q, hq⟩ := h4.at hM
    exact va_getN C.1.1 C.1.2.1 C.1.2.2.2.2 hin C.1.2.2.2.1 C.2.1 h2 q hq hc i hi hlink hsame hv d (k H locs la ws h1 h2 h3 h4 h5 h6)
theorem xr_putN (C : mq_C p m c cc nL s args Ts own D tys z) {ref Cn : String} {T : u_T} {N ci index : Nat} {fs : List Value} {a : Nat} (hin : ∀ w ∈ u_ws Cn T N, w ∈ Ts) (hM : M a = some (.inr (ci, fs))) (hc : vwCl[ci]? = some (Cn, T, N)) (i : Nat) (hi : i < N) (ty0 : Nat → FieldType) (hty : ∀ k, k < N → parseFieldDescriptor (T k).2.2.1 = some (ty0 k)) (hnm : ∀ a, a < N → ∀ b, b < N → a ≠ b → (T a).2.1 ≠ (T b).2.1) {host : String} (hlink : (Cond.fieldLinkNest own index ref (T i).2.1 (T i).2.2.1 host).before args s = true) (hsame : ∀ x, s.fieldFound? (T i).1 (T i).2.1 (T i).2.2.1 = some x → s.fieldFound? ref (T i).2.1 (T i).2.2.1 = some x) (hfin : (T i).2.2.2 = false) {ty : FieldType} {v : Value} (hd : parseFieldDescriptor (T i).2.2.1 = some ty) (hn : narrow ty v = v) (hfit : fits ty v = true) (hl : i < fs.length) (d : decode cc pc = .ok (.putfield index, 3))
    (k : mq_X p l e R s m args below meth c Q nL D z H0 cells slots (mq_up M a (.inr (ci, fs.set i v))) (pc + 3) L st) : mq_X p l e R s m args below meth c Q nL D z H0 cells slots M pc L (v :: .ref a :: st) :=
  fun H locs la ws h1 h2 h3 h4 h5 h6 => by
    obtain ⟨q, hq⟩ := h4.at hM
    exact va_putN C.1.1 C.1.2.1 C.1.2.2.2.2 hin ty0 hty hnm C.1.2.2.2.1 C.2.1 h2 h3 h5 q hq hc i hi hlink hsame hfin hd hn hfit hl d (fun H2 locs2 g2 g3 g5 => k H2 locs2 la _ h1 g2 g3 (h4.set h3 hq) g5 h6)
theorem xr_iald (C : mq_C p m c cc nL s args Ts own D tys z) {cA : ClassId} {n a : Nat} {f : Nat → Int32} {i : Int} (hM : M a = some (.inl (cA, n, .inl f))) (ht : (cA, FieldType.int) ∈ tys.1) (hi0 : 0 ≤ i) (hi1 : i < n) (hn : n < 2147483648) (d : decode cc pc = .ok (.iaload, 1))
    (k : mq_X p l e R s m args below meth c Q nL D z H0 cells slots M (pc + 1) L (.int (f i.toNat) :: st)) : mq_X p l e R s m args below meth c Q nL D z H0 cells slots M pc L (.int (zI i) :: .ref a :: st) :=
  fun H locs la ws h1 h2 h3 h4 h5 h6 => by
    obtain ⟨q, hq⟩ := h4.at hM
    obtain ⟨t0, ht0⟩ := List.getElem?_of_mem ht
    refine va_iald C.1.1 C.1.2.1 C.2.1 h2 q t0 hq ht0 (zI_in hi0 hi1 hn) d ?_
    rw [zI_clamp ⟨hi0, by omega⟩]
    exact k H locs la ws h1 h2 h3 h4 h5 h6
theorem xr_iast (C : mq_C p m c cc nL s args Ts own D tys z) {cA : ClassId} {n a : Nat} {f : Nat → Int32} {i : Int} {x : Int32} (hM : M a = some (.inl (cA, n, .inl f))) (ht : (cA, FieldType.int) ∈ tys.1) (hi0 : 0 ≤ i) (hi1 : i < n) (hn : n < 2147483648) (d : decode cc pc = .ok (.iastore, 1))
    (k : mq_X p l e R s m args below meth c Q nL D z H0 cells slots (mq_up M a (.inl (cA, n, .inl (upd f i.toNat x)))) (pc + 1) L st) : mq_X p l e R s m args below meth c Q nL D z H0 cells slots M pc L (.int x :: .int (zI i) :: .ref a :: st) :=
  fun H locs la ws h1 h2 h3 h4 h5 h6 => by
    obtain ⟨q, hq⟩ := h4.at hM
    obtain ⟨t0, ht0⟩ := List.getElem?_of_mem ht
    refine va_iast C.1.1 C.1.2.1 C.2.1 h2 h3 h5 q t0 hq ht0 (zI_in hi0 hi1 hn) d (fun H2 locs2 g2 g3 g5 => ?_)
    rw [zI_clamp ⟨hi0, by omega⟩] at g2 g3
    exact k H2 locs2 la _ h1 g2 g3 (h4.set h3 hq) g5 h6
theorem xr_aald (C : mq_C p m c cc nL s args Ts own D tys z) {cA : ClassId} {Cn : String} {n a : Nat} {f : Nat → Option Nat} {i : Int} (hM : M a = some (.inl (cA, n, .inr (.inr (.inr (.inr f)))))) (ht : (cA, FieldType.object Cn) ∈ tys.1) (hi0 : 0 ≤ i) (hi1 : i < n) (hn : n < 2147483648) (d : decode cc pc = .ok (.aaload, 1))
    (k : mq_X p l e R s m args below meth c Q nL D z H0 cells slots M (pc + 1) L (va_rf (f i.toNat) :: st)) : mq_X p l e R s m args below meth c Q nL D z H0 cells slots M pc L (.int (zI i) :: .ref a :: st) :=
  fun H locs la ws h1 h2 h3 h4 h5 h6 => by
    obtain ⟨q, hq⟩ := h4.at hM
    obtain ⟨t0, ht0⟩ := List.getElem?_of_mem ht
    refine va_aldq C.1.1 C.1.2.1 C.2.1 h2 q t0 hq ht0 (zI_in hi0 hi1 hn) d ?_
    rw [zI_clamp ⟨hi0, by omega⟩]
    exact k H locs la ws h1 h2 h3 h4 h5 h6
theorem xr_aast (C : mq_C p m c cc nL s args Ts own D tys z) {cA : ClassId} {r : vw_C} {n a v ci : Nat} {vs : List Value} {f : Nat → Option Nat} {i : Int} (hM : M a = some (.inl (cA, n, .inr (.inr (.inr (.inr f)))))) (ht : (cA, FieldType.object r.1) ∈ tys.1) (hv : M v = some (.inr (ci, vs))) (hc : vwCl[ci]? = some r) (hi0 : 0 ≤ i) (hi1 : i < n) (hn : n < 2147483648) (d : decode cc pc = .ok (.aastore, 1))
    (k : mq_X p l e R s m args below meth c Q nL D z H0 cells slots (mq_up M a (.inl (cA, n, .inr (.inr (.inr (.inr (va_up f i.toNat (some v)))))))) (pc + 1) L st) : mq_X p l e R s m args below meth c Q nL D z H0 cells slots M pc L (.ref v :: .int (zI i) :: .ref a :: st) :=
  fun H locs la ws h1 h2 h3 h4 h5 h6 => by
    obtain ⟨q, hq⟩ := h4.at hM
    obtain ⟨qv, hqv⟩ := h4.at hv
    obtain ⟨t0, ht0⟩ := List.getElem?_of_mem ht
    refine va_astq C.1.1 C.1.2.1 C.2.1 h2 h3 h5 q t0 qv ci hq ht0 hqv hc (zI_in hi0 hi1 hn) d (fun H2 locs2 g2 g3 g5 => ?_)
    rw [zI_clamp ⟨hi0, by omega⟩] at g2 g3
    exact k H2 locs2 la _ h1 g2 g3 (h4.set h3 hq) g5 h6
theorem xr_alen (C : mq_C p m c cc nL s args Ts own D tys z) {cA : ClassId} {x : vp_A} {a : Nat} {ty : FieldType} (hM : M a = some (.inl (cA, x))) (ht : (cA, ty) ∈ tys.1) (d : decode cc pc = .ok (.arraylength, 1))
    (k : mq_X p l e R s m args below meth c Q nL D z H0 cells slots M (pc + 1) L (.int (zI (x.1 : Int)) :: st)) : mq_X p l e R s m args below meth c Q nL D z H0 cells slots M pc L (.ref a :: st) :=
  fun H locs la ws h1 h2 h3 h4 h5 h6 => by
    obtain ⟨q, hq⟩ := h4.at hM
    obtain ⟨t0, ht0⟩ := List.getElem?_of_mem ht
    exact va_alen C.1.1 C.1.2.1 C.2.1 h2 q t0 hq ht0 (v := zI (x.1 : Int)) rfl d (k H locs la ws h1 h2 h3 h4 h5 h6)
theorem xr_objI (C : mq_C p m c cc nL s args Ts own D tys z) {idx a : Nat} (hlink : (Cond.methodLink own idx Lib.objectInit).before args s = true) (hinst : (Cond.instanceMethod Lib.objectInit).before args s = true) (hcode : (Cond.code Lib.objectInit ⟨#[0xb1]⟩ 1 none).before args s = true) (hf : 1 ≤ R.frames) (hl : (st.map fun v => v.category).sum + 12 ≤ R.locals) (d : decode cc pc = .ok (.invokespecial idx, 3))
    (k : mq_X p l e R s m args below meth c Q nL D z H0 cells slots M (pc + 3) L st) : mq_X p l e R s m args below meth c Q nL D z H0 cells slots M pc L (.ref a :: st) :=
  fun H locs la ws h1 h2 h3 h4 h5 h6 => by
    refine W.objInit C.1.1 C.1.2.1 C.1.2.2.2.1 hlink hinst hcode rfl (by rw [C.1.2.2.1]; exact h1.1) rfl d hf (by simpa using hl) ?_
    exact W.eq (g2 := F0 m (pc + 3) la st) rfl (k H locs la ws h1 h2 h3 h4 h5 h6)
theorem mq_tyEq {cA cB : ClassId} {ty : FieldType} (h1 : va_RA s cA ty) (h2 : va_RA s cB ty) : cA = cB := by
  cases ty with
  | object Cn =>
    obtain ⟨_, _, _, _, _, a4⟩ := h1
    obtain ⟨_, _, _, _, _, b4⟩ := h2
    exact Option.some.inj (a4.symm.trans b4)
  | _ => exact Option.some.inj (Eq.symm (h1 : s.vm.findClass _ = _) |>.trans h2)
theorem mq_tyK {cA cB : ClassId} {ty : FieldType} (h : (cB, ty) ∈ tys.1) (hK : va_K D vwCl tys.1 s) (hK2 : va_K D vwCl (tys.1 ++ [(cA, ty)]) s) : cA = cB := by
  obtain ⟨t0, ht0⟩ := List.getElem?_of_mem h
  exact mq_tyEq (hK2.2 tys.1.length (cA, ty) (by simp)).2 (hK.2 t0 _ ht0).2
theorem xr_newI (C : mq_C p m c cc nL s args Ts own D tys z) {k0 : Int} {cA : ClassId} (harr : (Cond.arrayClass .int).before args s = true) (ht : (cA, FieldType.int) ∈ tys.1) (hk : 0 ≤ k0 ∧ k0 < 100000000) (hc : cells + 1 ≤ R.cells) (hs : slots + k0.toNat ≤ R.slots) (d : decode cc pc = .ok (.newarray .int, 2))
    (k : ∀ q : Nat, M q = none → mq_X p l e R s m args below meth c Q nL D z H0 (cells + 1) (slots + k0.toNat) (mq_up M q (.inl (cA, k0.toNat, .inl (fun _ => 0)))) (pc + 2) L (.ref q :: st)) : mq_X p l e R s m args below meth c Q nL D z H0 cells slots M pc L (.int (zI k0) :: st) :=
  fun H locs la ws h1 h2 h3 h4 h5 h6 => by
    refine va_newa (atype := .int) (ty := .int) (N' := k0.toNat) (a0 := (k0.toNat, .inl (fun _ => 0))) C.1.1 C.1.2.1 harr rfl C.2.1 h2 h3 h5 (fun q hq => Nat.le_trans h6.1 hq) (fun _ => rfl) (by rw [← zI_0, zI_lt ⟨by omega, by omega⟩ (by decide)]; omega) (zI_clamp ⟨by omega, by omega⟩) (by show k0.toNat * 4 ≤ _; omega) hc hs d (fun q cB H2 gK g2 g3 g5 => ?_)
    have e1 := mq_tyK ht C.2.1 gK
    subst e1
    obtain ⟨hn, hI⟩ := h4.push g3
    exact k q hn H2 locs la _ h1 g2 g3 hI g5 h6
theorem xr_newR (C : mq_C p m c cc nL s args Ts own D tys z) {k0 : Int} {cA : ClassId} {Cn : String} {index : Nat} (hcl : (Cond.classLink own index Cn).before args s = true) (hna : Cn ∈ mq_na) (ht : (cA, FieldType.object Cn) ∈ tys.1) (hk : 0 ≤ k0 ∧ k0 < 100000000) (hc : cells + 1 ≤ R.cells) (hs : slots + k0.toNat ≤ R.slots) (d : decode cc pc = .ok (.anewarray index, 3))
    (k : ∀ q : Nat, M q = none → mq_X p l e R s m args below meth c Q nL D z H0 (cells + 1) (slots + k0.toNat) (mq_up M q (.inl (cA, k0.toNat, .inr (.inr (.inr (.inr (fun _ => none))))))) (pc + 3) L (.ref q :: st)) : mq_X p l e R s m args below meth c Q nL D z H0 cells slots M pc L (.int (zI k0) :: st) :=
  fun H locs la ws h1 h2 h3 h4 h5 h6 => by
    refine va_newq (N' := k0.toNat) C.1.1 C.1.2.1 C.1.2.2.2.1 hcl (C.2.2.2.2.1 Cn hna) C.2.1 h2 h3 h5 (fun q hq => Nat.le_trans h6.1 hq) (by rw [← zI_0, zI_lt ⟨by omega, by omega⟩ (by decide)]; omega) (zI_clamp ⟨by omega, by omega⟩) (by omega) hc hs d (fun q cB H2 gK g2 g3 g5 => ?_)
    have e1 := mq_tyK ht C.2.1 gK
    subst e1
    obtain ⟨hn, hI⟩ := h4.push g3
    exact k q hn H2 locs la _ h1 g2 g3 hI g5 h6
theorem xr_new (C : mq_C p m c cc nL s args Ts own D tys z) {Cn : String} {T : u_T} {N ci index : Nat} {fs : List Value} (hin : ∀ w ∈ u_ws Cn T N, w ∈ Ts) (ty : Nat → FieldType) (hty : ∀ k, k < N → parseFieldDescriptor (T k).2.2.1 = some (ty k)) (hcl : (Cond.classLink own index Cn).before args s = true) (hinst : (Cond.instantiable Cn N).before args s = true) (hini : (Cond.initialized Cn).before args s = true) (hc0 : vwCl[ci]? = some (Cn, T, N)) (hfs : ∀ j, j < N → defaultValue (ty j) = vp_V fs j) (hc : cells + 1 ≤ R.cells) (hs : slots + N ≤ R.slots) (d : decode cc pc = .ok (.new index, 3))
    (k : ∀ q : Nat, M q = none → mq_X p l e R s m args below meth c Q nL D z H0 (cells + 1) (slots + N) (mq_up M q (.inr (ci, fs))) (pc + 3) L (.ref q :: st)) : mq_X p l e R s m args below meth c Q nL D z H0 cells slots M pc L st :=
  fun H locs la ws h1 h2 h3 h4 h5 h6 => by
    refine va_new C.1.1 C.1.2.1 C.1.2.2.2.2 hin ty hty C.1.2.2.2.1 hcl hinst hini C.2.1 h2 h3 h5 (fun q hq => Nat.le_trans h6.1 hq) hc0 hfs hc hs d (fun q H2 g2 g3 g5 => ?_)
    obtain ⟨hn, hI⟩ := h4.push g3
    exact k q hn H2 locs la _ h1 g2 g3 hI g5 h6
theorem xr_min (C : mq_C p m c cc nL s args Ts own D tys z) {a b : Int} {index : Nat} (ha : -2147483648 ≤ a ∧ a < 2147483648) (hb : -2147483648 ≤ b ∧ b < 2147483648) (hlink : (Cond.methodLink own index Lib.Math.min.name).before args s = true) (hstat : (Cond.static Lib.Math.min.name).before args s = true) (hini : (Cond.initialized "java/lang/Math").before args s = true) (hcode : (Cond.code Lib.Math.min.name Lib.Math.min.code 2 (some .int)).before args s = true) (hf : 1 ≤ R.frames) (hl : (st.map fun v => v.category).sum + 13 ≤ R.locals) (hc : cells ≤ R.cells) (hs : slots ≤ R.slots) (d : decode cc pc = .ok (.invokestatic index, 3))
    (k : mq_X p l e R s m args below meth c Q nL D z H0 cells slots M (pc + 3) L (.int (zI (min a b)) :: st)) : mq_X p l e R s m args below meth c Q nL D z H0 cells slots M pc L (.int (zI b) :: .int (zI a) :: st) :=
  fun H locs la ws h1 h2 h3 h4 h5 h6 => by
    refine va_mmin C.1.1 C.1.2.1 (by rw [C.1.2.2.1]; exact h1.1.symm) C.1.2.2.2.1 hlink hstat hini hcode hf hl hc hs d ?_
    have e1 : (if zI b < zI a then zI b else zI a) = zI (min a b) := by
      split
      · rename_i h
        rw [zI_lt hb ha] at h
        exact congrArg zI (by omega)
      · rename_i h
        rw [zI_lt hb ha] at h
        exact congrArg zI (by omega)
    rw [e1]
    exact k H locs la ws h1 h2 h3 h4 h5 h6
theorem xr_max (C : mq_C p m c cc nL s args Ts own D tys z) {a b : Int} {index : Nat} (ha : -2147483648 ≤ a ∧ a < 2147483648) (hb : -2147483648 ≤ b ∧ b < 2147483648) (hlink : (Cond.methodLink own index Lib.Math.max.name).before args s = true) (hstat : (Cond.static Lib.Math.max.name).before args s = true) (hini : (Cond.initialized "java/lang/Math").before args s = true) (hcode : (Cond.code Lib.Math.max.name Lib.Math.max.code 2 (some .int)).before args s = true) (hf : 1 ≤ R.frames) (hl : (st.map fun v => v.category).sum + 13 ≤ R.locals) (hc : cells ≤ R.cells) (hs : slots ≤ R.slots) (d : decode cc pc = .ok (.invokestatic index, 3))
    (k : mq_X p l e R s m args below meth c Q nL D z H0 cells slots M (pc + 3) L (.int (zI (max a b)) :: st)) : mq_X p l e R s m args below meth c Q nL D z H0 cells slots M pc L (.int (zI b) :: .int (zI a) :: st) :=
  fun H locs la ws h1 h2 h3 h4 h5 h6 => by
    refine va_mmax C.1.1 C.1.2.1 (by rw [C.1.2.2.1]; exact h1.1.symm) C.1.2.2.2.1 hlink hstat hini hcode hf hl hc hs d ?_
    have e1 : (if zI a < zI b then zI b else zI a) = zI (max a b) := by
      split
      · rename_i h
        rw [zI_lt ha hb] at h
        exact congrArg zI (by omega)
      · rename_i h
        rw [zI_lt ha hb] at h
        exact congrArg zI (by omega)
    first | rw [e1] | (have e2 := e1; simp only [e2])
    exact k H locs la ws h1 h2 h3 h4 h5 h6
theorem mq_ren {a : Nat} {e0 : va_E} (k : ∀ M1 : mq_M, M1 = mq_up M a e0 → mq_X p l e R s m args below meth c Q nL D z H0 cells slots M1 pc L st) : mq_X p l e R s m args below meth c Q nL D z H0 cells slots (mq_up M a e0) pc L st := k _ rfl
/-- a loop: an invariant and a measure over the states x at the head -/
theorem mq_loop {σ : Type} (I : σ → Prop) (μ : σ → Nat) (fM : σ → mq_M) (fL : σ → List (Option Value)) (fs : σ → List Value)
    (hs : ∀ x, I x → (∀ y, I y → μ y < μ x → mq_X p l e R s m args below meth c Q nL D z H0 cells slots (fM y) pc (fL y) (fs y)) → mq_X p l e R s m args below meth c Q nL D z H0 cells slots (fM x) pc (fL x) (fs x)) :
    ∀ x, I x → mq_X p l e R s m args below meth c Q nL D z H0 cells slots (fM x) pc (fL x) (fs x) := by
  intro x
  generalize hn : μ x = n
  induction n using Nat.strongRecOn generalizing x with
  | ind n ih => exact fun hI => hs x hI (fun y hy hlt => ih (μ y) (hn ▸ hlt) y rfl hy)
theorem mq_eqL {L2 : List (Option Value)} {st2 : List Value} {pc2 : Nat} {M2 : mq_M} (hM : M = M2) (h : L = L2) (h2 : st = st2) (h3 : pc = pc2) (k : mq_X p l e R s m args below meth c Q nL D z H0 cells slots M2 pc2 L2 st2) : mq_X p l e R s m args below meth c Q nL D z H0 cells slots M pc L st := by
  subst hM; subst h; subst h2; subst h3; exact k
theorem mq_widen {k n : Nat} (h1 : cells ≤ k) (h2 : slots ≤ n) (kk : mq_X p l e R s m args below meth c Q nL D z H0 k n M pc L st) : mq_X p l e R s m args below meth c Q nL D z H0 cells slots M pc L st :=
  fun H locs la ws g1 g2 g3 g4 g5 g6 => W.widen h1 h2 (kk H locs la ws g1 g2 g3 g4 g5 g6)
theorem xr_iret (C : mq_C p m c cc nL s args Ts own D tys z) {v : Int32} {post : Option Value → mq_M → Prop} {mc ms : Nat} (hr : meth.sig.returnType = some .int) (hlk : meth.locks = false) (hp : post (some (.int v)) M) (hc : cells ≤ mc) (hs : slots ≤ ms) (d : decode cc pc = .ok (.ireturn, 1)) :
    mq_X p l e R s m args below meth c (MQ below (mq_Qc D z post) args s mc ms (fun q => z ≤ q)) nL D z s.heap cells slots M pc L [.int v] :=
  fun H locs la ws h1 h2 h3 h4 h5 h6 => W.widen hc hs (W.iret C.1.1 C.1.2.1 hr (fun t ht _ => ⟨⟨_, M, rfl, hp, ws, by rw [ht]; exact h2, h3, h4⟩, h5.F ht⟩) h5.2.2 d (hlocks := hlk))
theorem xr_lret (C : mq_C p m c cc nL s args Ts own D tys z) {v : Int64} {post : Option Value → mq_M → Prop} {mc ms : Nat} (hr : meth.sig.returnType = some .long) (hlk : meth.locks = false) (hp : post (some (.long v)) M) (hc : cells ≤ mc) (hs : slots ≤ ms) (d : decode cc pc = .ok (.lreturn, 1)) :
    mq_X p l e R s m args below meth c (MQ below (mq_Qc D z post) args s mc ms (fun q => z ≤ q)) nL D z s.heap cells slots M pc L [.long v] :=
  fun H locs la ws h1 h2 h3 h4 h5 h6 => W.widen hc hs (W.lret C.1.1 C.1.2.1 hr (fun t ht _ => ⟨⟨_, M, rfl, hp, ws, by rw [ht]; exact h2, h3, h4⟩, h5.F ht⟩) h5.2.2 d (hlocks := hlk))
theorem xr_zret (C : mq_C p m c cc nL s args Ts own D tys z) {v : Int32} {ty : FieldType} {post : Option Value → mq_M → Prop} {mc ms : Nat} (hr : meth.sig.returnType = some ty) (hn : narrow ty (.int v) = .int v) (hlk : meth.locks = false) (hp : post (some (.int v)) M) (hc : cells ≤ mc) (hs : slots ≤ ms) (d : decode cc pc = .ok (.ireturn, 1)) :
    mq_X p l e R s m args below meth c (MQ below (mq_Qc D z post) args s mc ms (fun q => z ≤ q)) nL D z s.heap cells slots M pc L [.int v] :=
  fun H locs la ws h1 h2 h3 h4 h5 h6 => W.widen hc hs (W.zret C.1.1 C.1.2.1 hr hn (fun t ht _ => ⟨⟨_, M, rfl, hp, ws, by rw [ht]; exact h2, h3, h4⟩, h5.F ht⟩) h5.2.2 d (hlocks := hlk))
theorem xr_vret (C : mq_C p m c cc nL s args Ts own D tys z) {post : Option Value → mq_M → Prop} {mc ms : Nat} (hr : meth.sig.returnType = none) (hlk : meth.locks = false) (hp : post none M) (hc : cells ≤ mc) (hs : slots ≤ ms) (d : decode cc pc = .ok (.return_, 1)) :
    mq_X p l e R s m args below meth c (MQ below (mq_Qc D z post) args s mc ms (fun q => z ≤ q)) nL D z s.heap cells slots M pc L [] :=
  fun H locs la ws h1 h2 h3 h4 h5 h6 => W.widen hc hs (W.vret C.1.1 C.1.2.1 hr (fun t ht _ => ⟨⟨_, M, rfl, hp, ws, by rw [ht]; exact h2, h3, h4⟩, h5.F ht⟩) h5.2.2 d (hlocks := hlk))
theorem xr_aret (C : mq_C p m c cc nL s args Ts own D tys z) {v : Option Nat} {rt : FieldType} {post : Option Value → mq_M → Prop} {mc ms : Nat} (hr : meth.sig.returnType = some rt) (hrt : (∃ n, rt = .object n) ∨ ∃ t, rt = .array t) (hlk : meth.locks = false) (hp : post (some (va_rf v)) M) (hc : cells ≤ mc) (hs : slots ≤ ms) (d : decode cc pc = .ok (.areturn, 1)) :
    mq_X p l e R s m args below meth c (MQ below (mq_Qc D z post) args s mc ms (fun q => z ≤ q)) nL D z s.heap cells slots M pc L [va_rf v] :=
  fun H locs la ws h1 h2 h3 h4 h5 h6 => W.widen hc hs (W.aret C.1.1 C.1.2.1 hr hrt (by cases v with | none => exact Or.inl rfl | some a => exact Or.inr ⟨a, rfl⟩) (fun t ht _ => ⟨⟨_, M, rfl, hp, ws, by rw [ht]; exact h2, h3, h4⟩, h5.F ht⟩) h5.2.2 d (hlocks := hlk))
theorem mq_callk {H : Heap} {locs : List Loc} {la : Array Slot} {mc ms : Nat} {st0 rest : List Value} {a : Array Value} {post : Option Value → mq_M → Prop}
    (hr : va_Run p l e R s m args below meth c H locs cells slots mc ms (F0 m pc la st0) rest (mq_Qc D z post a) (fun q => z ≤ q)) (hS : va_S (fun q => z ≤ q) H0 H locs)
    (kk : ∀ (v : Option Value) (M' : mq_M) (H1 : Heap) (locs1 : List Loc), post v M' → mq_H D z M' H1 → va_S (fun q => z ≤ q) H0 H1 locs1 → W p l e R s m args below meth c H1 locs1 (cells + mc) (slots + ms) Q (F0 m (pc + 3) la (v.toList ++ rest))) : W p l e R s m args below meth c H locs cells slots Q (F0 m pc la st0) := by
  intro T hT X
  obtain ⟨v, st₀, t, T', Lq, h0, X', hL, e1, e2, ⟨⟨w, M', hv, hp, hH⟩, hz, hk⟩, go⟩ := hr T hT X
  cases hv
  rw [h0] at hz hk
  obtain ⟨t2, a1, b1⟩ := kk v M' T'.heap (locs ++ Lq) hp (by rw [e1]; exact hH)
    ⟨Nat.le_trans hS.1 (by rw [e1]; exact hz), fun q h1 h2 => by rw [e1, hk q (Nat.lt_of_lt_of_le h1 hS.1) h2]; exact hS.2.1 q h1 h2, fun q hq => by
      rcases List.mem_append.mp hq with h | h
      · exact hS.2.2 q h
      · exact hL q h⟩ T' rfl X'
  exact ⟨t2, go t2 a1, b1⟩
theorem mq_blind {z : Nat} {av : List Value} : FrameBlind (va_Pc av (mq_Pr D tys z M)) := by
  intro a U g mk q
  obtain ⟨q0, q1, q2, qK⟩ := q
  exact ⟨q0, q1, q2, va_K.moved (u := U) (U := U.calling g mk a) (Vm.Alike.refl U.vm) qK.1, qK.2.same rfl rfl⟩
theorem mq_pre {H : Heap} {locs : List Loc} {ws : va_W} {av : List Value} (C : mq_C p m c cc nL s args Ts own D tys z) (h2 : va_P D vwCl ws H) (h3 : va_D (fun q => z ≤ q) ws) (h4 : mq_I M ws) (h5 : va_S (fun q => z ≤ q) H0 H locs) (h6 : z ≤ H0.size ∧ H0 = s.heap) : ∀ U : State, U.heap = H → s.WarmedH U.vm → va_Pc av (mq_Pr D tys z M) av.toArray U :=
  fun U hU hW => ⟨rfl, ⟨ws, by rw [hU]; exact h2, h3, h4⟩, by rw [hU]; exact Nat.le_trans h6.1 h5.1, va_K.moved hW.alike C.2.1, C.2.2.warm hW (fun q hq => by rw [hU, ← h6.2]; exact h5.2.1 q (Nat.lt_of_lt_of_le hq h6.1) (Nat.not_le.mpr hq))⟩
theorem mq_call {H : Heap} {locs : List Loc} {la : Array Slot} {mc ms : Nat} {st0 rest : List Value} {a : Array Value} {post : Option Value → mq_M → Prop} (h1 : mq_L la nL L) (h5 : va_S (fun q => z ≤ q) H0 H locs) (h6 : z ≤ H0.size ∧ H0 = s.heap)
    (hr : va_Run p l e R s m args below meth c H locs cells slots mc ms (F0 m pc la st0) rest (mq_Qc D z post a) (fun q => z ≤ q))
    (k : ∀ (v : Option Value) (M' : mq_M), post v M' → mq_X p l e R s m args below meth c Q nL D z H0 (cells + mc) (slots + ms) M' (pc + 3) L (v.toList ++ rest)) : W p l e R s m args below meth c H locs cells slots Q (F0 m pc la st0) :=
  mq_callk hr h5 fun v M' H1 locs1 hp hH hS => by
    obtain ⟨ws, g2, g3, g4⟩ := hH
    exact k v M' hp H1 locs1 la ws h1 g2 g3 g4 hS h6

theorem xr_callV0i (C : mq_C p m c cc nL s args Ts own D tys z) {y : MethodName} {bytes : ByteArray} {maxL index mc ms b ci : Nat} {ret : Option FieldType} {ws0 : List Cond} {rm : Room} {Cn : String} {T : u_T} {N : Nat} {fs : List Value}  {P : Int → mq_M → Prop}
    (hM : mq_Met l y ws0 rm D tys [.ref b] M (mq_pi P) mc ms) (cw : CallW R s args own Cn index y bytes maxL ret ws0 rm mc ms 0) (hb : M b = some (.inr (ci, fs))) (hc : vwCl[ci]? = some (Cn, T, N)) (hst : (st.map fun v => v.category).sum ≤ 8) (hf : cells + mc ≤ R.cells ∧ slots + ms ≤ R.slots) (d : decode cc pc = .ok (.invokevirtual index, 3))
    (k : ∀ (r : Int) (M2 : mq_M), P r M2 → mq_X p l e R s m args below meth c Q nL D z H0 (cells + mc) (slots + ms) M2 (pc + 3) L (.int (zI r) :: st)) : mq_X p l e R s m args below meth c Q nL D z H0 cells slots M pc L (.ref b :: st) :=
  fun H locs la ws h1 h2 h3 h4 h5 h6 => by
    obtain ⟨q, hq⟩ := h4.at hb
    exact mq_call h1 h5 h6 (va_runV (As := []) (rest := st) C.1 (hM z) cw ⟨mq_blind, va_recv C.2.1 h2 hc hq, mq_pre C h2 h3 h4 h5 h6⟩ rfl rfl h1.1 rfl (lv_room hst) d hf) (fun v M2 hp => by
      obtain ⟨r, rfl, hp⟩ := hp
      exact k r M2 hp)
theorem xr_callV0iN (C : mq_C p m c cc nL s args Ts own D tys z) {y : MethodName} {bytes : ByteArray} {maxL index mc ms b ci : Nat} {ret : Option FieldType} {ws0 : List Cond} {rm : Room} {Cn host : String} {T : u_T} {N : Nat} {fs : List Value}  {P : Int → mq_M → Prop}
    (hM : mq_Met l y ws0 rm D tys [.ref b] M (mq_pi P) mc ms) (cw : va_CN R s args own index y host bytes maxL ret ws0 rm mc ms 0 ∧ (Cond.instanceMethod y).before args s = true ∧ (Cond.selects Cn y y).before args s = true) (hb : M b = some (.inr (ci, fs))) (hc : vwCl[ci]? = some (Cn, T, N)) (hst : (st.map fun v => v.category).sum ≤ 8) (hf : cells + mc ≤ R.cells ∧ slots + ms ≤ R.slots) (d : decode cc pc = .ok (.invokevirtual index, 3))
    (k : ∀ (r : Int) (M2 : mq_M), P r M2 → mq_X p l e R s m args below meth c Q nL D z H0 (cells + mc) (slots + ms) M2 (pc + 3) L (.int (zI r) :: st)) : mq_X p l e R s m args below meth c Q nL D z H0 cells slots M pc L (.ref b :: st) :=
  fun H locs la ws h1 h2 h3 h4 h5 h6 => by
    obtain ⟨q, hq⟩ := h4.at hb
    exact mq_call h1 h5 h6 (va_runVN (As := []) (rest := st) C.1 (hM z) cw ⟨mq_blind, va_recv C.2.1 h2 hc hq, mq_pre C h2 h3 h4 h5 h6⟩ rfl rfl h1.1 rfl (lv_room hst) d hf) (fun v M2 hp => by
      obtain ⟨r, rfl, hp⟩ := hp
      exact k r M2 hp)
theorem xr_callS0i (C : mq_C p m c cc nL s args Ts own D tys z) {y : MethodName} {bytes : ByteArray} {maxL index mc ms : Nat} {ret : Option FieldType} {ws0 : List Cond} {rm : Room}  {P : Int → mq_M → Prop}
    (hM : mq_Met l y ws0 rm D tys [] M (mq_pi P) mc ms) (cw : CallB R s args own index y bytes maxL ret ws0 rm mc ms 0 ∧ (Cond.static y).before args s = true) (hst : (st.map fun v => v.category).sum ≤ 8) (hf : cells + mc ≤ R.cells ∧ slots + ms ≤ R.slots) (d : decode cc pc = .ok (.invokestatic index, 3))
    (k : ∀ (r : Int) (M2 : mq_M), P r M2 → mq_X p l e R s m args below meth c Q nL D z H0 (cells + mc) (slots + ms) M2 (pc + 3) L (.int (zI r) :: st)) : mq_X p l e R s m args below meth c Q nL D z H0 cells slots M pc L (st) :=
  fun H locs la ws h1 h2 h3 h4 h5 h6 =>
    mq_call h1 h5 h6 (va_runS (As := []) (rest := st) C.1 (hM z) cw ⟨mq_blind, mq_pre C h2 h3 h4 h5 h6⟩ rfl rfl h1.1 rfl (lv_room hst) d hf) (fun v M2 hp => by
      obtain ⟨r, rfl, hp⟩ := hp
      exact k r M2 hp)
theorem xr_callS0iN (C : mq_C p m c cc nL s args Ts own D tys z) {y : MethodName} {bytes : ByteArray} {maxL index mc ms : Nat} {ret : Option FieldType} {ws0 : List Cond} {rm : Room} {host : String}  {P : Int → mq_M → Prop}
    (hM : mq_Met l y ws0 rm D tys [] M (mq_pi P) mc ms) (cw : va_CN R s args own index y host bytes maxL ret ws0 rm mc ms 0 ∧ (Cond.static y).before args s = true ∧ True) (hst : (st.map fun v => v.category).sum ≤ 8) (hf : cells + mc ≤ R.cells ∧ slots + ms ≤ R.slots) (d : decode cc pc = .ok (.invokestatic index, 3))
    (k : ∀ (r : Int) (M2 : mq_M), P r M2 → mq_X p l e R s m args below meth c Q nL D z H0 (cells + mc) (slots + ms) M2 (pc + 3) L (.int (zI r) :: st)) : mq_X p l e R s m args below meth c Q nL D z H0 cells slots M pc L (st) :=
  fun H locs la ws h1 h2 h3 h4 h5 h6 =>
    mq_call h1 h5 h6 (va_runSN (As := []) (rest := st) C.1 (hM z) cw ⟨mq_blind, mq_pre C h2 h3 h4 h5 h6⟩ rfl rfl h1.1 rfl (lv_room hst) d hf) (fun v M2 hp => by
      obtain ⟨r, rfl, hp⟩ := hp
      exact k r M2 hp)
theorem xr_callV0v (C : mq_C p m c cc nL s args Ts own D tys z) {y : MethodName} {bytes : ByteArray} {maxL index mc ms b ci : Nat} {ret : Option FieldType} {ws0 : List Cond} {rm : Room} {Cn : String} {T : u_T} {N : Nat} {fs : List Value}  {P : mq_M → Prop}
    (hM : mq_Met l y ws0 rm D tys [.ref b] M (mq_pv P) mc ms) (cw : CallW R s args own Cn index y bytes maxL ret ws0 rm mc ms 0) (hb : M b = some (.inr (ci, fs))) (hc : vwCl[ci]? = some (Cn, T, N)) (hst : (st.map fun v => v.category).sum ≤ 8) (hf : cells + mc ≤ R.cells ∧ slots + ms ≤ R.slots) (d : decode cc pc = .ok (.invokevirtual index, 3))
    (k : ∀ (M2 : mq_M), P M2 → mq_X p l e R s m args below meth c Q nL D z H0 (cells + mc) (slots + ms) M2 (pc + 3) L st) : mq_X p l e R s m args below meth c Q nL D z H0 cells slots M pc L (.ref b :: st) :=
  fun H locs la ws h1 h2 h3 h4 h5 h6 => by
    obtain ⟨q, hq⟩ := h4.at hb
    exact mq_call h1 h5 h6 (va_runV (As := []) (rest := st) C.1 (hM z) cw ⟨mq_blind, va_recv C.2.1 h2 hc hq, mq_pre C h2 h3 h4 h5 h6⟩ rfl rfl h1.1 rfl (lv_room hst) d hf) (fun v M2 hp => by
      obtain ⟨rfl, hp⟩ := hp
      exact k M2 hp)
theorem xr_callV0vN (C : mq_C p m c cc nL s args Ts own D tys z) {y : MethodName} {bytes : ByteArray} {maxL index mc ms b ci : Nat} {ret : Option FieldType} {ws0 : List Cond} {rm : Room} {Cn host : String} {T : u_T} {N : Nat} {fs : List Value}  {P : mq_M → Prop}
    (hM : mq_Met l y ws0 rm D tys [.ref b] M (mq_pv P) mc ms) (cw : va_CN R s args own index y host bytes maxL ret ws0 rm mc ms 0 ∧ (Cond.instanceMethod y).before args s = true ∧ (Cond.selects Cn y y).before args s = true) (hb : M b = some (.inr (ci, fs))) (hc : vwCl[ci]? = some (Cn, T, N)) (hst : (st.map fun v => v.category).sum ≤ 8) (hf : cells + mc ≤ R.cells ∧ slots + ms ≤ R.slots) (d : decode cc pc = .ok (.invokevirtual index, 3))
    (k : ∀ (M2 : mq_M), P M2 → mq_X p l e R s m args below meth c Q nL D z H0 (cells + mc) (slots + ms) M2 (pc + 3) L st) : mq_X p l e R s m args below meth c Q nL D z H0 cells slots M pc L (.ref b :: st) :=
  fun H locs la ws h1 h2 h3 h4 h5 h6 => by
    obtain ⟨q, hq⟩ := h4.at hb
    exact mq_call h1 h5 h6 (va_runVN (As := []) (rest := st) C.1 (hM z) cw ⟨mq_blind, va_recv C.2.1 h2 hc hq, mq_pre C h2 h3 h4 h5 h6⟩ rfl rfl h1.1 rfl (lv_room hst) d hf) (fun v M2 hp => by
      obtain ⟨rfl, hp⟩ := hp
      exact k M2 hp)
theorem xr_callS0v (C : mq_C p m c cc nL s args Ts own D tys z) {y : MethodName} {bytes : ByteArray} {maxL index mc ms : Nat} {ret : Option FieldType} {ws0 : List Cond} {rm : Room}  {P : mq_M → Prop}
    (hM : mq_Met l y ws0 rm D tys [] M (mq_pv P) mc ms) (cw : CallB R s args own index y bytes maxL ret ws0 rm mc ms 0 ∧ (Cond.static y).before args s = true) (hst : (st.map fun v => v.category).sum ≤ 8) (hf : cells + mc ≤ R.cells ∧ slots + ms ≤ R.slots) (d : decode cc pc = .ok (.invokestatic index, 3))
    (k : ∀ (M2 : mq_M), P M2 → mq_X p l e R s m args below meth c Q nL D z H0 (cells + mc) (slots + ms) M2 (pc + 3) L st) : mq_X p l e R s m args below meth c Q nL D z H0 cells slots M pc L (st) :=
  fun H locs la ws h1 h2 h3 h4 h5 h6 =>
    mq_call h1 h5 h6 (va_runS (As := []) (rest := st) C.1 (hM z) cw ⟨mq_blind, mq_pre C h2 h3 h4 h5 h6⟩ rfl rfl h1.1 rfl (lv_room hst) d hf) (fun v M2 hp => by
      obtain ⟨rfl, hp⟩ := hp
      exact k M2 hp)
theorem xr_callS0vN (C : mq_C p m c cc nL s args Ts own D tys z) {y : MethodName} {bytes : ByteArray} {maxL index mc ms : Nat} {ret : Option FieldType} {ws0 : List Cond} {rm : Room} {host : String}  {P : mq_M → Prop}
    (hM : mq_Met l y ws0 rm D tys [] M (mq_pv P) mc ms) (cw : va_CN R s args own index y host bytes maxL ret ws0 rm mc ms 0 ∧ (Cond.static y).before args s = true ∧ True) (hst : (st.map fun v => v.category).sum ≤ 8) (hf : cells + mc ≤ R.cells ∧ slots + ms ≤ R.slots) (d : decode cc pc = .ok (.invokestatic index, 3))
    (k : ∀ (M2 : mq_M), P M2 → mq_X p l e R s m args below meth c Q nL D z H0 (cells + mc) (slots + ms) M2 (pc + 3) L st) : mq_X p l e R s m args below meth c Q nL D z H0 cells slots M pc L (st) :=
  fun H locs la ws h1 h2 h3 h4 h5 h6 =>
    mq_call h1 h5 h6 (va_runSN (As := []) (rest := st) C.1 (hM z) cw ⟨mq_blind, mq_pre C h2 h3 h4 h5 h6⟩ rfl rfl h1.1 rfl (lv_room hst) d hf) (fun v M2 hp => by
      obtain ⟨rfl, hp⟩ := hp
      exact k M2 hp)
theorem xr_callI0 (C : mq_C p m c cc nL s args Ts own D tys z) {y : MethodName} {bytes : ByteArray} {maxL index mc ms b : Nat} {ws0 : List Cond} {rm : Room}  {P : mq_M → Prop}
    (hM : mq_Met l y ws0 rm D tys [.ref b] M (mq_pv P) mc ms) (cw : CallB R s args own index y bytes maxL none ws0 rm mc ms 0 ∧ y.name = "<init>" ∧ (Cond.instanceMethod y).before args s = true) (hst : (st.map fun v => v.category).sum ≤ 8) (hf : cells + mc ≤ R.cells ∧ slots + ms ≤ R.slots) (d : decode cc pc = .ok (.invokespecial index, 3))
    (k : ∀ (M2 : mq_M), P M2 → mq_X p l e R s m args below meth c Q nL D z H0 (cells + mc) (slots + ms) M2 (pc + 3) L st) : mq_X p l e R s m args below meth c Q nL D z H0 cells slots M pc L (.ref b :: st) :=
  fun H locs la ws h1 h2 h3 h4 h5 h6 =>
    mq_call h1 h5 h6 (va_runI (As := []) (rest := st) C.1 (hM z) cw ⟨mq_blind, mq_pre C h2 h3 h4 h5 h6⟩ rfl rfl h1.1 rfl (lv_room hst) d hf) (fun v M2 hp => by
      obtain ⟨rfl, hp⟩ := hp
      exact k M2 hp)
theorem xr_callI0N (C : mq_C p m c cc nL s args Ts own D tys z) {y : MethodName} {bytes : ByteArray} {maxL index mc ms b : Nat} {ws0 : List Cond} {rm : Room} {host : String}  {P : mq_M → Prop}
    (hM : mq_Met l y ws0 rm D tys [.ref b] M (mq_pv P) mc ms) (cw : va_CN R s args own index y host bytes maxL none ws0 rm mc ms 0 ∧ y.name = "<init>" ∧ (Cond.instanceMethod y).before args s = true) (hst : (st.map fun v => v.category).sum ≤ 8) (hf : cells + mc ≤ R.cells ∧ slots + ms ≤ R.slots) (d : decode cc pc = .ok (.invokespecial index, 3))
    (k : ∀ (M2 : mq_M), P M2 → mq_X p l e R s m args below meth c Q nL D z H0 (cells + mc) (slots + ms) M2 (pc + 3) L st) : mq_X p l e R s m args below meth c Q nL D z H0 cells slots M pc L (.ref b :: st) :=
  fun H locs la ws h1 h2 h3 h4 h5 h6 =>
    mq_call h1 h5 h6 (va_runIN (As := []) (rest := st) C.1 (hM z) cw ⟨mq_blind, mq_pre C h2 h3 h4 h5 h6⟩ rfl rfl h1.1 rfl (lv_room hst) d hf) (fun v M2 hp => by
      obtain ⟨rfl, hp⟩ := hp
      exact k M2 hp)
theorem xr_callV0l (C : mq_C p m c cc nL s args Ts own D tys z) {y : MethodName} {bytes : ByteArray} {maxL index mc ms b ci : Nat} {ret : Option FieldType} {ws0 : List Cond} {rm : Room} {Cn : String} {T : u_T} {N : Nat} {fs : List Value}  {P : Int64 → mq_M → Prop}
    (hM : mq_Met l y ws0 rm D tys [.ref b] M (mq_pl P) mc ms) (cw : CallW R s args own Cn index y bytes maxL ret ws0 rm mc ms 0) (hb : M b = some (.inr (ci, fs))) (hc : vwCl[ci]? = some (Cn, T, N)) (hst : (st.map fun v => v.category).sum ≤ 8) (hf : cells + mc ≤ R.cells ∧ slots + ms ≤ R.slots) (d : decode cc pc = .ok (.invokevirtual index, 3))
    (k : ∀ (r : Int64) (M2 : mq_M), P r M2 → mq_X p l e R s m args below meth c Q nL D z H0 (cells + mc) (slots + ms) M2 (pc + 3) L (.long r :: st)) : mq_X p l e R s m args below meth c Q nL D z H0 cells slots M pc L (.ref b :: st) :=
  fun H locs la ws h1 h2 h3 h4 h5 h6 => by
    obtain ⟨q, hq⟩ := h4.at hb
    exact mq_call h1 h5 h6 (va_runV (As := []) (rest := st) C.1 (hM z) cw ⟨mq_blind, va_recv C.2.1 h2 hc hq, mq_pre C h2 h3 h4 h5 h6⟩ rfl rfl h1.1 rfl (lv_room hst) d hf) (fun v M2 hp => by
      obtain ⟨r, rfl, hp⟩ := hp
      exact k r M2 hp)
theorem xr_callV0lN (C : mq_C p m c cc nL s args Ts own D tys z) {y : MethodName} {bytes : ByteArray} {maxL index mc ms b ci : Nat} {ret : Option FieldType} {ws0 : List Cond} {rm : Room} {Cn host : String} {T : u_T} {N : Nat} {fs : List Value}  {P : Int64 → mq_M → Prop}
    (hM : mq_Met l y ws0 rm D tys [.ref b] M (mq_pl P) mc ms) (cw : va_CN R s args own index y host bytes maxL ret ws0 rm mc ms 0 ∧ (Cond.instanceMethod y).before args s = true ∧ (Cond.selects Cn y y).before args s = true) (hb : M b = some (.inr (ci, fs))) (hc : vwCl[ci]? = some (Cn, T, N)) (hst : (st.map fun v => v.category).sum ≤ 8) (hf : cells + mc ≤ R.cells ∧ slots + ms ≤ R.slots) (d : decode cc pc = .ok (.invokevirtual index, 3))
    (k : ∀ (r : Int64) (M2 : mq_M), P r M2 → mq_X p l e R s m args below meth c Q nL D z H0 (cells + mc) (slots + ms) M2 (pc + 3) L (.long r :: st)) : mq_X p l e R s m args below meth c Q nL D z H0 cells slots M pc L (.ref b :: st) :=
  fun H locs la ws h1 h2 h3 h4 h5 h6 => by
    obtain ⟨q, hq⟩ := h4.at hb
    exact mq_call h1 h5 h6 (va_runVN (As := []) (rest := st) C.1 (hM z) cw ⟨mq_blind, va_recv C.2.1 h2 hc hq, mq_pre C h2 h3 h4 h5 h6⟩ rfl rfl h1.1 rfl (lv_room hst) d hf) (fun v M2 hp => by
      obtain ⟨r, rfl, hp⟩ := hp
      exact k r M2 hp)
theorem xr_callS0l (C : mq_C p m c cc nL s args Ts own D tys z) {y : MethodName} {bytes : ByteArray} {maxL index mc ms : Nat} {ret : Option FieldType} {ws0 : List Cond} {rm : Room}  {P : Int64 → mq_M → Prop}
    (hM : mq_Met l y ws0 rm D tys [] M (mq_pl P) mc ms) (cw : CallB R s args own index y bytes maxL ret ws0 rm mc ms 0 ∧ (Cond.static y).before args s = true) (hst : (st.map fun v => v.category).sum ≤ 8) (hf : cells + mc ≤ R.cells ∧ slots + ms ≤ R.slots) (d : decode cc pc = .ok (.invokestatic index, 3))
    (k : ∀ (r : Int64) (M2 : mq_M), P r M2 → mq_X p l e R s m args below meth c Q nL D z H0 (cells + mc) (slots + ms) M2 (pc + 3) L (.long r :: st)) : mq_X p l e R s m args below meth c Q nL D z H0 cells slots M pc L (st) :=
  fun H locs la ws h1 h2 h3 h4 h5 h6 =>
    mq_call h1 h5 h6 (va_runS (As := []) (rest := st) C.1 (hM z) cw ⟨mq_blind, mq_pre C h2 h3 h4 h5 h6⟩ rfl rfl h1.1 rfl (lv_room hst) d hf) (fun v M2 hp => by
      obtain ⟨r, rfl, hp⟩ := hp
      exact k r M2 hp)
theorem xr_callS0lN (C : mq_C p m c cc nL s args Ts own D tys z) {y : MethodName} {bytes : ByteArray} {maxL index mc ms : Nat} {ret : Option FieldType} {ws0 : List Cond} {rm : Room} {host : String}  {P : Int64 → mq_M → Prop}
    (hM : mq_Met l y ws0 rm D tys [] M (mq_pl P) mc ms) (cw : va_CN R s args own index y host bytes maxL ret ws0 rm mc ms 0 ∧ (Cond.static y).before args s = true ∧ True) (hst : (st.map fun v => v.category).sum ≤ 8) (hf : cells + mc ≤ R.cells ∧ slots + ms ≤ R.slots) (d : decode cc pc = .ok (.invokestatic index, 3))
    (k : ∀ (r : Int64) (M2 : mq_M), P r M2 → mq_X p l e R s m args below meth c Q nL D z H0 (cells + mc) (slots + ms) M2 (pc + 3) L (.long r :: st)) : mq_X p l e R s m args below meth c Q nL D z H0 cells slots M pc L (st) :=
  fun H locs la ws h1 h2 h3 h4 h5 h6 =>
    mq_call h1 h5 h6 (va_runSN (As := []) (rest := st) C.1 (hM z) cw ⟨mq_blind, mq_pre C h2 h3 h4 h5 h6⟩ rfl rfl h1.1 rfl (lv_room hst) d hf) (fun v M2 hp => by
      obtain ⟨r, rfl, hp⟩ := hp
      exact k r M2 hp)
theorem xr_callV0a (C : mq_C p m c cc nL s args Ts own D tys z) {y : MethodName} {bytes : ByteArray} {maxL index mc ms b ci : Nat} {ret : Option FieldType} {ws0 : List Cond} {rm : Room} {Cn : String} {T : u_T} {N : Nat} {fs : List Value}  {P : Nat → mq_M → Prop}
    (hM : mq_Met l y ws0 rm D tys [.ref b] M (mq_pa P) mc ms) (cw : CallW R s args own Cn index y bytes maxL ret ws0 rm mc ms 0) (hb : M b = some (.inr (ci, fs))) (hc : vwCl[ci]? = some (Cn, T, N)) (hst : (st.map fun v => v.category).sum ≤ 8) (hf : cells + mc ≤ R.cells ∧ slots + ms ≤ R.slots) (d : decode cc pc = .ok (.invokevirtual index, 3))
    (k : ∀ (r : Nat) (M2 : mq_M), P r M2 → mq_X p l e R s m args below meth c Q nL D z H0 (cells + mc) (slots + ms) M2 (pc + 3) L (.ref r :: st)) : mq_X p l e R s m args below meth c Q nL D z H0 cells slots M pc L (.ref b :: st) :=
  fun H locs la ws h1 h2 h3 h4 h5 h6 => by
    obtain ⟨q, hq⟩ := h4.at hb
    exact mq_call h1 h5 h6 (va_runV (As := []) (rest := st) C.1 (hM z) cw ⟨mq_blind, va_recv C.2.1 h2 hc hq, mq_pre C h2 h3 h4 h5 h6⟩ rfl rfl h1.1 rfl (lv_room hst) d hf) (fun v M2 hp => by
      obtain ⟨r, rfl, hp⟩ := hp
      exact k r M2 hp)
theorem xr_callV0aN (C : mq_C p m c cc nL s args Ts own D tys z) {y : MethodName} {bytes : ByteArray} {maxL index mc ms b ci : Nat} {ret : Option FieldType} {ws0 : List Cond} {rm : Room} {Cn host : String} {T : u_T} {N : Nat} {fs : List Value}  {P : Nat → mq_M → Prop}
    (hM : mq_Met l y ws0 rm D tys [.ref b] M (mq_pa P) mc ms) (cw : va_CN R s args own index y host bytes maxL ret ws0 rm mc ms 0 ∧ (Cond.instanceMethod y).before args s = true ∧ (Cond.selects Cn y y).before args s = true) (hb : M b = some (.inr (ci, fs))) (hc : vwCl[ci]? = some (Cn, T, N)) (hst : (st.map fun v => v.category).sum ≤ 8) (hf : cells + mc ≤ R.cells ∧ slots + ms ≤ R.slots) (d : decode cc pc = .ok (.invokevirtual index, 3))
    (k : ∀ (r : Nat) (M2 : mq_M), P r M2 → mq_X p l e R s m args below meth c Q nL D z H0 (cells + mc) (slots + ms) M2 (pc + 3) L (.ref r :: st)) : mq_X p l e R s m args below meth c Q nL D z H0 cells slots M pc L (.ref b :: st) :=
  fun H locs la ws h1 h2 h3 h4 h5 h6 => by
    obtain ⟨q, hq⟩ := h4.at hb
    exact mq_call h1 h5 h6 (va_runVN (As := []) (rest := st) C.1 (hM z) cw ⟨mq_blind, va_recv C.2.1 h2 hc hq, mq_pre C h2 h3 h4 h5 h6⟩ rfl rfl h1.1 rfl (lv_room hst) d hf) (fun v M2 hp => by
      obtain ⟨r, rfl, hp⟩ := hp
      exact k r M2 hp)
theorem xr_callS0a (C : mq_C p m c cc nL s args Ts own D tys z) {y : MethodName} {bytes : ByteArray} {maxL index mc ms : Nat} {ret : Option FieldType} {ws0 : List Cond} {rm : Room}  {P : Nat → mq_M → Prop}
    (hM : mq_Met l y ws0 rm D tys [] M (mq_pa P) mc ms) (cw : CallB R s args own index y bytes maxL ret ws0 rm mc ms 0 ∧ (Cond.static y).before args s = true) (hst : (st.map fun v => v.category).sum ≤ 8) (hf : cells + mc ≤ R.cells ∧ slots + ms ≤ R.slots) (d : decode cc pc = .ok (.invokestatic index, 3))
    (k : ∀ (r : Nat) (M2 : mq_M), P r M2 → mq_X p l e R s m args below meth c Q nL D z H0 (cells + mc) (slots + ms) M2 (pc + 3) L (.ref r :: st)) : mq_X p l e R s m args below meth c Q nL D z H0 cells slots M pc L (st) :=
  fun H locs la ws h1 h2 h3 h4 h5 h6 =>
    mq_call h1 h5 h6 (va_runS (As := []) (rest := st) C.1 (hM z) cw ⟨mq_blind, mq_pre C h2 h3 h4 h5 h6⟩ rfl rfl h1.1 rfl (lv_room hst) d hf) (fun v M2 hp => by
      obtain ⟨r, rfl, hp⟩ := hp
      exact k r M2 hp)
theorem xr_callS0aN (C : mq_C p m c cc nL s args Ts own D tys z) {y : MethodName} {bytes : ByteArray} {maxL index mc ms : Nat} {ret : Option FieldType} {ws0 : List Cond} {rm : Room} {host : String}  {P : Nat → mq_M → Prop}
    (hM : mq_Met l y ws0 rm D tys [] M (mq_pa P) mc ms) (cw : va_CN R s args own index y host bytes maxL ret ws0 rm mc ms 0 ∧ (Cond.static y).before args s = true ∧ True) (hst : (st.map fun v => v.category).sum ≤ 8) (hf : cells + mc ≤ R.cells ∧ slots + ms ≤ R.slots) (d : decode cc pc = .ok (.invokestatic index, 3))
    (k : ∀ (r : Nat) (M2 : mq_M), P r M2 → mq_X p l e R s m args below meth c Q nL D z H0 (cells + mc) (slots + ms) M2 (pc + 3) L (.ref r :: st)) : mq_X p l e R s m args below meth c Q nL D z H0 cells slots M pc L (st) :=
  fun H locs la ws h1 h2 h3 h4 h5 h6 =>
    mq_call h1 h5 h6 (va_runSN (As := []) (rest := st) C.1 (hM z) cw ⟨mq_blind, mq_pre C h2 h3 h4 h5 h6⟩ rfl rfl h1.1 rfl (lv_room hst) d hf) (fun v M2 hp => by
      obtain ⟨r, rfl, hp⟩ := hp
      exact k r M2 hp)
theorem xr_callV0n (C : mq_C p m c cc nL s args Ts own D tys z) {y : MethodName} {bytes : ByteArray} {maxL index mc ms b ci : Nat} {ret : Option FieldType} {ws0 : List Cond} {rm : Room} {Cn : String} {T : u_T} {N : Nat} {fs : List Value}  {P : mq_M → Prop}
    (hM : mq_Met l y ws0 rm D tys [.ref b] M (mq_pn P) mc ms) (cw : CallW R s args own Cn index y bytes maxL ret ws0 rm mc ms 0) (hb : M b = some (.inr (ci, fs))) (hc : vwCl[ci]? = some (Cn, T, N)) (hst : (st.map fun v => v.category).sum ≤ 8) (hf : cells + mc ≤ R.cells ∧ slots + ms ≤ R.slots) (d : decode cc pc = .ok (.invokevirtual index, 3))
    (k : ∀ (M2 : mq_M), P M2 → mq_X p l e R s m args below meth c Q nL D z H0 (cells + mc) (slots + ms) M2 (pc + 3) L (.null :: st)) : mq_X p l e R s m args below meth c Q nL D z H0 cells slots M pc L (.ref b :: st) :=
  fun H locs la ws h1 h2 h3 h4 h5 h6 => by
    obtain ⟨q, hq⟩ := h4.at hb
    exact mq_call h1 h5 h6 (va_runV (As := []) (rest := st) C.1 (hM z) cw ⟨mq_blind, va_recv C.2.1 h2 hc hq, mq_pre C h2 h3 h4 h5 h6⟩ rfl rfl h1.1 rfl (lv_room hst) d hf) (fun v M2 hp => by
      obtain ⟨rfl, hp⟩ := hp
      exact k M2 hp)
theorem xr_callV0nN (C : mq_C p m c cc nL s args Ts own D tys z) {y : MethodName} {bytes : ByteArray} {maxL index mc ms b ci : Nat} {ret : Option FieldType} {ws0 : List Cond} {rm : Room} {Cn host : String} {T : u_T} {N : Nat} {fs : List Value}  {P : mq_M → Prop}
    (hM : mq_Met l y ws0 rm D tys [.ref b] M (mq_pn P) mc ms) (cw : va_CN R s args own index y host bytes maxL ret ws0 rm mc ms 0 ∧ (Cond.instanceMethod y).before args s = true ∧ (Cond.selects Cn y y).before args s = true) (hb : M b = some (.inr (ci, fs))) (hc : vwCl[ci]? = some (Cn, T, N)) (hst : (st.map fun v => v.category).sum ≤ 8) (hf : cells + mc ≤ R.cells ∧ slots + ms ≤ R.slots) (d : decode cc pc = .ok (.invokevirtual index, 3))
    (k : ∀ (M2 : mq_M), P M2 → mq_X p l e R s m args below meth c Q nL D z H0 (cells + mc) (slots + ms) M2 (pc + 3) L (.null :: st)) : mq_X p l e R s m args below meth c Q nL D z H0 cells slots M pc L (.ref b :: st) :=
  fun H locs la ws h1 h2 h3 h4 h5 h6 => by
    obtain ⟨q, hq⟩ := h4.at hb
    exact mq_call h1 h5 h6 (va_runVN (As := []) (rest := st) C.1 (hM z) cw ⟨mq_blind, va_recv C.2.1 h2 hc hq, mq_pre C h2 h3 h4 h5 h6⟩ rfl rfl h1.1 rfl (lv_room hst) d hf) (fun v M2 hp => by
      obtain ⟨rfl, hp⟩ := hp
      exact k M2 hp)
theorem xr_callS0n (C : mq_C p m c cc nL s args Ts own D tys z) {y : MethodName} {bytes : ByteArray} {maxL index mc ms : Nat} {ret : Option FieldType} {ws0 : List Cond} {rm : Room}  {P : mq_M → Prop}
    (hM : mq_Met l y ws0 rm D tys [] M (mq_pn P) mc ms) (cw : CallB R s args own index y bytes maxL ret ws0 rm mc ms 0 ∧ (Cond.static y).before args s = true) (hst : (st.map fun v => v.category).sum ≤ 8) (hf : cells + mc ≤ R.cells ∧ slots + ms ≤ R.slots) (d : decode cc pc = .ok (.invokestatic index, 3))
    (k : ∀ (M2 : mq_M), P M2 → mq_X p l e R s m args below meth c Q nL D z H0 (cells + mc) (slots + ms) M2 (pc + 3) L (.null :: st)) : mq_X p l e R s m args below meth c Q nL D z H0 cells slots M pc L (st) :=
  fun H locs la ws h1 h2 h3 h4 h5 h6 =>
    mq_call h1 h5 h6 (va_runS (As := []) (rest := st) C.1 (hM z) cw ⟨mq_blind, mq_pre C h2 h3 h4 h5 h6⟩ rfl rfl h1.1 rfl (lv_room hst) d hf) (fun v M2 hp => by
      obtain ⟨rfl, hp⟩ := hp
      exact k M2 hp)
theorem xr_callS0nN (C : mq_C p m c cc nL s args Ts own D tys z) {y : MethodName} {bytes : ByteArray} {maxL index mc ms : Nat} {ret : Option FieldType} {ws0 : List Cond} {rm : Room} {host : String}  {P : mq_M → Prop}
    (hM : mq_Met l y ws0 rm D tys [] M (mq_pn P) mc ms) (cw : va_CN R s args own index y host bytes maxL ret ws0 rm mc ms 0 ∧ (Cond.static y).before args s = true ∧ True) (hst : (st.map fun v => v.category).sum ≤ 8) (hf : cells + mc ≤ R.cells ∧ slots + ms ≤ R.slots) (d : decode cc pc = .ok (.invokestatic index, 3))
    (k : ∀ (M2 : mq_M), P M2 → mq_X p l e R s m args below meth c Q nL D z H0 (cells + mc) (slots + ms) M2 (pc + 3) L (.null :: st)) : mq_X p l e R s m args below meth c Q nL D z H0 cells slots M pc L (st) :=
  fun H locs la ws h1 h2 h3 h4 h5 h6 =>
    mq_call h1 h5 h6 (va_runSN (As := []) (rest := st) C.1 (hM z) cw ⟨mq_blind, mq_pre C h2 h3 h4 h5 h6⟩ rfl rfl h1.1 rfl (lv_room hst) d hf) (fun v M2 hp => by
      obtain ⟨rfl, hp⟩ := hp
      exact k M2 hp)
theorem xr_callV0r (C : mq_C p m c cc nL s args Ts own D tys z) {y : MethodName} {bytes : ByteArray} {maxL index mc ms b ci : Nat} {ret : Option FieldType} {ws0 : List Cond} {rm : Room} {Cn : String} {T : u_T} {N : Nat} {fs : List Value}  {P : Option Nat → mq_M → Prop}
    (hM : mq_Met l y ws0 rm D tys [.ref b] M (mq_pr P) mc ms) (cw : CallW R s args own Cn index y bytes maxL ret ws0 rm mc ms 0) (hb : M b = some (.inr (ci, fs))) (hc : vwCl[ci]? = some (Cn, T, N)) (hst : (st.map fun v => v.category).sum ≤ 8) (hf : cells + mc ≤ R.cells ∧ slots + ms ≤ R.slots) (d : decode cc pc = .ok (.invokevirtual index, 3))
    (k : ∀ (r : Option Nat) (M2 : mq_M), P r M2 → mq_X p l e R s m args below meth c Q nL D z H0 (cells + mc) (slots + ms) M2 (pc + 3) L (va_rf r :: st)) : mq_X p l e R s m args below meth c Q nL D z H0 cells slots M pc L (.ref b :: st) :=
  fun H locs la ws h1 h2 h3 h4 h5 h6 => by
    obtain ⟨q, hq⟩ := h4.at hb
    exact mq_call h1 h5 h6 (va_runV (As := []) (rest := st) C.1 (hM z) cw ⟨mq_blind, va_recv C.2.1 h2 hc hq, mq_pre C h2 h3 h4 h5 h6⟩ rfl rfl h1.1 rfl (lv_room hst) d hf) (fun v M2 hp => by
      obtain ⟨r, rfl, hp⟩ := hp
      exact k r M2 hp)
theorem xr_callV0rN (C : mq_C p m c cc nL s args Ts own D tys z) {y : MethodName} {bytes : ByteArray} {maxL index mc ms b ci : Nat} {ret : Option FieldType} {ws0 : List Cond} {rm : Room} {Cn host : String} {T : u_T} {N : Nat} {fs : List Value}  {P : Option Nat → mq_M → Prop}
    (hM : mq_Met l y ws0 rm D tys [.ref b] M (mq_pr P) mc ms) (cw : va_CN R s args own index y host bytes maxL ret ws0 rm mc ms 0 ∧ (Cond.instanceMethod y).before args s = true ∧ (Cond.selects Cn y y).before args s = true) (hb : M b = some (.inr (ci, fs))) (hc : vwCl[ci]? = some (Cn, T, N)) (hst : (st.map fun v => v.category).sum ≤ 8) (hf : cells + mc ≤ R.cells ∧ slots + ms ≤ R.slots) (d : decode cc pc = .ok (.invokevirtual index, 3))
    (k : ∀ (r : Option Nat) (M2 : mq_M), P r M2 → mq_X p l e R s m args below meth c Q nL D z H0 (cells + mc) (slots + ms) M2 (pc + 3) L (va_rf r :: st)) : mq_X p l e R s m args below meth c Q nL D z H0 cells slots M pc L (.ref b :: st) :=
  fun H locs la ws h1 h2 h3 h4 h5 h6 => by
    obtain ⟨q, hq⟩ := h4.at hb
    exact mq_call h1 h5 h6 (va_runVN (As := []) (rest := st) C.1 (hM z) cw ⟨mq_blind, va_recv C.2.1 h2 hc hq, mq_pre C h2 h3 h4 h5 h6⟩ rfl rfl h1.1 rfl (lv_room hst) d hf) (fun v M2 hp => by
      obtain ⟨r, rfl, hp⟩ := hp
      exact k r M2 hp)
theorem xr_callS0r (C : mq_C p m c cc nL s args Ts own D tys z) {y : MethodName} {bytes : ByteArray} {maxL index mc ms : Nat} {ret : Option FieldType} {ws0 : List Cond} {rm : Room}  {P : Option Nat → mq_M → Prop}
    (hM : mq_Met l y ws0 rm D tys [] M (mq_pr P) mc ms) (cw : CallB R s args own index y bytes maxL ret ws0 rm mc ms 0 ∧ (Cond.static y).before args s = true) (hst : (st.map fun v => v.category).sum ≤ 8) (hf : cells + mc ≤ R.cells ∧ slots + ms ≤ R.slots) (d : decode cc pc = .ok (.invokestatic index, 3))
    (k : ∀ (r : Option Nat) (M2 : mq_M), P r M2 → mq_X p l e R s m args below meth c Q nL D z H0 (cells + mc) (slots + ms) M2 (pc + 3) L (va_rf r :: st)) : mq_X p l e R s m args below meth c Q nL D z H0 cells slots M pc L (st) :=
  fun H locs la ws h1 h2 h3 h4 h5 h6 =>
    mq_call h1 h5 h6 (va_runS (As := []) (rest := st) C.1 (hM z) cw ⟨mq_blind, mq_pre C h2 h3 h4 h5 h6⟩ rfl rfl h1.1 rfl (lv_room hst) d hf) (fun v M2 hp => by
      obtain ⟨r, rfl, hp⟩ := hp
      exact k r M2 hp)
theorem xr_callS0rN (C : mq_C p m c cc nL s args Ts own D tys z) {y : MethodName} {bytes : ByteArray} {maxL index mc ms : Nat} {ret : Option FieldType} {ws0 : List Cond} {rm : Room} {host : String}  {P : Option Nat → mq_M → Prop}
    (hM : mq_Met l y ws0 rm D tys [] M (mq_pr P) mc ms) (cw : va_CN R s args own index y host bytes maxL ret ws0 rm mc ms 0 ∧ (Cond.static y).before args s = true ∧ True) (hst : (st.map fun v => v.category).sum ≤ 8) (hf : cells + mc ≤ R.cells ∧ slots + ms ≤ R.slots) (d : decode cc pc = .ok (.invokestatic index, 3))
    (k : ∀ (r : Option Nat) (M2 : mq_M), P r M2 → mq_X p l e R s m args below meth c Q nL D z H0 (cells + mc) (slots + ms) M2 (pc + 3) L (va_rf r :: st)) : mq_X p l e R s m args below meth c Q nL D z H0 cells slots M pc L (st) :=
  fun H locs la ws h1 h2 h3 h4 h5 h6 =>
    mq_call h1 h5 h6 (va_runSN (As := []) (rest := st) C.1 (hM z) cw ⟨mq_blind, mq_pre C h2 h3 h4 h5 h6⟩ rfl rfl h1.1 rfl (lv_room hst) d hf) (fun v M2 hp => by
      obtain ⟨r, rfl, hp⟩ := hp
      exact k r M2 hp)
theorem xr_callV1i (C : mq_C p m c cc nL s args Ts own D tys z) {y : MethodName} {bytes : ByteArray} {maxL index mc ms b ci : Nat} {ret : Option FieldType} {ws0 : List Cond} {rm : Room} {Cn : String} {T : u_T} {N : Nat} {fs : List Value} {a0 : Value} {P : Int → mq_M → Prop}
    (hM : mq_Met l y ws0 rm D tys [.ref b, a0] M (mq_pi P) mc ms) (cw : CallW R s args own Cn index y bytes maxL ret ws0 rm mc ms 1) (hb : M b = some (.inr (ci, fs))) (hc : vwCl[ci]? = some (Cn, T, N)) (hst : (st.map fun v => v.category).sum ≤ 8) (hf : cells + mc ≤ R.cells ∧ slots + ms ≤ R.slots) (d : decode cc pc = .ok (.invokevirtual index, 3))
    (k : ∀ (r : Int) (M2 : mq_M), P r M2 → mq_X p l e R s m args below meth c Q nL D z H0 (cells + mc) (slots + ms) M2 (pc + 3) L (.int (zI r) :: st)) : mq_X p l e R s m args below meth c Q nL D z H0 cells slots M pc L (a0 :: .ref b :: st) :=
  fun H locs la ws h1 h2 h3 h4 h5 h6 => by
    obtain ⟨q, hq⟩ := h4.at hb
    exact mq_call h1 h5 h6 (va_runV (As := [a0]) (rest := st) C.1 (hM z) cw ⟨mq_blind, va_recv C.2.1 h2 hc hq, mq_pre C h2 h3 h4 h5 h6⟩ rfl rfl h1.1 rfl (lv_room hst) d hf) (fun v M2 hp => by
      obtain ⟨r, rfl, hp⟩ := hp
      exact k r M2 hp)
theorem xr_callV1iN (C : mq_C p m c cc nL s args Ts own D tys z) {y : MethodName} {bytes : ByteArray} {maxL index mc ms b ci : Nat} {ret : Option FieldType} {ws0 : List Cond} {rm : Room} {Cn host : String} {T : u_T} {N : Nat} {fs : List Value} {a0 : Value} {P : Int → mq_M → Prop}
    (hM : mq_Met l y ws0 rm D tys [.ref b, a0] M (mq_pi P) mc ms) (cw : va_CN R s args own index y host bytes maxL ret ws0 rm mc ms 1 ∧ (Cond.instanceMethod y).before args s = true ∧ (Cond.selects Cn y y).before args s = true) (hb : M b = some (.inr (ci, fs))) (hc : vwCl[ci]? = some (Cn, T, N)) (hst : (st.map fun v => v.category).sum ≤ 8) (hf : cells + mc ≤ R.cells ∧ slots + ms ≤ R.slots) (d : decode cc pc = .ok (.invokevirtual index, 3))
    (k : ∀ (r : Int) (M2 : mq_M), P r M2 → mq_X p l e R s m args below meth c Q nL D z H0 (cells + mc) (slots + ms) M2 (pc + 3) L (.int (zI r) :: st)) : mq_X p l e R s m args below meth c Q nL D z H0 cells slots M pc L (a0 :: .ref b :: st) :=
  fun H locs la ws h1 h2 h3 h4 h5 h6 => by
    obtain ⟨q, hq⟩ := h4.at hb
    exact mq_call h1 h5 h6 (va_runVN (As := [a0]) (rest := st) C.1 (hM z) cw ⟨mq_blind, va_recv C.2.1 h2 hc hq, mq_pre C h2 h3 h4 h5 h6⟩ rfl rfl h1.1 rfl (lv_room hst) d hf) (fun v M2 hp => by
      obtain ⟨r, rfl, hp⟩ := hp
      exact k r M2 hp)
theorem xr_callS1i (C : mq_C p m c cc nL s args Ts own D tys z) {y : MethodName} {bytes : ByteArray} {maxL index mc ms : Nat} {ret : Option FieldType} {ws0 : List Cond} {rm : Room} {a0 : Value} {P : Int → mq_M → Prop}
    (hM : mq_Met l y ws0 rm D tys [a0] M (mq_pi P) mc ms) (cw : CallB R s args own index y bytes maxL ret ws0 rm mc ms 1 ∧ (Cond.static y).before args s = true) (hst : (st.map fun v => v.category).sum ≤ 8) (hf : cells + mc ≤ R.cells ∧ slots + ms ≤ R.slots) (d : decode cc pc = .ok (.invokestatic index, 3))
    (k : ∀ (r : Int) (M2 : mq_M), P r M2 → mq_X p l e R s m args below meth c Q nL D z H0 (cells + mc) (slots + ms) M2 (pc + 3) L (.int (zI r) :: st)) : mq_X p l e R s m args below meth c Q nL D z H0 cells slots M pc L (a0 :: st) :=
  fun H locs la ws h1 h2 h3 h4 h5 h6 =>
    mq_call h1 h5 h6 (va_runS (As := [a0]) (rest := st) C.1 (hM z) cw ⟨mq_blind, mq_pre C h2 h3 h4 h5 h6⟩ rfl rfl h1.1 rfl (lv_room hst) d hf) (fun v M2 hp => by
      obtain ⟨r, rfl, hp⟩ := hp
      exact k r M2 hp)
theorem xr_callS1iN (C : mq_C p m c cc nL s args Ts own D tys z) {y : MethodName} {bytes : ByteArray} {maxL index mc ms : Nat} {ret : Option FieldType} {ws0 : List Cond} {rm : Room} {host : String} {a0 : Value} {P : Int → mq_M → Prop}
    (hM : mq_Met l y ws0 rm D tys [a0] M (mq_pi P) mc ms) (cw : va_CN R s args own index y host bytes maxL ret ws0 rm mc ms 1 ∧ (Cond.static y).before args s = true ∧ True) (hst : (st.map fun v => v.category).sum ≤ 8) (hf : cells + mc ≤ R.cells ∧ slots + ms ≤ R.slots) (d : decode cc pc = .ok (.invokestatic index, 3))
    (k : ∀ (r : Int) (M2 : mq_M), P r M2 → mq_X p l e R s m args below meth c Q nL D z H0 (cells + mc) (slots + ms) M2 (pc + 3) L (.int (zI r) :: st)) : mq_X p l e R s m args below meth c Q nL D z H0 cells slots M pc L (a0 :: st) :=
  fun H locs la ws h1 h2 h3 h4 h5 h6 =>
    mq_call h1 h5 h6 (va_runSN (As := [a0]) (rest := st) C.1 (hM z) cw ⟨mq_blind, mq_pre C h2 h3 h4 h5 h6⟩ rfl rfl h1.1 rfl (lv_room hst) d hf) (fun v M2 hp => by
      obtain ⟨r, rfl, hp⟩ := hp
      exact k r M2 hp)
theorem xr_callV1v (C : mq_C p m c cc nL s args Ts own D tys z) {y : MethodName} {bytes : ByteArray} {maxL index mc ms b ci : Nat} {ret : Option FieldType} {ws0 : List Cond} {rm : Room} {Cn : String} {T : u_T} {N : Nat} {fs : List Value} {a0 : Value} {P : mq_M → Prop}
    (hM : mq_Met l y ws0 rm D tys [.ref b, a0] M (mq_pv P) mc ms) (cw : CallW R s args own Cn index y bytes maxL ret ws0 rm mc ms 1) (hb : M b = some (.inr (ci, fs))) (hc : vwCl[ci]? = some (Cn, T, N)) (hst : (st.map fun v => v.category).sum ≤ 8) (hf : cells + mc ≤ R.cells ∧ slots + ms ≤ R.slots) (d : decode cc pc = .ok (.invokevirtual index, 3))
    (k : ∀ (M2 : mq_M), P M2 → mq_X p l e R s m args below meth c Q nL D z H0 (cells + mc) (slots + ms) M2 (pc + 3) L st) : mq_X p l e R s m args below meth c Q nL D z H0 cells slots M pc L (a0 :: .ref b :: st) :=
  fun H locs la ws h1 h2 h3 h4 h5 h6 => by
    obtain ⟨q, hq⟩ := h4.at hb
    exact mq_call h1 h5 h6 (va_runV (As := [a0]) (rest := st) C.1 (hM z) cw ⟨mq_blind, va_recv C.2.1 h2 hc hq, mq_pre C h2 h3 h4 h5 h6⟩ rfl rfl h1.1 rfl (lv_room hst) d hf) (fun v M2 hp => by
      obtain ⟨rfl, hp⟩ := hp
      exact k M2 hp)
theorem xr_callV1vN (C : mq_C p m c cc nL s args Ts own D tys z) {y : MethodName} {bytes : ByteArray} {maxL index mc ms b ci : Nat} {ret : Option FieldType} {ws0 : List Cond} {rm : Room} {Cn host : String} {T : u_T} {N : Nat} {fs : List Value} {a0 : Value} {P : mq_M → Prop}
    (hM : mq_Met l y ws0 rm D tys [.ref b, a0] M (mq_pv P) mc ms) (cw : va_CN R s args own index y host bytes maxL ret ws0 rm mc ms 1 ∧ (Cond.instanceMethod y).before args s = true ∧ (Cond.selects Cn y y).before args s = true) (hb : M b = some (.inr (ci, fs))) (hc : vwCl[ci]? = some (Cn, T, N)) (hst : (st.map fun v => v.category).sum ≤ 8) (hf : cells + mc ≤ R.cells ∧ slots + ms ≤ R.slots) (d : decode cc pc = .ok (.invokevirtual index, 3))
    (k : ∀ (M2 : mq_M), P M2 → mq_X p l e R s m args below meth c Q nL D z H0 (cells + mc) (slots + ms) M2 (pc + 3) L st) : mq_X p l e R s m args below meth c Q nL D z H0 cells slots M pc L (a0 :: .ref b :: st) :=
  fun H locs la ws h1 h2 h3 h4 h5 h6 => by
    obtain ⟨q, hq⟩ := h4.at hb
    exact mq_call h1 h5 h6 (va_runVN (As := [a0]) (rest := st) C.1 (hM z) cw ⟨mq_blind, va_recv C.2.1 h2 hc hq, mq_pre C h2 h3 h4 h5 h6⟩ rfl rfl h1.1 rfl (lv_room hst) d hf) (fun v M2 hp => by
      obtain ⟨rfl, hp⟩ := hp
      exact k M2 hp)
theorem xr_callS1v (C : mq_C p m c cc nL s args Ts own D tys z) {y : MethodName} {bytes : ByteArray} {maxL index mc ms : Nat} {ret : Option FieldType} {ws0 : List Cond} {rm : Room} {a0 : Value} {P : mq_M → Prop}
    (hM : mq_Met l y ws0 rm D tys [a0] M (mq_pv P) mc ms) (cw : CallB R s args own index y bytes maxL ret ws0 rm mc ms 1 ∧ (Cond.static y).before args s = true) (hst : (st.map fun v => v.category).sum ≤ 8) (hf : cells + mc ≤ R.cells ∧ slots + ms ≤ R.slots) (d : decode cc pc = .ok (.invokestatic index, 3))
    (k : ∀ (M2 : mq_M), P M2 → mq_X p l e R s m args below meth c Q nL D z H0 (cells + mc) (slots + ms) M2 (pc + 3) L st) : mq_X p l e R s m args below meth c Q nL D z H0 cells slots M pc L (a0 :: st) :=
  fun H locs la ws h1 h2 h3 h4 h5 h6 =>
    mq_call h1 h5 h6 (va_runS (As := [a0]) (rest := st) C.1 (hM z) cw ⟨mq_blind, mq_pre C h2 h3 h4 h5 h6⟩ rfl rfl h1.1 rfl (lv_room hst) d hf) (fun v M2 hp => by
      obtain ⟨rfl, hp⟩ := hp
      exact k M2 hp)
theorem xr_callS1vN (C : mq_C p m c cc nL s args Ts own D tys z) {y : MethodName} {bytes : ByteArray} {maxL index mc ms : Nat} {ret : Option FieldType} {ws0 : List Cond} {rm : Room} {host : String} {a0 : Value} {P : mq_M → Prop}
    (hM : mq_Met l y ws0 rm D tys [a0] M (mq_pv P) mc ms) (cw : va_CN R s args own index y host bytes maxL ret ws0 rm mc ms 1 ∧ (Cond.static y).before args s = true ∧ True) (hst : (st.map fun v => v.category).sum ≤ 8) (hf : cells + mc ≤ R.cells ∧ slots + ms ≤ R.slots) (d : decode cc pc = .ok (.invokestatic index, 3))
    (k : ∀ (M2 : mq_M), P M2 → mq_X p l e R s m args below meth c Q nL D z H0 (cells + mc) (slots + ms) M2 (pc + 3) L st) : mq_X p l e R s m args below meth c Q nL D z H0 cells slots M pc L (a0 :: st) :=
  fun H locs la ws h1 h2 h3 h4 h5 h6 =>
    mq_call h1 h5 h6 (va_runSN (As := [a0]) (rest := st) C.1 (hM z) cw ⟨mq_blind, mq_pre C h2 h3 h4 h5 h6⟩ rfl rfl h1.1 rfl (lv_room hst) d hf) (fun v M2 hp => by
      obtain ⟨rfl, hp⟩ := hp
      exact k M2 hp)
theorem xr_callI1 (C : mq_C p m c cc nL s args Ts own D tys z) {y : MethodName} {bytes : ByteArray} {maxL index mc ms b : Nat} {ws0 : List Cond} {rm : Room} {a0 : Value} {P : mq_M → Prop}
    (hM : mq_Met l y ws0 rm D tys [.ref b, a0] M (mq_pv P) mc ms) (cw : CallB R s args own index y bytes maxL none ws0 rm mc ms 1 ∧ y.name = "<init>" ∧ (Cond.instanceMethod y).before args s = true) (hst : (st.map fun v => v.category).sum ≤ 8) (hf : cells + mc ≤ R.cells ∧ slots + ms ≤ R.slots) (d : decode cc pc = .ok (.invokespecial index, 3))
    (k : ∀ (M2 : mq_M), P M2 → mq_X p l e R s m args below meth c Q nL D z H0 (cells + mc) (slots + ms) M2 (pc + 3) L st) : mq_X p l e R s m args below meth c Q nL D z H0 cells slots M pc L (a0 :: .ref b :: st) :=
  fun H locs la ws h1 h2 h3 h4 h5 h6 =>
    mq_call h1 h5 h6 (va_runI (As := [a0]) (rest := st) C.1 (hM z) cw ⟨mq_blind, mq_pre C h2 h3 h4 h5 h6⟩ rfl rfl h1.1 rfl (lv_room hst) d hf) (fun v M2 hp => by
      obtain ⟨rfl, hp⟩ := hp
      exact k M2 hp)
theorem xr_callI1N (C : mq_C p m c cc nL s args Ts own D tys z) {y : MethodName} {bytes : ByteArray} {maxL index mc ms b : Nat} {ws0 : List Cond} {rm : Room} {host : String} {a0 : Value} {P : mq_M → Prop}
    (hM : mq_Met l y ws0 rm D tys [.ref b, a0] M (mq_pv P) mc ms) (cw : va_CN R s args own index y host bytes maxL none ws0 rm mc ms 1 ∧ y.name = "<init>" ∧ (Cond.instanceMethod y).before args s = true) (hst : (st.map fun v => v.category).sum ≤ 8) (hf : cells + mc ≤ R.cells ∧ slots + ms ≤ R.slots) (d : decode cc pc = .ok (.invokespecial index, 3))
    (k : ∀ (M2 : mq_M), P M2 → mq_X p l e R s m args below meth c Q nL D z H0 (cells + mc) (slots + ms) M2 (pc + 3) L st) : mq_X p l e R s m args below meth c Q nL D z H0 cells slots M pc L (a0 :: .ref b :: st) :=
  fun H locs la ws h1 h2 h3 h4 h5 h6 =>
    mq_call h1 h5 h6 (va_runIN (As := [a0]) (rest := st) C.1 (hM z) cw ⟨mq_blind, mq_pre C h2 h3 h4 h5 h6⟩ rfl rfl h1.1 rfl (lv_room hst) d hf) (fun v M2 hp => by
      obtain ⟨rfl, hp⟩ := hp
      exact k M2 hp)
theorem xr_callV1l (C : mq_C p m c cc nL s args Ts own D tys z) {y : MethodName} {bytes : ByteArray} {maxL index mc ms b ci : Nat} {ret : Option FieldType} {ws0 : List Cond} {rm : Room} {Cn : String} {T : u_T} {N : Nat} {fs : List Value} {a0 : Value} {P : Int64 → mq_M → Prop}
    (hM : mq_Met l y ws0 rm D tys [.ref b, a0] M (mq_pl P) mc ms) (cw : CallW R s args own Cn index y bytes maxL ret ws0 rm mc ms 1) (hb : M b = some (.inr (ci, fs))) (hc : vwCl[ci]? = some (Cn, T, N)) (hst : (st.map fun v => v.category).sum ≤ 8) (hf : cells + mc ≤ R.cells ∧ slots + ms ≤ R.slots) (d : decode cc pc = .ok (.invokevirtual index, 3))
    (k : ∀ (r : Int64) (M2 : mq_M), P r M2 → mq_X p l e R s m args below meth c Q nL D z H0 (cells + mc) (slots + ms) M2 (pc + 3) L (.long r :: st)) : mq_X p l e R s m args below meth c Q nL D z H0 cells slots M pc L (a0 :: .ref b :: st) :=
  fun H locs la ws h1 h2 h3 h4 h5 h6 => by
    obtain ⟨q, hq⟩ := h4.at hb
    exact mq_call h1 h5 h6 (va_runV (As := [a0]) (rest := st) C.1 (hM z) cw ⟨mq_blind, va_recv C.2.1 h2 hc hq, mq_pre C h2 h3 h4 h5 h6⟩ rfl rfl h1.1 rfl (lv_room hst) d hf) (fun v M2 hp => by
      obtain ⟨r, rfl, hp⟩ := hp
      exact k r M2 hp)
theorem xr_callV1lN (C : mq_C p m c cc nL s args Ts own D tys z) {y : MethodName} {bytes : ByteArray} {maxL index mc ms b ci : Nat} {ret : Option FieldType} {ws0 : List Cond} {rm : Room} {Cn host : String} {T : u_T} {N : Nat} {fs : List Value} {a0 : Value} {P : Int64 → mq_M → Prop}
    (hM : mq_Met l y ws0 rm D tys [.ref b, a0] M (mq_pl P) mc ms) (cw : va_CN R s args own index y host bytes maxL ret ws0 rm mc ms 1 ∧ (Cond.instanceMethod y).before args s = true ∧ (Cond.selects Cn y y).before args s = true) (hb : M b = some (.inr (ci, fs))) (hc : vwCl[ci]? = some (Cn, T, N)) (hst : (st.map fun v => v.category).sum ≤ 8) (hf : cells + mc ≤ R.cells ∧ slots + ms ≤ R.slots) (d : decode cc pc = .ok (.invokevirtual index, 3))
    (k : ∀ (r : Int64) (M2 : mq_M), P r M2 → mq_X p l e R s m args below meth c Q nL D z H0 (cells + mc) (slots + ms) M2 (pc + 3) L (.long r :: st)) : mq_X p l e R s m args below meth c Q nL D z H0 cells slots M pc L (a0 :: .ref b :: st) :=
  fun H locs la ws h1 h2 h3 h4 h5 h6 => by
    obtain ⟨q, hq⟩ := h4.at hb
    exact mq_call h1 h5 h6 (va_runVN (As := [a0]) (rest := st) C.1 (hM z) cw ⟨mq_blind, va_recv C.2.1 h2 hc hq, mq_pre C h2 h3 h4 h5 h6⟩ rfl rfl h1.1 rfl (lv_room hst) d hf) (fun v M2 hp => by
      obtain ⟨r, rfl, hp⟩ := hp
      exact k r M2 hp)
theorem xr_callS1l (C : mq_C p m c cc nL s args Ts own D tys z) {y : MethodName} {bytes : ByteArray} {maxL index mc ms : Nat} {ret : Option FieldType} {ws0 : List Cond} {rm : Room} {a0 : Value} {P : Int64 → mq_M → Prop}
    (hM : mq_Met l y ws0 rm D tys [a0] M (mq_pl P) mc ms) (cw : CallB R s args own index y bytes maxL ret ws0 rm mc ms 1 ∧ (Cond.static y).before args s = true) (hst : (st.map fun v => v.category).sum ≤ 8) (hf : cells + mc ≤ R.cells ∧ slots + ms ≤ R.slots) (d : decode cc pc = .ok (.invokestatic index, 3))
    (k : ∀ (r : Int64) (M2 : mq_M), P r M2 → mq_X p l e R s m args below meth c Q nL D z H0 (cells + mc) (slots + ms) M2 (pc + 3) L (.long r :: st)) : mq_X p l e R s m args below meth c Q nL D z H0 cells slots M pc L (a0 :: st) :=
  fun H locs la ws h1 h2 h3 h4 h5 h6 =>
    mq_call h1 h5 h6 (va_runS (As := [a0]) (rest := st) C.1 (hM z) cw ⟨mq_blind, mq_pre C h2 h3 h4 h5 h6⟩ rfl rfl h1.1 rfl (lv_room hst) d hf) (fun v M2 hp => by
      obtain ⟨r, rfl, hp⟩ := hp
      exact k r M2 hp)
theorem xr_callS1lN (C : mq_C p m c cc nL s args Ts own D tys z) {y : MethodName} {bytes : ByteArray} {maxL index mc ms : Nat} {ret : Option FieldType} {ws0 : List Cond} {rm : Room} {host : String} {a0 : Value} {P : Int64 → mq_M → Prop}
    (hM : mq_Met l y ws0 rm D tys [a0] M (mq_pl P) mc ms) (cw : va_CN R s args own index y host bytes maxL ret ws0 rm mc ms 1 ∧ (Cond.static y).before args s = true ∧ True) (hst : (st.map fun v => v.category).sum ≤ 8) (hf : cells + mc ≤ R.cells ∧ slots + ms ≤ R.slots) (d : decode cc pc = .ok (.invokestatic index, 3))
    (k : ∀ (r : Int64) (M2 : mq_M), P r M2 → mq_X p l e R s m args below meth c Q nL D z H0 (cells + mc) (slots + ms) M2 (pc + 3) L (.long r :: st)) : mq_X p l e R s m args below meth c Q nL D z H0 cells slots M pc L (a0 :: st) :=
  fun H locs la ws h1 h2 h3 h4 h5 h6 =>
    mq_call h1 h5 h6 (va_runSN (As := [a0]) (rest := st) C.1 (hM z) cw ⟨mq_blind, mq_pre C h2 h3 h4 h5 h6⟩ rfl rfl h1.1 rfl (lv_room hst) d hf) (fun v M2 hp => by
      obtain ⟨r, rfl, hp⟩ := hp
      exact k r M2 hp)
theorem xr_callV1a (C : mq_C p m c cc nL s args Ts own D tys z) {y : MethodName} {bytes : ByteArray} {maxL index mc ms b ci : Nat} {ret : Option FieldType} {ws0 : List Cond} {rm : Room} {Cn : String} {T : u_T} {N : Nat} {fs : List Value} {a0 : Value} {P : Nat → mq_M → Prop}
    (hM : mq_Met l y ws0 rm D tys [.ref b, a0] M (mq_pa P) mc ms) (cw : CallW R s args own Cn index y bytes maxL ret ws0 rm mc ms 1) (hb : M b = some (.inr (ci, fs))) (hc : vwCl[ci]? = some (Cn, T, N)) (hst : (st.map fun v => v.category).sum ≤ 8) (hf : cells + mc ≤ R.cells ∧ slots + ms ≤ R.slots) (d : decode cc pc = .ok (.invokevirtual index, 3))
    (k : ∀ (r : Nat) (M2 : mq_M), P r M2 → mq_X p l e R s m args below meth c Q nL D z H0 (cells + mc) (slots + ms) M2 (pc + 3) L (.ref r :: st)) : mq_X p l e R s m args below meth c Q nL D z H0 cells slots M pc L (a0 :: .ref b :: st) :=
  fun H locs la ws h1 h2 h3 h4 h5 h6 => by
    obtain ⟨q, hq⟩ := h4.at hb
    exact mq_call h1 h5 h6 (va_runV (As := [a0]) (rest := st) C.1 (hM z) cw ⟨mq_blind, va_recv C.2.1 h2 hc hq, mq_pre C h2 h3 h4 h5 h6⟩ rfl rfl h1.1 rfl (lv_room hst) d hf) (fun v M2 hp => by
      obtain ⟨r, rfl, hp⟩ := hp
      exact k r M2 hp)
theorem xr_callV1aN (C : mq_C p m c cc nL s args Ts own D tys z) {y : MethodName} {bytes : ByteArray} {maxL index mc ms b ci : Nat} {ret : Option FieldType} {ws0 : List Cond} {rm : Room} {Cn host : String} {T : u_T} {N : Nat} {fs : List Value} {a0 : Value} {P : Nat → mq_M → Prop}
    (hM : mq_Met l y ws0 rm D tys [.ref b, a0] M (mq_pa P) mc ms) (cw : va_CN R s args own index y host bytes maxL ret ws0 rm mc ms 1 ∧ (Cond.instanceMethod y).before args s = true ∧ (Cond.selects Cn y y).before args s = true) (hb : M b = some (.inr (ci, fs))) (hc : vwCl[ci]? = some (Cn, T, N)) (hst : (st.map fun v => v.category).sum ≤ 8) (hf : cells + mc ≤ R.cells ∧ slots + ms ≤ R.slots) (d : decode cc pc = .ok (.invokevirtual index, 3))
    (k : ∀ (r : Nat) (M2 : mq_M), P r M2 → mq_X p l e R s m args below meth c Q nL D z H0 (cells + mc) (slots + ms) M2 (pc + 3) L (.ref r :: st)) : mq_X p l e R s m args below meth c Q nL D z H0 cells slots M pc L (a0 :: .ref b :: st) :=
  fun H locs la ws h1 h2 h3 h4 h5 h6 => by
    obtain ⟨q, hq⟩ := h4.at hb
    exact mq_call h1 h5 h6 (va_runVN (As := [a0]) (rest := st) C.1 (hM z) cw ⟨mq_blind, va_recv C.2.1 h2 hc hq, mq_pre C h2 h3 h4 h5 h6⟩ rfl rfl h1.1 rfl (lv_room hst) d hf) (fun v M2 hp => by
      obtain ⟨r, rfl, hp⟩ := hp
      exact k r M2 hp)
theorem xr_callS1a (C : mq_C p m c cc nL s args Ts own D tys z) {y : MethodName} {bytes : ByteArray} {maxL index mc ms : Nat} {ret : Option FieldType} {ws0 : List Cond} {rm : Room} {a0 : Value} {P : Nat → mq_M → Prop}
    (hM : mq_Met l y ws0 rm D tys [a0] M (mq_pa P) mc ms) (cw : CallB R s args own index y bytes maxL ret ws0 rm mc ms 1 ∧ (Cond.static y).before args s = true) (hst : (st.map fun v => v.category).sum ≤ 8) (hf : cells + mc ≤ R.cells ∧ slots + ms ≤ R.slots) (d : decode cc pc = .ok (.invokestatic index, 3))
    (k : ∀ (r : Nat) (M2 : mq_M), P r M2 → mq_X p l e R s m args below meth c Q nL D z H0 (cells + mc) (slots + ms) M2 (pc + 3) L (.ref r :: st)) : mq_X p l e R s m args below meth c Q nL D z H0 cells slots M pc L (a0 :: st) :=
  fun H locs la ws h1 h2 h3 h4 h5 h6 =>
    mq_call h1 h5 h6 (va_runS (As := [a0]) (rest := st) C.1 (hM z) cw ⟨mq_blind, mq_pre C h2 h3 h4 h5 h6⟩ rfl rfl h1.1 rfl (lv_room hst) d hf) (fun v M2 hp => by
      obtain ⟨r, rfl, hp⟩ := hp
      exact k r M2 hp)
theorem xr_callS1aN (C : mq_C p m c cc nL s args Ts own D tys z) {y : MethodName} {bytes : ByteArray} {maxL index mc ms : Nat} {ret : Option FieldType} {ws0 : List Cond} {rm : Room} {host : String} {a0 : Value} {P : Nat → mq_M → Prop}
    (hM : mq_Met l y ws0 rm D tys [a0] M (mq_pa P) mc ms) (cw : va_CN R s args own index y host bytes maxL ret ws0 rm mc ms 1 ∧ (Cond.static y).before args s = true ∧ True) (hst : (st.map fun v => v.category).sum ≤ 8) (hf : cells + mc ≤ R.cells ∧ slots + ms ≤ R.slots) (d : decode cc pc = .ok (.invokestatic index, 3))
    (k : ∀ (r : Nat) (M2 : mq_M), P r M2 → mq_X p l e R s m args below meth c Q nL D z H0 (cells + mc) (slots + ms) M2 (pc + 3) L (.ref r :: st)) : mq_X p l e R s m args below meth c Q nL D z H0 cells slots M pc L (a0 :: st) :=
  fun H locs la ws h1 h2 h3 h4 h5 h6 =>
    mq_call h1 h5 h6 (va_runSN (As := [a0]) (rest := st) C.1 (hM z) cw ⟨mq_blind, mq_pre C h2 h3 h4 h5 h6⟩ rfl rfl h1.1 rfl (lv_room hst) d hf) (fun v M2 hp => by
      obtain ⟨r, rfl, hp⟩ := hp
      exact k r M2 hp)
theorem xr_callV1n (C : mq_C p m c cc nL s args Ts own D tys z) {y : MethodName} {bytes : ByteArray} {maxL index mc ms b ci : Nat} {ret : Option FieldType} {ws0 : List Cond} {rm : Room} {Cn : String} {T : u_T} {N : Nat} {fs : List Value} {a0 : Value} {P : mq_M → Prop}
    (hM : mq_Met l y ws0 rm D tys [.ref b, a0] M (mq_pn P) mc ms) (cw : CallW R s args own Cn index y bytes maxL ret ws0 rm mc ms 1) (hb : M b = some (.inr (ci, fs))) (hc : vwCl[ci]? = some (Cn, T, N)) (hst : (st.map fun v => v.category).sum ≤ 8) (hf : cells + mc ≤ R.cells ∧ slots + ms ≤ R.slots) (d : decode cc pc = .ok (.invokevirtual index, 3))
    (k : ∀ (M2 : mq_M), P M2 → mq_X p l e R s m args below meth c Q nL D z H0 (cells + mc) (slots + ms) M2 (pc + 3) L (.null :: st)) : mq_X p l e R s m args below meth c Q nL D z H0 cells slots M pc L (a0 :: .ref b :: st) :=
  fun H locs la ws h1 h2 h3 h4 h5 h6 => by
    obtain ⟨q, hq⟩ := h4.at hb
    exact mq_call h1 h5 h6 (va_runV (As := [a0]) (rest := st) C.1 (hM z) cw ⟨mq_blind, va_recv C.2.1 h2 hc hq, mq_pre C h2 h3 h4 h5 h6⟩ rfl rfl h1.1 rfl (lv_room hst) d hf) (fun v M2 hp => by
      obtain ⟨rfl, hp⟩ := hp
      exact k M2 hp)
theorem xr_callV1nN (C : mq_C p m c cc nL s args Ts own D tys z) {y : MethodName} {bytes : ByteArray} {maxL index mc ms b ci : Nat} {ret : Option FieldType} {ws0 : List Cond} {rm : Room} {Cn host : String} {T : u_T} {N : Nat} {fs : List Value} {a0 : Value} {P : mq_M → Prop}
    (hM : mq_Met l y ws0 rm D tys [.ref b, a0] M (mq_pn P) mc ms) (cw : va_CN R s args own index y host bytes maxL ret ws0 rm mc ms 1 ∧ (Cond.instanceMethod y).before args s = true ∧ (Cond.selects Cn y y).before args s = true) (hb : M b = some (.inr (ci, fs))) (hc : vwCl[ci]? = some (Cn, T, N)) (hst : (st.map fun v => v.category).sum ≤ 8) (hf : cells + mc ≤ R.cells ∧ slots + ms ≤ R.slots) (d : decode cc pc = .ok (.invokevirtual index, 3))
    (k : ∀ (M2 : mq_M), P M2 → mq_X p l e R s m args below meth c Q nL D z H0 (cells + mc) (slots + ms) M2 (pc + 3) L (.null :: st)) : mq_X p l e R s m args below meth c Q nL D z H0 cells slots M pc L (a0 :: .ref b :: st) :=
  fun H locs la ws h1 h2 h3 h4 h5 h6 => by
    obtain ⟨q, hq⟩ := h4.at hb
    exact mq_call h1 h5 h6 (va_runVN (As := [a0]) (rest := st) C.1 (hM z) cw ⟨mq_blind, va_recv C.2.1 h2 hc hq, mq_pre C h2 h3 h4 h5 h6⟩ rfl rfl h1.1 rfl (lv_room hst) d hf) (fun v M2 hp => by
      obtain ⟨rfl, hp⟩ := hp
      exact k M2 hp)
theorem xr_callS1n (C : mq_C p m c cc nL s args Ts own D tys z) {y : MethodName} {bytes : ByteArray} {maxL index mc ms : Nat} {ret : Option FieldType} {ws0 : List Cond} {rm : Room} {a0 : Value} {P : mq_M → Prop}
    (hM : mq_Met l y ws0 rm D tys [a0] M (mq_pn P) mc ms) (cw : CallB R s args own index y bytes maxL ret ws0 rm mc ms 1 ∧ (Cond.static y).before args s = true) (hst : (st.map fun v => v.category).sum ≤ 8) (hf : cells + mc ≤ R.cells ∧ slots + ms ≤ R.slots) (d : decode cc pc = .ok (.invokestatic index, 3))
    (k : ∀ (M2 : mq_M), P M2 → mq_X p l e R s m args below meth c Q nL D z H0 (cells + mc) (slots + ms) M2 (pc + 3) L (.null :: st)) : mq_X p l e R s m args below meth c Q nL D z H0 cells slots M pc L (a0 :: st) :=
  fun H locs la ws h1 h2 h3 h4 h5 h6 =>
    mq_call h1 h5 h6 (va_runS (As := [a0]) (rest := st) C.1 (hM z) cw ⟨mq_blind, mq_pre C h2 h3 h4 h5 h6⟩ rfl rfl h1.1 rfl (lv_room hst) d hf) (fun v M2 hp => by
      obtain ⟨rfl, hp⟩ := hp
      exact k M2 hp)
theorem xr_callS1nN (C : mq_C p m c cc nL s args Ts own D tys z) {y : MethodName} {bytes : ByteArray} {maxL index mc ms : Nat} {ret : Option FieldType} {ws0 : List Cond} {rm : Room} {host : String} {a0 : Value} {P : mq_M → Prop}
    (hM : mq_Met l y ws0 rm D tys [a0] M (mq_pn P) mc ms) (cw : va_CN R s args own index y host bytes maxL ret ws0 rm mc ms 1 ∧ (Cond.static y).before args s = true ∧ True) (hst : (st.map fun v => v.category).sum ≤ 8) (hf : cells + mc ≤ R.cells ∧ slots + ms ≤ R.slots) (d : decode cc pc = .ok (.invokestatic index, 3))
    (k : ∀ (M2 : mq_M), P M2 → mq_X p l e R s m args below meth c Q nL D z H0 (cells + mc) (slots + ms) M2 (pc + 3) L (.null :: st)) : mq_X p l e R s m args below meth c Q nL D z H0 cells slots M pc L (a0 :: st) :=
  fun H locs la ws h1 h2 h3 h4 h5 h6 =>
    mq_call h1 h5 h6 (va_runSN (As := [a0]) (rest := st) C.1 (hM z) cw ⟨mq_blind, mq_pre C h2 h3 h4 h5 h6⟩ rfl rfl h1.1 rfl (lv_room hst) d hf) (fun v M2 hp => by
      obtain ⟨rfl, hp⟩ := hp
      exact k M2 hp)
theorem xr_callV1r (C : mq_C p m c cc nL s args Ts own D tys z) {y : MethodName} {bytes : ByteArray} {maxL index mc ms b ci : Nat} {ret : Option FieldType} {ws0 : List Cond} {rm : Room} {Cn : String} {T : u_T} {N : Nat} {fs : List Value} {a0 : Value} {P : Option Nat → mq_M → Prop}
    (hM : mq_Met l y ws0 rm D tys [.ref b, a0] M (mq_pr P) mc ms) (cw : CallW R s args own Cn index y bytes maxL ret ws0 rm mc ms 1) (hb : M b = some (.inr (ci, fs))) (hc : vwCl[ci]? = some (Cn, T, N)) (hst : (st.map fun v => v.category).sum ≤ 8) (hf : cells + mc ≤ R.cells ∧ slots + ms ≤ R.slots) (d : decode cc pc = .ok (.invokevirtual index, 3))
    (k : ∀ (r : Option Nat) (M2 : mq_M), P r M2 → mq_X p l e R s m args below meth c Q nL D z H0 (cells + mc) (slots + ms) M2 (pc + 3) L (va_rf r :: st)) : mq_X p l e R s m args below meth c Q nL D z H0 cells slots M pc L (a0 :: .ref b :: st) :=
  fun H locs la ws h1 h2 h3 h4 h5 h6 => by
    obtain ⟨q, hq⟩ := h4.at hb
    exact mq_call h1 h5 h6 (va_runV (As := [a0]) (rest := st) C.1 (hM z) cw ⟨mq_blind, va_recv C.2.1 h2 hc hq, mq_pre C h2 h3 h4 h5 h6⟩ rfl rfl h1.1 rfl (lv_room hst) d hf) (fun v M2 hp => by
      obtain ⟨r, rfl, hp⟩ := hp
      exact k r M2 hp)
theorem xr_callV1rN (C : mq_C p m c cc nL s args Ts own D tys z) {y : MethodName} {bytes : ByteArray} {maxL index mc ms b ci : Nat} {ret : Option FieldType} {ws0 : List Cond} {rm : Room} {Cn host : String} {T : u_T} {N : Nat} {fs : List Value} {a0 : Value} {P : Option Nat → mq_M → Prop}
    (hM : mq_Met l y ws0 rm D tys [.ref b, a0] M (mq_pr P) mc ms) (cw : va_CN R s args own index y host bytes maxL ret ws0 rm mc ms 1 ∧ (Cond.instanceMethod y).before args s = true ∧ (Cond.selects Cn y y).before args s = true) (hb : M b = some (.inr (ci, fs))) (hc : vwCl[ci]? = some (Cn, T, N)) (hst : (st.map fun v => v.category).sum ≤ 8) (hf : cells + mc ≤ R.cells ∧ slots + ms ≤ R.slots) (d : decode cc pc = .ok (.invokevirtual index, 3))
    (k : ∀ (r : Option Nat) (M2 : mq_M), P r M2 → mq_X p l e R s m args below meth c Q nL D z H0 (cells + mc) (slots + ms) M2 (pc + 3) L (va_rf r :: st)) : mq_X p l e R s m args below meth c Q nL D z H0 cells slots M pc L (a0 :: .ref b :: st) :=
  fun H locs la ws h1 h2 h3 h4 h5 h6 => by
    obtain ⟨q, hq⟩ := h4.at hb
    exact mq_call h1 h5 h6 (va_runVN (As := [a0]) (rest := st) C.1 (hM z) cw ⟨mq_blind, va_recv C.2.1 h2 hc hq, mq_pre C h2 h3 h4 h5 h6⟩ rfl rfl h1.1 rfl (lv_room hst) d hf) (fun v M2 hp => by
      obtain ⟨r, rfl, hp⟩ := hp
      exact k r M2 hp)
theorem xr_callS1r (C : mq_C p m c cc nL s args Ts own D tys z) {y : MethodName} {bytes : ByteArray} {maxL index mc ms : Nat} {ret : Option FieldType} {ws0 : List Cond} {rm : Room} {a0 : Value} {P : Option Nat → mq_M → Prop}
    (hM : mq_Met l y ws0 rm D tys [a0] M (mq_pr P) mc ms) (cw : CallB R s args own index y bytes maxL ret ws0 rm mc ms 1 ∧ (Cond.static y).before args s = true) (hst : (st.map fun v => v.category).sum ≤ 8) (hf : cells + mc ≤ R.cells ∧ slots + ms ≤ R.slots) (d : decode cc pc = .ok (.invokestatic index, 3))
    (k : ∀ (r : Option Nat) (M2 : mq_M), P r M2 → mq_X p l e R s m args below meth c Q nL D z H0 (cells + mc) (slots + ms) M2 (pc + 3) L (va_rf r :: st)) : mq_X p l e R s m args below meth c Q nL D z H0 cells slots M pc L (a0 :: st) :=
  fun H locs la ws h1 h2 h3 h4 h5 h6 =>
    mq_call h1 h5 h6 (va_runS (As := [a0]) (rest := st) C.1 (hM z) cw ⟨mq_blind, mq_pre C h2 h3 h4 h5 h6⟩ rfl rfl h1.1 rfl (lv_room hst) d hf) (fun v M2 hp => by
      obtain ⟨r, rfl, hp⟩ := hp
      exact k r M2 hp)
theorem xr_callS1rN (C : mq_C p m c cc nL s args Ts own D tys z) {y : MethodName} {bytes : ByteArray} {maxL index mc ms : Nat} {ret : Option FieldType} {ws0 : List Cond} {rm : Room} {host : String} {a0 : Value} {P : Option Nat → mq_M → Prop}
    (hM : mq_Met l y ws0 rm D tys [a0] M (mq_pr P) mc ms) (cw : va_CN R s args own index y host bytes maxL ret ws0 rm mc ms 1 ∧ (Cond.static y).before args s = true ∧ True) (hst : (st.map fun v => v.category).sum ≤ 8) (hf : cells + mc ≤ R.cells ∧ slots + ms ≤ R.slots) (d : decode cc pc = .ok (.invokestatic index, 3))
    (k : ∀ (r : Option Nat) (M2 : mq_M), P r M2 → mq_X p l e R s m args below meth c Q nL D z H0 (cells + mc) (slots + ms) M2 (pc + 3) L (va_rf r :: st)) : mq_X p l e R s m args below meth c Q nL D z H0 cells slots M pc L (a0 :: st) :=
  fun H locs la ws h1 h2 h3 h4 h5 h6 =>
    mq_call h1 h5 h6 (va_runSN (As := [a0]) (rest := st) C.1 (hM z) cw ⟨mq_blind, mq_pre C h2 h3 h4 h5 h6⟩ rfl rfl h1.1 rfl (lv_room hst) d hf) (fun v M2 hp => by
      obtain ⟨r, rfl, hp⟩ := hp
      exact k r M2 hp)
theorem xr_callV2i (C : mq_C p m c cc nL s args Ts own D tys z) {y : MethodName} {bytes : ByteArray} {maxL index mc ms b ci : Nat} {ret : Option FieldType} {ws0 : List Cond} {rm : Room} {Cn : String} {T : u_T} {N : Nat} {fs : List Value} {a0 a1 : Value} {P : Int → mq_M → Prop}
    (hM : mq_Met l y ws0 rm D tys [.ref b, a0, a1] M (mq_pi P) mc ms) (cw : CallW R s args own Cn index y bytes maxL ret ws0 rm mc ms 2) (hb : M b = some (.inr (ci, fs))) (hc : vwCl[ci]? = some (Cn, T, N)) (hst : (st.map fun v => v.category).sum ≤ 8) (hf : cells + mc ≤ R.cells ∧ slots + ms ≤ R.slots) (d : decode cc pc = .ok (.invokevirtual index, 3))
    (k : ∀ (r : Int) (M2 : mq_M), P r M2 → mq_X p l e R s m args below meth c Q nL D z H0 (cells + mc) (slots + ms) M2 (pc + 3) L (.int (zI r) :: st)) : mq_X p l e R s m args below meth c Q nL D z H0 cells slots M pc L (a1 :: a0 :: .ref b :: st) :=
  fun H locs la ws h1 h2 h3 h4 h5 h6 => by
    obtain ⟨q, hq⟩ := h4.at hb
    exact mq_call h1 h5 h6 (va_runV (As := [a0, a1]) (rest := st) C.1 (hM z) cw ⟨mq_blind, va_recv C.2.1 h2 hc hq, mq_pre C h2 h3 h4 h5 h6⟩ rfl rfl h1.1 rfl (lv_room hst) d hf) (fun v M2 hp => by
      obtain ⟨r, rfl, hp⟩ := hp
      exact k r M2 hp)
theorem xr_callV2iN (C : mq_C p m c cc nL s args Ts own D tys z) {y : MethodName} {bytes : ByteArray} {maxL index mc ms b ci : Nat} {ret : Option FieldType} {ws0 : List Cond} {rm : Room} {Cn host : String} {T : u_T} {N : Nat} {fs : List Value} {a0 a1 : Value} {P : Int → mq_M → Prop}
    (hM : mq_Met l y ws0 rm D tys [.ref b, a0, a1] M (mq_pi P) mc ms) (cw : va_CN R s args own index y host bytes maxL ret ws0 rm mc ms 2 ∧ (Cond.instanceMethod y).before args s = true ∧ (Cond.selects Cn y y).before args s = true) (hb : M b = some (.inr (ci, fs))) (hc : vwCl[ci]? = some (Cn, T, N)) (hst : (st.map fun v => v.category).sum ≤ 8) (hf : cells + mc ≤ R.cells ∧ slots + ms ≤ R.slots) (d : decode cc pc = .ok (.invokevirtual index, 3))
    (k : ∀ (r : Int) (M2 : mq_M), P r M2 → mq_X p l e R s m args below meth c Q nL D z H0 (cells + mc) (slots + ms) M2 (pc + 3) L (.int (zI r) :: st)) : mq_X p l e R s m args below meth c Q nL D z H0 cells slots M pc L (a1 :: a0 :: .ref b :: st) :=
  fun H locs la ws h1 h2 h3 h4 h5 h6 => by
    obtain ⟨q, hq⟩ := h4.at hb
    exact mq_call h1 h5 h6 (va_runVN (As := [a0, a1]) (rest := st) C.1 (hM z) cw ⟨mq_blind, va_recv C.2.1 h2 hc hq, mq_pre C h2 h3 h4 h5 h6⟩ rfl rfl h1.1 rfl (lv_room hst) d hf) (fun v M2 hp => by
      obtain ⟨r, rfl, hp⟩ := hp
      exact k r M2 hp)
theorem xr_callS2i (C : mq_C p m c cc nL s args Ts own D tys z) {y : MethodName} {bytes : ByteArray} {maxL index mc ms : Nat} {ret : Option FieldType} {ws0 : List Cond} {rm : Room} {a0 a1 : Value} {P : Int → mq_M → Prop}
    (hM : mq_Met l y ws0 rm D tys [a0, a1] M (mq_pi P) mc ms) (cw : CallB R s args own index y bytes maxL ret ws0 rm mc ms 2 ∧ (Cond.static y).before args s = true) (hst : (st.map fun v => v.category).sum ≤ 8) (hf : cells + mc ≤ R.cells ∧ slots + ms ≤ R.slots) (d : decode cc pc = .ok (.invokestatic index, 3))
    (k : ∀ (r : Int) (M2 : mq_M), P r M2 → mq_X p l e R s m args below meth c Q nL D z H0 (cells + mc) (slots + ms) M2 (pc + 3) L (.int (zI r) :: st)) : mq_X p l e R s m args below meth c Q nL D z H0 cells slots M pc L (a1 :: a0 :: st) :=
  fun H locs la ws h1 h2 h3 h4 h5 h6 =>
    mq_call h1 h5 h6 (va_runS (As := [a0, a1]) (rest := st) C.1 (hM z) cw ⟨mq_blind, mq_pre C h2 h3 h4 h5 h6⟩ rfl rfl h1.1 rfl (lv_room hst) d hf) (fun v M2 hp => by
      obtain ⟨r, rfl, hp⟩ := hp
      exact k r M2 hp)
theorem xr_callS2iN (C : mq_C p m c cc nL s args Ts own D tys z) {y : MethodName} {bytes : ByteArray} {maxL index mc ms : Nat} {ret : Option FieldType} {ws0 : List Cond} {rm : Room} {host : String} {a0 a1 : Value} {P : Int → mq_M → Prop}
    (hM : mq_Met l y ws0 rm D tys [a0, a1] M (mq_pi P) mc ms) (cw : va_CN R s args own index y host bytes maxL ret ws0 rm mc ms 2 ∧ (Cond.static y).before args s = true ∧ True) (hst : (st.map fun v => v.category).sum ≤ 8) (hf : cells + mc ≤ R.cells ∧ slots + ms ≤ R.slots) (d : decode cc pc = .ok (.invokestatic index, 3))
    (k : ∀ (r : Int) (M2 : mq_M), P r M2 → mq_X p l e R s m args below meth c Q nL D z H0 (cells + mc) (slots + ms) M2 (pc + 3) L (.int (zI r) :: st)) : mq_X p l e R s m args below meth c Q nL D z H0 cells slots M pc L (a1 :: a0 :: st) :=
  fun H locs la ws h1 h2 h3 h4 h5 h6 =>
    mq_call h1 h5 h6 (va_runSN (As := [a0, a1]) (rest := st) C.1 (hM z) cw ⟨mq_blind, mq_pre C h2 h3 h4 h5 h6⟩ rfl rfl h1.1 rfl (lv_room hst) d hf) (fun v M2 hp => by
      obtain ⟨r, rfl, hp⟩ := hp
      exact k r M2 hp)
theorem xr_callV2v (C : mq_C p m c cc nL s args Ts own D tys z) {y : MethodName} {bytes : ByteArray} {maxL index mc ms b ci : Nat} {ret : Option FieldType} {ws0 : List Cond} {rm : Room} {Cn : String} {T : u_T} {N : Nat} {fs : List Value} {a0 a1 : Value} {P : mq_M → Prop}
    (hM : mq_Met l y ws0 rm D tys [.ref b, a0, a1] M (mq_pv P) mc ms) (cw : CallW R s args own Cn index y bytes maxL ret ws0 rm mc ms 2) (hb : M b = some (.inr (ci, fs))) (hc : vwCl[ci]? = some (Cn, T, N)) (hst : (st.map fun v => v.category).sum ≤ 8) (hf : cells + mc ≤ R.cells ∧ slots + ms ≤ R.slots) (d : decode cc pc = .ok (.invokevirtual index, 3))
    (k : ∀ (M2 : mq_M), P M2 → mq_X p l e R s m args below meth c Q nL D z H0 (cells + mc) (slots + ms) M2 (pc + 3) L st) : mq_X p l e R s m args below meth c Q nL D z H0 cells slots M pc L (a1 :: a0 :: .ref b :: st) :=
  fun H locs la ws h1 h2 h3 h4 h5 h6 => by
    obtain ⟨q, hq⟩ := h4.at hb
    exact mq_call h1 h5 h6 (va_runV (As := [a0, a1]) (rest := st) C.1 (hM z) cw ⟨mq_blind, va_recv C.2.1 h2 hc hq, mq_pre C h2 h3 h4 h5 h6⟩ rfl rfl h1.1 rfl (lv_room hst) d hf) (fun v M2 hp => by
      obtain ⟨rfl, hp⟩ := hp
      exact k M2 hp)
theorem xr_callV2vN (C : mq_C p m c cc nL s args Ts own D tys z) {y : MethodName} {bytes : ByteArray} {maxL index mc ms b ci : Nat} {ret : Option FieldType} {ws0 : List Cond} {rm : Room} {Cn host : String} {T : u_T} {N : Nat} {fs : List Value} {a0 a1 : Value} {P : mq_M → Prop}
    (hM : mq_Met l y ws0 rm D tys [.ref b, a0, a1] M (mq_pv P) mc ms) (cw : va_CN R s args own index y host bytes maxL ret ws0 rm mc ms 2 ∧ (Cond.instanceMethod y).before args s = true ∧ (Cond.selects Cn y y).before args s = true) (hb : M b = some (.inr (ci, fs))) (hc : vwCl[ci]? = some (Cn, T, N)) (hst : (st.map fun v => v.category).sum ≤ 8) (hf : cells + mc ≤ R.cells ∧ slots + ms ≤ R.slots) (d : decode cc pc = .ok (.invokevirtual index, 3))
    (k : ∀ (M2 : mq_M), P M2 → mq_X p l e R s m args below meth c Q nL D z H0 (cells + mc) (slots + ms) M2 (pc + 3) L st) : mq_X p l e R s m args below meth c Q nL D z H0 cells slots M pc L (a1 :: a0 :: .ref b :: st) :=
  fun H locs la ws h1 h2 h3 h4 h5 h6 => by
    obtain ⟨q, hq⟩ := h4.at hb
    exact mq_call h1 h5 h6 (va_runVN (As := [a0, a1]) (rest := st) C.1 (hM z) cw ⟨mq_blind, va_recv C.2.1 h2 hc hq, mq_pre C h2 h3 h4 h5 h6⟩ rfl rfl h1.1 rfl (lv_room hst) d hf) (fun v M2 hp => by
      obtain ⟨rfl, hp⟩ := hp
      exact k M2 hp)
theorem xr_callS2v (C : mq_C p m c cc nL s args Ts own D tys z) {y : MethodName} {bytes : ByteArray} {maxL index mc ms : Nat} {ret : Option FieldType} {ws0 : List Cond} {rm : Room} {a0 a1 : Value} {P : mq_M → Prop}
    (hM : mq_Met l y ws0 rm D tys [a0, a1] M (mq_pv P) mc ms) (cw : CallB R s args own index y bytes maxL ret ws0 rm mc ms 2 ∧ (Cond.static y).before args s = true) (hst : (st.map fun v => v.category).sum ≤ 8) (hf : cells + mc ≤ R.cells ∧ slots + ms ≤ R.slots) (d : decode cc pc = .ok (.invokestatic index, 3))
    (k : ∀ (M2 : mq_M), P M2 → mq_X p l e R s m args below meth c Q nL D z H0 (cells + mc) (slots + ms) M2 (pc + 3) L st) : mq_X p l e R s m args below meth c Q nL D z H0 cells slots M pc L (a1 :: a0 :: st) :=
  fun H locs la ws h1 h2 h3 h4 h5 h6 =>
    mq_call h1 h5 h6 (va_runS (As := [a0, a1]) (rest := st) C.1 (hM z) cw ⟨mq_blind, mq_pre C h2 h3 h4 h5 h6⟩ rfl rfl h1.1 rfl (lv_room hst) d hf) (fun v M2 hp => by
      obtain ⟨rfl, hp⟩ := hp
      exact k M2 hp)
theorem xr_callS2vN (C : mq_C p m c cc nL s args Ts own D tys z) {y : MethodName} {bytes : ByteArray} {maxL index mc ms : Nat} {ret : Option FieldType} {ws0 : List Cond} {rm : Room} {host : String} {a0 a1 : Value} {P : mq_M → Prop}
    (hM : mq_Met l y ws0 rm D tys [a0, a1] M (mq_pv P) mc ms) (cw : va_CN R s args own index y host bytes maxL ret ws0 rm mc ms 2 ∧ (Cond.static y).before args s = true ∧ True) (hst : (st.map fun v => v.category).sum ≤ 8) (hf : cells + mc ≤ R.cells ∧ slots + ms ≤ R.slots) (d : decode cc pc = .ok (.invokestatic index, 3))
    (k : ∀ (M2 : mq_M), P M2 → mq_X p l e R s m args below meth c Q nL D z H0 (cells + mc) (slots + ms) M2 (pc + 3) L st) : mq_X p l e R s m args below meth c Q nL D z H0 cells slots M pc L (a1 :: a0 :: st) :=
  fun H locs la ws h1 h2 h3 h4 h5 h6 =>
    mq_call h1 h5 h6 (va_runSN (As := [a0, a1]) (rest := st) C.1 (hM z) cw ⟨mq_blind, mq_pre C h2 h3 h4 h5 h6⟩ rfl rfl h1.1 rfl (lv_room hst) d hf) (fun v M2 hp => by
      obtain ⟨rfl, hp⟩ := hp
      exact k M2 hp)
theorem xr_callI2 (C : mq_C p m c cc nL s args Ts own D tys z) {y : MethodName} {bytes : ByteArray} {maxL index mc ms b : Nat} {ws0 : List Cond} {rm : Room} {a0 a1 : Value} {P : mq_M → Prop}
    (hM : mq_Met l y ws0 rm D tys [.ref b, a0, a1] M (mq_pv P) mc ms) (cw : CallB R s args own index y bytes maxL none ws0 rm mc ms 2 ∧ y.name = "<init>" ∧ (Cond.instanceMethod y).before args s = true) (hst : (st.map fun v => v.category).sum ≤ 8) (hf : cells + mc ≤ R.cells ∧ slots + ms ≤ R.slots) (d : decode cc pc = .ok (.invokespecial index, 3))
    (k : ∀ (M2 : mq_M), P M2 → mq_X p l e R s m args below meth c Q nL D z H0 (cells + mc) (slots + ms) M2 (pc + 3) L st) : mq_X p l e R s m args below meth c Q nL D z H0 cells slots M pc L (a1 :: a0 :: .ref b :: st) :=
  fun H locs la ws h1 h2 h3 h4 h5 h6 =>
    mq_call h1 h5 h6 (va_runI (As := [a0, a1]) (rest := st) C.1 (hM z) cw ⟨mq_blind, mq_pre C h2 h3 h4 h5 h6⟩ rfl rfl h1.1 rfl (lv_room hst) d hf) (fun v M2 hp => by
      obtain ⟨rfl, hp⟩ := hp
      exact k M2 hp)
theorem xr_callI2N (C : mq_C p m c cc nL s args Ts own D tys z) {y : MethodName} {bytes : ByteArray} {maxL index mc ms b : Nat} {ws0 : List Cond} {rm : Room} {host : String} {a0 a1 : Value} {P : mq_M → Prop}
    (hM : mq_Met l y ws0 rm D tys [.ref b, a0, a1] M (mq_pv P) mc ms) (cw : va_CN R s args own index y host bytes maxL none ws0 rm mc ms 2 ∧ y.name = "<init>" ∧ (Cond.instanceMethod y).before args s = true) (hst : (st.map fun v => v.category).sum ≤ 8) (hf : cells + mc ≤ R.cells ∧ slots + ms ≤ R.slots) (d : decode cc pc = .ok (.invokespecial index, 3))
    (k : ∀ (M2 : mq_M), P M2 → mq_X p l e R s m args below meth c Q nL D z H0 (cells + mc) (slots + ms) M2 (pc + 3) L st) : mq_X p l e R s m args below meth c Q nL D z H0 cells slots M pc L (a1 :: a0 :: .ref b :: st) :=
  fun H locs la ws h1 h2 h3 h4 h5 h6 =>
    mq_call h1 h5 h6 (va_runIN (As := [a0, a1]) (rest := st) C.1 (hM z) cw ⟨mq_blind, mq_pre C h2 h3 h4 h5 h6⟩ rfl rfl h1.1 rfl (lv_room hst) d hf) (fun v M2 hp => by
      obtain ⟨rfl, hp⟩ := hp
      exact k M2 hp)
theorem xr_callV2l (C : mq_C p m c cc nL s args Ts own D tys z) {y : MethodName} {bytes : ByteArray} {maxL index mc ms b ci : Nat} {ret : Option FieldType} {ws0 : List Cond} {rm : Room} {Cn : String} {T : u_T} {N : Nat} {fs : List Value} {a0 a1 : Value} {P : Int64 → mq_M → Prop}
    (hM : mq_Met l y ws0 rm D tys [.ref b, a0, a1] M (mq_pl P) mc ms) (cw : CallW R s args own Cn index y bytes maxL ret ws0 rm mc ms 2) (hb : M b = some (.inr (ci, fs))) (hc : vwCl[ci]? = some (Cn, T, N)) (hst : (st.map fun v => v.category).sum ≤ 8) (hf : cells + mc ≤ R.cells ∧ slots + ms ≤ R.slots) (d : decode cc pc = .ok (.invokevirtual index, 3))
    (k : ∀ (r : Int64) (M2 : mq_M), P r M2 → mq_X p l e R s m args below meth c Q nL D z H0 (cells + mc) (slots + ms) M2 (pc + 3) L (.long r :: st)) : mq_X p l e R s m args below meth c Q nL D z H0 cells slots M pc L (a1 :: a0 :: .ref b :: st) :=
  fun H locs la ws h1 h2 h3 h4 h5 h6 => by
    obtain ⟨q, hq⟩ := h4.at hb
    exact mq_call h1 h5 h6 (va_runV (As := [a0, a1]) (rest := st) C.1 (hM z) cw ⟨mq_blind, va_recv C.2.1 h2 hc hq, mq_pre C h2 h3 h4 h5 h6⟩ rfl rfl h1.1 rfl (lv_room hst) d hf) (fun v M2 hp => by
      obtain ⟨r, rfl, hp⟩ := hp
      exact k r M2 hp)
theorem xr_callV2lN (C : mq_C p m c cc nL s args Ts own D tys z) {y : MethodName} {bytes : ByteArray} {maxL index mc ms b ci : Nat} {ret : Option FieldType} {ws0 : List Cond} {rm : Room} {Cn host : String} {T : u_T} {N : Nat} {fs : List Value} {a0 a1 : Value} {P : Int64 → mq_M → Prop}
    (hM : mq_Met l y ws0 rm D tys [.ref b, a0, a1] M (mq_pl P) mc ms) (cw : va_CN R s args own index y host bytes maxL ret ws0 rm mc ms 2 ∧ (Cond.instanceMethod y).before args s = true ∧ (Cond.selects Cn y y).before args s = true) (hb : M b = some (.inr (ci, fs))) (hc : vwCl[ci]? = some (Cn, T, N)) (hst : (st.map fun v => v.category).sum ≤ 8) (hf : cells + mc ≤ R.cells ∧ slots + ms ≤ R.slots) (d : decode cc pc = .ok (.invokevirtual index, 3))
    (k : ∀ (r : Int64) (M2 : mq_M), P r M2 → mq_X p l e R s m args below meth c Q nL D z H0 (cells + mc) (slots + ms) M2 (pc + 3) L (.long r :: st)) : mq_X p l e R s m args below meth c Q nL D z H0 cells slots M pc L (a1 :: a0 :: .ref b :: st) :=
  fun H locs la ws h1 h2 h3 h4 h5 h6 => by
    obtain ⟨q, hq⟩ := h4.at hb
    exact mq_call h1 h5 h6 (va_runVN (As := [a0, a1]) (rest := st) C.1 (hM z) cw ⟨mq_blind, va_recv C.2.1 h2 hc hq, mq_pre C h2 h3 h4 h5 h6⟩ rfl rfl h1.1 rfl (lv_room hst) d hf) (fun v M2 hp => by
      obtain ⟨r, rfl, hp⟩ := hp
      exact k r M2 hp)
theorem xr_callS2l (C : mq_C p m c cc nL s args Ts own D tys z) {y : MethodName} {bytes : ByteArray} {maxL index mc ms : Nat} {ret : Option FieldType} {ws0 : List Cond} {rm : Room} {a0 a1 : Value} {P : Int64 → mq_M → Prop}
    (hM : mq_Met l y ws0 rm D tys [a0, a1] M (mq_pl P) mc ms) (cw : CallB R s args own index y bytes maxL ret ws0 rm mc ms 2 ∧ (Cond.static y).before args s = true) (hst : (st.map fun v => v.category).sum ≤ 8) (hf : cells + mc ≤ R.cells ∧ slots + ms ≤ R.slots) (d : decode cc pc = .ok (.invokestatic index, 3))
    (k : ∀ (r : Int64) (M2 : mq_M), P r M2 → mq_X p l e R s m args below meth c Q nL D z H0 (cells + mc) (slots + ms) M2 (pc + 3) L (.long r :: st)) : mq_X p l e R s m args below meth c Q nL D z H0 cells slots M pc L (a1 :: a0 :: st) :=
  fun H locs la ws h1 h2 h3 h4 h5 h6 =>
    mq_call h1 h5 h6 (va_runS (As := [a0, a1]) (rest := st) C.1 (hM z) cw ⟨mq_blind, mq_pre C h2 h3 h4 h5 h6⟩ rfl rfl h1.1 rfl (lv_room hst) d hf) (fun v M2 hp => by
      obtain ⟨r, rfl, hp⟩ := hp
      exact k r M2 hp)
theorem xr_callS2lN (C : mq_C p m c cc nL s args Ts own D tys z) {y : MethodName} {bytes : ByteArray} {maxL index mc ms : Nat} {ret : Option FieldType} {ws0 : List Cond} {rm : Room} {host : String} {a0 a1 : Value} {P : Int64 → mq_M → Prop}
    (hM : mq_Met l y ws0 rm D tys [a0, a1] M (mq_pl P) mc ms) (cw : va_CN R s args own index y host bytes maxL ret ws0 rm mc ms 2 ∧ (Cond.static y).before args s = true ∧ True) (hst : (st.map fun v => v.category).sum ≤ 8) (hf : cells + mc ≤ R.cells ∧ slots + ms ≤ R.slots) (d : decode cc pc = .ok (.invokestatic index, 3))
    (k : ∀ (r : Int64) (M2 : mq_M), P r M2 → mq_X p l e R s m args below meth c Q nL D z H0 (cells + mc) (slots + ms) M2 (pc + 3) L (.long r :: st)) : mq_X p l e R s m args below meth c Q nL D z H0 cells slots M pc L (a1 :: a0 :: st) :=
  fun H locs la ws h1 h2 h3 h4 h5 h6 =>
    mq_call h1 h5 h6 (va_runSN (As := [a0, a1]) (rest := st) C.1 (hM z) cw ⟨mq_blind, mq_pre C h2 h3 h4 h5 h6⟩ rfl rfl h1.1 rfl (lv_room hst) d hf) (fun v M2 hp => by
      obtain ⟨r, rfl, hp⟩ := hp
      exact k r M2 hp)
theorem xr_callV2a (C : mq_C p m c cc nL s args Ts own D tys z) {y : MethodName} {bytes : ByteArray} {maxL index mc ms b ci : Nat} {ret : Option FieldType} {ws0 : List Cond} {rm : Room} {Cn : String} {T : u_T} {N : Nat} {fs : List Value} {a0 a1 : Value} {P : Nat → mq_M → Prop}
    (hM : mq_Met l y ws0 rm D tys [.ref b, a0, a1] M (mq_pa P) mc ms) (cw : CallW R s args own Cn index y bytes maxL ret ws0 rm mc ms 2) (hb : M b = some (.inr (ci, fs))) (hc : vwCl[ci]? = some (Cn, T, N)) (hst : (st.map fun v => v.category).sum ≤ 8) (hf : cells + mc ≤ R.cells ∧ slots + ms ≤ R.slots) (d : decode cc pc = .ok (.invokevirtual index, 3))
    (k : ∀ (r : Nat) (M2 : mq_M), P r M2 → mq_X p l e R s m args below meth c Q nL D z H0 (cells + mc) (slots + ms) M2 (pc + 3) L (.ref r :: st)) : mq_X p l e R s m args below meth c Q nL D z H0 cells slots M pc L (a1 :: a0 :: .ref b :: st) :=
  fun H locs la ws h1 h2 h3 h4 h5 h6 => by
    obtain ⟨q, hq⟩ := h4.at hb
    exact mq_call h1 h5 h6 (va_runV (As := [a0, a1]) (rest := st) C.1 (hM z) cw ⟨mq_blind, va_recv C.2.1 h2 hc hq, mq_pre C h2 h3 h4 h5 h6⟩ rfl rfl h1.1 rfl (lv_room hst) d hf) (fun v M2 hp => by
      obtain ⟨r, rfl, hp⟩ := hp
      exact k r M2 hp)
theorem xr_callV2aN (C : mq_C p m c cc nL s args Ts own D tys z) {y : MethodName} {bytes : ByteArray} {maxL index mc ms b ci : Nat} {ret : Option FieldType} {ws0 : List Cond} {rm : Room} {Cn host : String} {T : u_T} {N : Nat} {fs : List Value} {a0 a1 : Value} {P : Nat → mq_M → Prop}
    (hM : mq_Met l y ws0 rm D tys [.ref b, a0, a1] M (mq_pa P) mc ms) (cw : va_CN R s args own index y host bytes maxL ret ws0 rm mc ms 2 ∧ (Cond.instanceMethod y).before args s = true ∧ (Cond.selects Cn y y).before args s = true) (hb : M b = some (.inr (ci, fs))) (hc : vwCl[ci]? = some (Cn, T, N)) (hst : (st.map fun v => v.category).sum ≤ 8) (hf : cells + mc ≤ R.cells ∧ slots + ms ≤ R.slots) (d : decode cc pc = .ok (.invokevirtual index, 3))
    (k : ∀ (r : Nat) (M2 : mq_M), P r M2 → mq_X p l e R s m args below meth c Q nL D z H0 (cells + mc) (slots + ms) M2 (pc + 3) L (.ref r :: st)) : mq_X p l e R s m args below meth c Q nL D z H0 cells slots M pc L (a1 :: a0 :: .ref b :: st) :=
  fun H locs la ws h1 h2 h3 h4 h5 h6 => by
    obtain ⟨q, hq⟩ := h4.at hb
    exact mq_call h1 h5 h6 (va_runVN (As := [a0, a1]) (rest := st) C.1 (hM z) cw ⟨mq_blind, va_recv C.2.1 h2 hc hq, mq_pre C h2 h3 h4 h5 h6⟩ rfl rfl h1.1 rfl (lv_room hst) d hf) (fun v M2 hp => by
      obtain ⟨r, rfl, hp⟩ := hp
      exact k r M2 hp)
theorem xr_callS2a (C : mq_C p m c cc nL s args Ts own D tys z) {y : MethodName} {bytes : ByteArray} {maxL index mc ms : Nat} {ret : Option FieldType} {ws0 : List Cond} {rm : Room} {a0 a1 : Value} {P : Nat → mq_M → Prop}
    (hM : mq_Met l y ws0 rm D tys [a0, a1] M (mq_pa P) mc ms) (cw : CallB R s args own index y bytes maxL ret ws0 rm mc ms 2 ∧ (Cond.static y).before args s = true) (hst : (st.map fun v => v.category).sum ≤ 8) (hf : cells + mc ≤ R.cells ∧ slots + ms ≤ R.slots) (d : decode cc pc = .ok (.invokestatic index, 3))
    (k : ∀ (r : Nat) (M2 : mq_M), P r M2 → mq_X p l e R s m args below meth c Q nL D z H0 (cells + mc) (slots + ms) M2 (pc + 3) L (.ref r :: st)) : mq_X p l e R s m args below meth c Q nL D z H0 cells slots M pc L (a1 :: a0 :: st) :=
  fun H locs la ws h1 h2 h3 h4 h5 h6 =>
    mq_call h1 h5 h6 (va_runS (As := [a0, a1]) (rest := st) C.1 (hM z) cw ⟨mq_blind, mq_pre C h2 h3 h4 h5 h6⟩ rfl rfl h1.1 rfl (lv_room hst) d hf) (fun v M2 hp => by
      obtain ⟨r, rfl, hp⟩ := hp
      exact k r M2 hp)
theorem xr_callS2aN (C : mq_C p m c cc nL s args Ts own D tys z) {y : MethodName} {bytes : ByteArray} {maxL index mc ms : Nat} {ret : Option FieldType} {ws0 : List Cond} {rm : Room} {host : String} {a0 a1 : Value} {P : Nat → mq_M → Prop}
    (hM : mq_Met l y ws0 rm D tys [a0, a1] M (mq_pa P) mc ms) (cw : va_CN R s args own index y host bytes maxL ret ws0 rm mc ms 2 ∧ (Cond.static y).before args s = true ∧ True) (hst : (st.map fun v => v.category).sum ≤ 8) (hf : cells + mc ≤ R.cells ∧ slots + ms ≤ R.slots) (d : decode cc pc = .ok (.invokestatic index, 3))
    (k : ∀ (r : Nat) (M2 : mq_M), P r M2 → mq_X p l e R s m args below meth c Q nL D z H0 (cells + mc) (slots + ms) M2 (pc + 3) L (.ref r :: st)) : mq_X p l e R s m args below meth c Q nL D z H0 cells slots M pc L (a1 :: a0 :: st) :=
  fun H locs la ws h1 h2 h3 h4 h5 h6 =>
    mq_call h1 h5 h6 (va_runSN (As := [a0, a1]) (rest := st) C.1 (hM z) cw ⟨mq_blind, mq_pre C h2 h3 h4 h5 h6⟩ rfl rfl h1.1 rfl (lv_room hst) d hf) (fun v M2 hp => by
      obtain ⟨r, rfl, hp⟩ := hp
      exact k r M2 hp)
theorem xr_callV2n (C : mq_C p m c cc nL s args Ts own D tys z) {y : MethodName} {bytes : ByteArray} {maxL index mc ms b ci : Nat} {ret : Option FieldType} {ws0 : List Cond} {rm : Room} {Cn : String} {T : u_T} {N : Nat} {fs : List Value} {a0 a1 : Value} {P : mq_M → Prop}
    (hM : mq_Met l y ws0 rm D tys [.ref b, a0, a1] M (mq_pn P) mc ms) (cw : CallW R s args own Cn index y bytes maxL ret ws0 rm mc ms 2) (hb : M b = some (.inr (ci, fs))) (hc : vwCl[ci]? = some (Cn, T, N)) (hst : (st.map fun v => v.category).sum ≤ 8) (hf : cells + mc ≤ R.cells ∧ slots + ms ≤ R.slots) (d : decode cc pc = .ok (.invokevirtual index, 3))
    (k : ∀ (M2 : mq_M), P M2 → mq_X p l e R s m args below meth c Q nL D z H0 (cells + mc) (slots + ms) M2 (pc + 3) L (.null :: st)) : mq_X p l e R s m args below meth c Q nL D z H0 cells slots M pc L (a1 :: a0 :: .ref b :: st) :=
  fun H locs la ws h1 h2 h3 h4 h5 h6 => by
    obtain ⟨q, hq⟩ := h4.at hb
    exact mq_call h1 h5 h6 (va_runV (As := [a0, a1]) (rest := st) C.1 (hM z) cw ⟨mq_blind, va_recv C.2.1 h2 hc hq, mq_pre C h2 h3 h4 h5 h6⟩ rfl rfl h1.1 rfl (lv_room hst) d hf) (fun v M2 hp => by
      obtain ⟨rfl, hp⟩ := hp
      exact k M2 hp)
theorem xr_callV2nN (C : mq_C p m c cc nL s args Ts own D tys z) {y : MethodName} {bytes : ByteArray} {maxL index mc ms b ci : Nat} {ret : Option FieldType} {ws0 : List Cond} {rm : Room} {Cn host : String} {T : u_T} {N : Nat} {fs : List Value} {a0 a1 : Value} {P : mq_M → Prop}
    (hM : mq_Met l y ws0 rm D tys [.ref b, a0, a1] M (mq_pn P) mc ms) (cw : va_CN R s args own index y host bytes maxL ret ws0 rm mc ms 2 ∧ (Cond.instanceMethod y).before args s = true ∧ (Cond.selects Cn y y).before args s = true) (hb : M b = some (.inr (ci, fs))) (hc : vwCl[ci]? = some (Cn, T, N)) (hst : (st.map fun v => v.category).sum ≤ 8) (hf : cells + mc ≤ R.cells ∧ slots + ms ≤ R.slots) (d : decode cc pc = .ok (.invokevirtual index, 3))
    (k : ∀ (M2 : mq_M), P M2 → mq_X p l e R s m args below meth c Q nL D z H0 (cells + mc) (slots + ms) M2 (pc + 3) L (.null :: st)) : mq_X p l e R s m args below meth c Q nL D z H0 cells slots M pc L (a1 :: a0 :: .ref b :: st) :=
  fun H locs la ws h1 h2 h3 h4 h5 h6 => by
    obtain ⟨q, hq⟩ := h4.at hb
    exact mq_call h1 h5 h6 (va_runVN (As := [a0, a1]) (rest := st) C.1 (hM z) cw ⟨mq_blind, va_recv C.2.1 h2 hc hq, mq_pre C h2 h3 h4 h5 h6⟩ rfl rfl h1.1 rfl (lv_room hst) d hf) (fun v M2 hp => by
      obtain ⟨rfl, hp⟩ := hp
      exact k M2 hp)
theorem xr_callS2n (C : mq_C p m c cc nL s args Ts own D tys z) {y : MethodName} {bytes : ByteArray} {maxL index mc ms : Nat} {ret : Option FieldType} {ws0 : List Cond} {rm : Room} {a0 a1 : Value} {P : mq_M → Prop}
    (hM : mq_Met l y ws0 rm D tys [a0, a1] M (mq_pn P) mc ms) (cw : CallB R s args own index y bytes maxL ret ws0 rm mc ms 2 ∧ (Cond.static y).before args s = true) (hst : (st.map fun v => v.category).sum ≤ 8) (hf : cells + mc ≤ R.cells ∧ slots + ms ≤ R.slots) (d : decode cc pc = .ok (.invokestatic index, 3))
    (k : ∀ (M2 : mq_M), P M2 → mq_X p l e R s m args below meth c Q nL D z H0 (cells + mc) (slots + ms) M2 (pc + 3) L (.null :: st)) : mq_X p l e R s m args below meth c Q nL D z H0 cells slots M pc L (a1 :: a0 :: st) :=
  fun H locs la ws h1 h2 h3 h4 h5 h6 =>
    mq_call h1 h5 h6 (va_runS (As := [a0, a1]) (rest := st) C.1 (hM z) cw ⟨mq_blind, mq_pre C h2 h3 h4 h5 h6⟩ rfl rfl h1.1 rfl (lv_room hst) d hf) (fun v M2 hp => by
      obtain ⟨rfl, hp⟩ := hp
      exact k M2 hp)
theorem xr_callS2nN (C : mq_C p m c cc nL s args Ts own D tys z) {y : MethodName} {bytes : ByteArray} {maxL index mc ms : Nat} {ret : Option FieldType} {ws0 : List Cond} {rm : Room} {host : String} {a0 a1 : Value} {P : mq_M → Prop}
    (hM : mq_Met l y ws0 rm D tys [a0, a1] M (mq_pn P) mc ms) (cw : va_CN R s args own index y host bytes maxL ret ws0 rm mc ms 2 ∧ (Cond.static y).before args s = true ∧ True) (hst : (st.map fun v => v.category).sum ≤ 8) (hf : cells + mc ≤ R.cells ∧ slots + ms ≤ R.slots) (d : decode cc pc = .ok (.invokestatic index, 3))
    (k : ∀ (M2 : mq_M), P M2 → mq_X p l e R s m args below meth c Q nL D z H0 (cells + mc) (slots + ms) M2 (pc + 3) L (.null :: st)) : mq_X p l e R s m args below meth c Q nL D z H0 cells slots M pc L (a1 :: a0 :: st) :=
  fun H locs la ws h1 h2 h3 h4 h5 h6 =>
    mq_call h1 h5 h6 (va_runSN (As := [a0, a1]) (rest := st) C.1 (hM z) cw ⟨mq_blind, mq_pre C h2 h3 h4 h5 h6⟩ rfl rfl h1.1 rfl (lv_room hst) d hf) (fun v M2 hp => by
      obtain ⟨rfl, hp⟩ := hp
      exact k M2 hp)
theorem xr_callV2r (C : mq_C p m c cc nL s args Ts own D tys z) {y : MethodName} {bytes : ByteArray} {maxL index mc ms b ci : Nat} {ret : Option FieldType} {ws0 : List Cond} {rm : Room} {Cn : String} {T : u_T} {N : Nat} {fs : List Value} {a0 a1 : Value} {P : Option Nat → mq_M → Prop}
    (hM : mq_Met l y ws0 rm D tys [.ref b, a0, a1] M (mq_pr P) mc ms) (cw : CallW R s args own Cn index y bytes maxL ret ws0 rm mc ms 2) (hb : M b = some (.inr (ci, fs))) (hc : vwCl[ci]? = some (Cn, T, N)) (hst : (st.map fun v => v.category).sum ≤ 8) (hf : cells + mc ≤ R.cells ∧ slots + ms ≤ R.slots) (d : decode cc pc = .ok (.invokevirtual index, 3))
    (k : ∀ (r : Option Nat) (M2 : mq_M), P r M2 → mq_X p l e R s m args below meth c Q nL D z H0 (cells + mc) (slots + ms) M2 (pc + 3) L (va_rf r :: st)) : mq_X p l e R s m args below meth c Q nL D z H0 cells slots M pc L (a1 :: a0 :: .ref b :: st) :=
  fun H locs la ws h1 h2 h3 h4 h5 h6 => by
    obtain ⟨q, hq⟩ := h4.at hb
    exact mq_call h1 h5 h6 (va_runV (As := [a0, a1]) (rest := st) C.1 (hM z) cw ⟨mq_blind, va_recv C.2.1 h2 hc hq, mq_pre C h2 h3 h4 h5 h6⟩ rfl rfl h1.1 rfl (lv_room hst) d hf) (fun v M2 hp => by
      obtain ⟨r, rfl, hp⟩ := hp
      exact k r M2 hp)
theorem xr_callV2rN (C : mq_C p m c cc nL s args Ts own D tys z) {y : MethodName} {bytes : ByteArray} {maxL index mc ms b ci : Nat} {ret : Option FieldType} {ws0 : List Cond} {rm : Room} {Cn host : String} {T : u_T} {N : Nat} {fs : List Value} {a0 a1 : Value} {P : Option Nat → mq_M → Prop}
    (hM : mq_Met l y ws0 rm D tys [.ref b, a0, a1] M (mq_pr P) mc ms) (cw : va_CN R s args own index y host bytes maxL ret ws0 rm mc ms 2 ∧ (Cond.instanceMethod y).before args s = true ∧ (Cond.selects Cn y y).before args s = true) (hb : M b = some (.inr (ci, fs))) (hc : vwCl[ci]? = some (Cn, T, N)) (hst : (st.map fun v => v.category).sum ≤ 8) (hf : cells + mc ≤ R.cells ∧ slots + ms ≤ R.slots) (d : decode cc pc = .ok (.invokevirtual index, 3))
    (k : ∀ (r : Option Nat) (M2 : mq_M), P r M2 → mq_X p l e R s m args below meth c Q nL D z H0 (cells + mc) (slots + ms) M2 (pc + 3) L (va_rf r :: st)) : mq_X p l e R s m args below meth c Q nL D z H0 cells slots M pc L (a1 :: a0 :: .ref b :: st) :=
  fun H locs la ws h1 h2 h3 h4 h5 h6 => by
    obtain ⟨q, hq⟩ := h4.at hb
    exact mq_call h1 h5 h6 (va_runVN (As := [a0, a1]) (rest := st) C.1 (hM z) cw ⟨mq_blind, va_recv C.2.1 h2 hc hq, mq_pre C h2 h3 h4 h5 h6⟩ rfl rfl h1.1 rfl (lv_room hst) d hf) (fun v M2 hp => by
      obtain ⟨r, rfl, hp⟩ := hp
      exact k r M2 hp)
theorem xr_callS2r (C : mq_C p m c cc nL s args Ts own D tys z) {y : MethodName} {bytes : ByteArray} {maxL index mc ms : Nat} {ret : Option FieldType} {ws0 : List Cond} {rm : Room} {a0 a1 : Value} {P : Option Nat → mq_M → Prop}
    (hM : mq_Met l y ws0 rm D tys [a0, a1] M (mq_pr P) mc ms) (cw : CallB R s args own index y bytes maxL ret ws0 rm mc ms 2 ∧ (Cond.static y).before args s = true) (hst : (st.map fun v => v.category).sum ≤ 8) (hf : cells + mc ≤ R.cells ∧ slots + ms ≤ R.slots) (d : decode cc pc = .ok (.invokestatic index, 3))
    (k : ∀ (r : Option Nat) (M2 : mq_M), P r M2 → mq_X p l e R s m args below meth c Q nL D z H0 (cells + mc) (slots + ms) M2 (pc + 3) L (va_rf r :: st)) : mq_X p l e R s m args below meth c Q nL D z H0 cells slots M pc L (a1 :: a0 :: st) :=
  fun H locs la ws h1 h2 h3 h4 h5 h6 =>
    mq_call h1 h5 h6 (va_runS (As := [a0, a1]) (rest := st) C.1 (hM z) cw ⟨mq_blind, mq_pre C h2 h3 h4 h5 h6⟩ rfl rfl h1.1 rfl (lv_room hst) d hf) (fun v M2 hp => by
      obtain ⟨r, rfl, hp⟩ := hp
      exact k r M2 hp)
theorem xr_callS2rN (C : mq_C p m c cc nL s args Ts own D tys z) {y : MethodName} {bytes : ByteArray} {maxL index mc ms : Nat} {ret : Option FieldType} {ws0 : List Cond} {rm : Room} {host : String} {a0 a1 : Value} {P : Option Nat → mq_M → Prop}
    (hM : mq_Met l y ws0 rm D tys [a0, a1] M (mq_pr P) mc ms) (cw : va_CN R s args own index y host bytes maxL ret ws0 rm mc ms 2 ∧ (Cond.static y).before args s = true ∧ True) (hst : (st.map fun v => v.category).sum ≤ 8) (hf : cells + mc ≤ R.cells ∧ slots + ms ≤ R.slots) (d : decode cc pc = .ok (.invokestatic index, 3))
    (k : ∀ (r : Option Nat) (M2 : mq_M), P r M2 → mq_X p l e R s m args below meth c Q nL D z H0 (cells + mc) (slots + ms) M2 (pc + 3) L (va_rf r :: st)) : mq_X p l e R s m args below meth c Q nL D z H0 cells slots M pc L (a1 :: a0 :: st) :=
  fun H locs la ws h1 h2 h3 h4 h5 h6 =>
    mq_call h1 h5 h6 (va_runSN (As := [a0, a1]) (rest := st) C.1 (hM z) cw ⟨mq_blind, mq_pre C h2 h3 h4 h5 h6⟩ rfl rfl h1.1 rfl (lv_room hst) d hf) (fun v M2 hp => by
      obtain ⟨r, rfl, hp⟩ := hp
      exact k r M2 hp)
theorem xr_callV3i (C : mq_C p m c cc nL s args Ts own D tys z) {y : MethodName} {bytes : ByteArray} {maxL index mc ms b ci : Nat} {ret : Option FieldType} {ws0 : List Cond} {rm : Room} {Cn : String} {T : u_T} {N : Nat} {fs : List Value} {a0 a1 a2 : Value} {P : Int → mq_M → Prop}
    (hM : mq_Met l y ws0 rm D tys [.ref b, a0, a1, a2] M (mq_pi P) mc ms) (cw : CallW R s args own Cn index y bytes maxL ret ws0 rm mc ms 3) (hb : M b = some (.inr (ci, fs))) (hc : vwCl[ci]? = some (Cn, T, N)) (hst : (st.map fun v => v.category).sum ≤ 8) (hf : cells + mc ≤ R.cells ∧ slots + ms ≤ R.slots) (d : decode cc pc = .ok (.invokevirtual index, 3))
    (k : ∀ (r : Int) (M2 : mq_M), P r M2 → mq_X p l e R s m args below meth c Q nL D z H0 (cells + mc) (slots + ms) M2 (pc + 3) L (.int (zI r) :: st)) : mq_X p l e R s m args below meth c Q nL D z H0 cells slots M pc L (a2 :: a1 :: a0 :: .ref b :: st) :=
  fun H locs la ws h1 h2 h3 h4 h5 h6 => by
    obtain ⟨q, hq⟩ := h4.at hb
    exact mq_call h1 h5 h6 (va_runV (As := [a0, a1, a2]) (rest := st) C.1 (hM z) cw ⟨mq_blind, va_recv C.2.1 h2 hc hq, mq_pre C h2 h3 h4 h5 h6⟩ rfl rfl h1.1 rfl (lv_room hst) d hf) (fun v M2 hp => by
      obtain ⟨r, rfl, hp⟩ := hp
      exact k r M2 hp)
theorem xr_callV3iN (C : mq_C p m c cc nL s args Ts own D tys z) {y : MethodName} {bytes : ByteArray} {maxL index mc ms b ci : Nat} {ret : Option FieldType} {ws0 : List Cond} {rm : Room} {Cn host : String} {T : u_T} {N : Nat} {fs : List Value} {a0 a1 a2 : Value} {P : Int → mq_M → Prop}
    (hM : mq_Met l y ws0 rm D tys [.ref b, a0, a1, a2] M (mq_pi P) mc ms) (cw : va_CN R s args own index y host bytes maxL ret ws0 rm mc ms 3 ∧ (Cond.instanceMethod y).before args s = true ∧ (Cond.selects Cn y y).before args s = true) (hb : M b = some (.inr (ci, fs))) (hc : vwCl[ci]? = some (Cn, T, N)) (hst : (st.map fun v => v.category).sum ≤ 8) (hf : cells + mc ≤ R.cells ∧ slots + ms ≤ R.slots) (d : decode cc pc = .ok (.invokevirtual index, 3))
    (k : ∀ (r : Int) (M2 : mq_M), P r M2 → mq_X p l e R s m args below meth c Q nL D z H0 (cells + mc) (slots + ms) M2 (pc + 3) L (.int (zI r) :: st)) : mq_X p l e R s m args below meth c Q nL D z H0 cells slots M pc L (a2 :: a1 :: a0 :: .ref b :: st) :=
  fun H locs la ws h1 h2 h3 h4 h5 h6 => by
    obtain ⟨q, hq⟩ := h4.at hb
    exact mq_call h1 h5 h6 (va_runVN (As := [a0, a1, a2]) (rest := st) C.1 (hM z) cw ⟨mq_blind, va_recv C.2.1 h2 hc hq, mq_pre C h2 h3 h4 h5 h6⟩ rfl rfl h1.1 rfl (lv_room hst) d hf) (fun v M2 hp => by
      obtain ⟨r, rfl, hp⟩ := hp
      exact k r M2 hp)
theorem xr_callS3i (C : mq_C p m c cc nL s args Ts own D tys z) {y : MethodName} {bytes : ByteArray} {maxL index mc ms : Nat} {ret : Option FieldType} {ws0 : List Cond} {rm : Room} {a0 a1 a2 : Value} {P : Int → mq_M → Prop}
    (hM : mq_Met l y ws0 rm D tys [a0, a1, a2] M (mq_pi P) mc ms) (cw : CallB R s args own index y bytes maxL ret ws0 rm mc ms 3 ∧ (Cond.static y).before args s = true) (hst : (st.map fun v => v.category).sum ≤ 8) (hf : cells + mc ≤ R.cells ∧ slots + ms ≤ R.slots) (d : decode cc pc = .ok (.invokestatic index, 3))
    (k : ∀ (r : Int) (M2 : mq_M), P r M2 → mq_X p l e R s m args below meth c Q nL D z H0 (cells + mc) (slots + ms) M2 (pc + 3) L (.int (zI r) :: st)) : mq_X p l e R s m args below meth c Q nL D z H0 cells slots M pc L (a2 :: a1 :: a0 :: st) :=
  fun H locs la ws h1 h2 h3 h4 h5 h6 =>
    mq_call h1 h5 h6 (va_runS (As := [a0, a1, a2]) (rest := st) C.1 (hM z) cw ⟨mq_blind, mq_pre C h2 h3 h4 h5 h6⟩ rfl rfl h1.1 rfl (lv_room hst) d hf) (fun v M2 hp => by
      obtain ⟨r, rfl, hp⟩ := hp
      exact k r M2 hp)
theorem xr_callS3iN (C : mq_C p m c cc nL s args Ts own D tys z) {y : MethodName} {bytes : ByteArray} {maxL index mc ms : Nat} {ret : Option FieldType} {ws0 : List Cond} {rm : Room} {host : String} {a0 a1 a2 : Value} {P : Int → mq_M → Prop}
    (hM : mq_Met l y ws0 rm D tys [a0, a1, a2] M (mq_pi P) mc ms) (cw : va_CN R s args own index y host bytes maxL ret ws0 rm mc ms 3 ∧ (Cond.static y).before args s = true ∧ True) (hst : (st.map fun v => v.category).sum ≤ 8) (hf : cells + mc ≤ R.cells ∧ slots + ms ≤ R.slots) (d : decode cc pc = .ok (.invokestatic index, 3))
    (k : ∀ (r : Int) (M2 : mq_M), P r M2 → mq_X p l e R s m args below meth c Q nL D z H0 (cells + mc) (slots + ms) M2 (pc + 3) L (.int (zI r) :: st)) : mq_X p l e R s m args below meth c Q nL D z H0 cells slots M pc L (a2 :: a1 :: a0 :: st) :=
  fun H locs la ws h1 h2 h3 h4 h5 h6 =>
    mq_call h1 h5 h6 (va_runSN (As := [a0, a1, a2]) (rest := st) C.1 (hM z) cw ⟨mq_blind, mq_pre C h2 h3 h4 h5 h6⟩ rfl rfl h1.1 rfl (lv_room hst) d hf) (fun v M2 hp => by
      obtain ⟨r, rfl, hp⟩ := hp
      exact k r M2 hp)
theorem xr_callV3v (C : mq_C p m c cc nL s args Ts own D tys z) {y : MethodName} {bytes : ByteArray} {maxL index mc ms b ci : Nat} {ret : Option FieldType} {ws0 : List Cond} {rm : Room} {Cn : String} {T : u_T} {N : Nat} {fs : List Value} {a0 a1 a2 : Value} {P : mq_M → Prop}
    (hM : mq_Met l y ws0 rm D tys [.ref b, a0, a1, a2] M (mq_pv P) mc ms) (cw : CallW R s args own Cn index y bytes maxL ret ws0 rm mc ms 3) (hb : M b = some (.inr (ci, fs))) (hc : vwCl[ci]? = some (Cn, T, N)) (hst : (st.map fun v => v.category).sum ≤ 8) (hf : cells + mc ≤ R.cells ∧ slots + ms ≤ R.slots) (d : decode cc pc = .ok (.invokevirtual index, 3))
    (k : ∀ (M2 : mq_M), P M2 → mq_X p l e R s m args below meth c Q nL D z H0 (cells + mc) (slots + ms) M2 (pc + 3) L st) : mq_X p l e R s m args below meth c Q nL D z H0 cells slots M pc L (a2 :: a1 :: a0 :: .ref b :: st) :=
  fun H locs la ws h1 h2 h3 h4 h5 h6 => by
    obtain ⟨q, hq⟩ := h4.at hb
    exact mq_call h1 h5 h6 (va_runV (As := [a0, a1, a2]) (rest := st) C.1 (hM z) cw ⟨mq_blind, va_recv C.2.1 h2 hc hq, mq_pre C h2 h3 h4 h5 h6⟩ rfl rfl h1.1 rfl (lv_room hst) d hf) (fun v M2 hp => by
      obtain ⟨rfl, hp⟩ := hp
      exact k M2 hp)
theorem xr_callV3vN (C : mq_C p m c cc nL s args Ts own D tys z) {y : MethodName} {bytes : ByteArray} {maxL index mc ms b ci : Nat} {ret : Option FieldType} {ws0 : List Cond} {rm : Room} {Cn host : String} {T : u_T} {N : Nat} {fs : List Value} {a0 a1 a2 : Value} {P : mq_M → Prop}
    (hM : mq_Met l y ws0 rm D tys [.ref b, a0, a1, a2] M (mq_pv P) mc ms) (cw : va_CN R s args own index y host bytes maxL ret ws0 rm mc ms 3 ∧ (Cond.instanceMethod y).before args s = true ∧ (Cond.selects Cn y y).before args s = true) (hb : M b = some (.inr (ci, fs))) (hc : vwCl[ci]? = some (Cn, T, N)) (hst : (st.map fun v => v.category).sum ≤ 8) (hf : cells + mc ≤ R.cells ∧ slots + ms ≤ R.slots) (d : decode cc pc = .ok (.invokevirtual index, 3))
    (k : ∀ (M2 : mq_M), P M2 → mq_X p l e R s m args below meth c Q nL D z H0 (cells + mc) (slots + ms) M2 (pc + 3) L st) : mq_X p l e R s m args below meth c Q nL D z H0 cells slots M pc L (a2 :: a1 :: a0 :: .ref b :: st) :=
  fun H locs la ws h1 h2 h3 h4 h5 h6 => by
    obtain ⟨q, hq⟩ := h4.at hb
    exact mq_call h1 h5 h6 (va_runVN (As := [a0, a1, a2]) (rest := st) C.1 (hM z) cw ⟨mq_blind, va_recv C.2.1 h2 hc hq, mq_pre C h2 h3 h4 h5 h6⟩ rfl rfl h1.1 rfl (lv_room hst) d hf) (fun v M2 hp => by
      obtain ⟨rfl, hp⟩ := hp
      exact k M2 hp)
theorem xr_callS3v (C : mq_C p m c cc nL s args Ts own D tys z) {y : MethodName} {bytes : ByteArray} {maxL index mc ms : Nat} {ret : Option FieldType} {ws0 : List Cond} {rm : Room} {a0 a1 a2 : Value} {P : mq_M → Prop}
    (hM : mq_Met l y ws0 rm D tys [a0, a1, a2] M (mq_pv P) mc ms) (cw : CallB R s args own index y bytes maxL ret ws0 rm mc ms 3 ∧ (Cond.static y).before args s = true) (hst : (st.map fun v => v.category).sum ≤ 8) (hf : cells + mc ≤ R.cells ∧ slots + ms ≤ R.slots) (d : decode cc pc = .ok (.invokestatic index, 3))
    (k : ∀ (M2 : mq_M), P M2 → mq_X p l e R s m args below meth c Q nL D z H0 (cells + mc) (slots + ms) M2 (pc + 3) L st) : mq_X p l e R s m args below meth c Q nL D z H0 cells slots M pc L (a2 :: a1 :: a0 :: st) :=
  fun H locs la ws h1 h2 h3 h4 h5 h6 =>
    mq_call h1 h5 h6 (va_runS (As := [a0, a1, a2]) (rest := st) C.1 (hM z) cw ⟨mq_blind, mq_pre C h2 h3 h4 h5 h6⟩ rfl rfl h1.1 rfl (lv_room hst) d hf) (fun v M2 hp => by
      obtain ⟨rfl, hp⟩ := hp
      exact k M2 hp)
theorem xr_callS3vN (C : mq_C p m c cc nL s args Ts own D tys z) {y : MethodName} {bytes : ByteArray} {maxL index mc ms : Nat} {ret : Option FieldType} {ws0 : List Cond} {rm : Room} {host : String} {a0 a1 a2 : Value} {P : mq_M → Prop}
    (hM : mq_Met l y ws0 rm D tys [a0, a1, a2] M (mq_pv P) mc ms) (cw : va_CN R s args own index y host bytes maxL ret ws0 rm mc ms 3 ∧ (Cond.static y).before args s = true ∧ True) (hst : (st.map fun v => v.category).sum ≤ 8) (hf : cells + mc ≤ R.cells ∧ slots + ms ≤ R.slots) (d : decode cc pc = .ok (.invokestatic index, 3))
    (k : ∀ (M2 : mq_M), P M2 → mq_X p l e R s m args below meth c Q nL D z H0 (cells + mc) (slots + ms) M2 (pc + 3) L st) : mq_X p l e R s m args below meth c Q nL D z H0 cells slots M pc L (a2 :: a1 :: a0 :: st) :=
  fun H locs la ws h1 h2 h3 h4 h5 h6 =>
    mq_call h1 h5 h6 (va_runSN (As := [a0, a1, a2]) (rest := st) C.1 (hM z) cw ⟨mq_blind, mq_pre C h2 h3 h4 h5 h6⟩ rfl rfl h1.1 rfl (lv_room hst) d hf) (fun v M2 hp => by
      obtain ⟨rfl, hp⟩ := hp
      exact k M2 hp)
theorem xr_callI3 (C : mq_C p m c cc nL s args Ts own D tys z) {y : MethodName} {bytes : ByteArray} {maxL index mc ms b : Nat} {ws0 : List Cond} {rm : Room} {a0 a1 a2 : Value} {P : mq_M → Prop}
    (hM : mq_Met l y ws0 rm D tys [.ref b, a0, a1, a2] M (mq_pv P) mc ms) (cw : CallB R s args own index y bytes maxL none ws0 rm mc ms 3 ∧ y.name = "<init>" ∧ (Cond.instanceMethod y).before args s = true) (hst : (st.map fun v => v.category).sum ≤ 8) (hf : cells + mc ≤ R.cells ∧ slots + ms ≤ R.slots) (d : decode cc pc = .ok (.invokespecial index, 3))
    (k : ∀ (M2 : mq_M), P M2 → mq_X p l e R s m args below meth c Q nL D z H0 (cells + mc) (slots + ms) M2 (pc + 3) L st) : mq_X p l e R s m args below meth c Q nL D z H0 cells slots M pc L (a2 :: a1 :: a0 :: .ref b :: st) :=
  fun H locs la ws h1 h2 h3 h4 h5 h6 =>
    mq_call h1 h5 h6 (va_runI (As := [a0, a1, a2]) (rest := st) C.1 (hM z) cw ⟨mq_blind, mq_pre C h2 h3 h4 h5 h6⟩ rfl rfl h1.1 rfl (lv_room hst) d hf) (fun v M2 hp => by
      obtain ⟨rfl, hp⟩ := hp
      exact k M2 hp)
theorem xr_callI3N (C : mq_C p m c cc nL s args Ts own D tys z) {y : MethodName} {bytes : ByteArray} {maxL index mc ms b : Nat} {ws0 : List Cond} {rm : Room} {host : String} {a0 a1 a2 : Value} {P : mq_M → Prop}
    (hM : mq_Met l y ws0 rm D tys [.ref b, a0, a1, a2] M (mq_pv P) mc ms) (cw : va_CN R s args own index y host bytes maxL none ws0 rm mc ms 3 ∧ y.name = "<init>" ∧ (Cond.instanceMethod y).before args s = true) (hst : (st.map fun v => v.category).sum ≤ 8) (hf : cells + mc ≤ R.cells ∧ slots + ms ≤ R.slots) (d : decode cc pc = .ok (.invokespecial index, 3))
    (k : ∀ (M2 : mq_M), P M2 → mq_X p l e R s m args below meth c Q nL D z H0 (cells + mc) (slots + ms) M2 (pc + 3) L st) : mq_X p l e R s m args below meth c Q nL D z H0 cells slots M pc L (a2 :: a1 :: a0 :: .ref b :: st) :=
  fun H locs la ws h1 h2 h3 h4 h5 h6 =>
    mq_call h1 h5 h6 (va_runIN (As := [a0, a1, a2]) (rest := st) C.1 (hM z) cw ⟨mq_blind, mq_pre C h2 h3 h4 h5 h6⟩ rfl rfl h1.1 rfl (lv_room hst) d hf) (fun v M2 hp => by
      obtain ⟨rfl, hp⟩ := hp
      exact k M2 hp)
theorem xr_callV3l (C : mq_C p m c cc nL s args Ts own D tys z) {y : MethodName} {bytes : ByteArray} {maxL index mc ms b ci : Nat} {ret : Option FieldType} {ws0 : List Cond} {rm : Room} {Cn : String} {T : u_T} {N : Nat} {fs : List Value} {a0 a1 a2 : Value} {P : Int64 → mq_M → Prop}
    (hM : mq_Met l y ws0 rm D tys [.ref b, a0, a1, a2] M (mq_pl P) mc ms) (cw : CallW R s args own Cn index y bytes maxL ret ws0 rm mc ms 3) (hb : M b = some (.inr (ci, fs))) (hc : vwCl[ci]? = some (Cn, T, N)) (hst : (st.map fun v => v.category).sum ≤ 8) (hf : cells + mc ≤ R.cells ∧ slots + ms ≤ R.slots) (d : decode cc pc = .ok (.invokevirtual index, 3))
    (k : ∀ (r : Int64) (M2 : mq_M), P r M2 → mq_X p l e R s m args below meth c Q nL D z H0 (cells + mc) (slots + ms) M2 (pc + 3) L (.long r :: st)) : mq_X p l e R s m args below meth c Q nL D z H0 cells slots M pc L (a2 :: a1 :: a0 :: .ref b :: st) :=
  fun H locs la ws h1 h2 h3 h4 h5 h6 => by
    obtain ⟨q, hq⟩ := h4.at hb
    exact mq_call h1 h5 h6 (va_runV (As := [a0, a1, a2]) (rest := st) C.1 (hM z) cw ⟨mq_blind, va_recv C.2.1 h2 hc hq, mq_pre C h2 h3 h4 h5 h6⟩ rfl rfl h1.1 rfl (lv_room hst) d hf) (fun v M2 hp => by
      obtain ⟨r, rfl, hp⟩ := hp
      exact k r M2 hp)
theorem xr_callV3lN (C : mq_C p m c cc nL s args Ts own D tys z) {y : MethodName} {bytes : ByteArray} {maxL index mc ms b ci : Nat} {ret : Option FieldType} {ws0 : List Cond} {rm : Room} {Cn host : String} {T : u_T} {N : Nat} {fs : List Value} {a0 a1 a2 : Value} {P : Int64 → mq_M → Prop}
    (hM : mq_Met l y ws0 rm D tys [.ref b, a0, a1, a2] M (mq_pl P) mc ms) (cw : va_CN R s args own index y host bytes maxL ret ws0 rm mc ms 3 ∧ (Cond.instanceMethod y).before args s = true ∧ (Cond.selects Cn y y).before args s = true) (hb : M b = some (.inr (ci, fs))) (hc : vwCl[ci]? = some (Cn, T, N)) (hst : (st.map fun v => v.category).sum ≤ 8) (hf : cells + mc ≤ R.cells ∧ slots + ms ≤ R.slots) (d : decode cc pc = .ok (.invokevirtual index, 3))
    (k : ∀ (r : Int64) (M2 : mq_M), P r M2 → mq_X p l e R s m args below meth c Q nL D z H0 (cells + mc) (slots + ms) M2 (pc + 3) L (.long r :: st)) : mq_X p l e R s m args below meth c Q nL D z H0 cells slots M pc L (a2 :: a1 :: a0 :: .ref b :: st) :=
  fun H locs la ws h1 h2 h3 h4 h5 h6 => by
    obtain ⟨q, hq⟩ := h4.at hb
    exact mq_call h1 h5 h6 (va_runVN (As := [a0, a1, a2]) (rest := st) C.1 (hM z) cw ⟨mq_blind, va_recv C.2.1 h2 hc hq, mq_pre C h2 h3 h4 h5 h6⟩ rfl rfl h1.1 rfl (lv_room hst) d hf) (fun v M2 hp => by
      obtain ⟨r, rfl, hp⟩ := hp
      exact k r M2 hp)
theorem xr_callS3l (C : mq_C p m c cc nL s args Ts own D tys z) {y : MethodName} {bytes : ByteArray} {maxL index mc ms : Nat} {ret : Option FieldType} {ws0 : List Cond} {rm : Room} {a0 a1 a2 : Value} {P : Int64 → mq_M → Prop}
    (hM : mq_Met l y ws0 rm D tys [a0, a1, a2] M (mq_pl P) mc ms) (cw : CallB R s args own index y bytes maxL ret ws0 rm mc ms 3 ∧ (Cond.static y).before args s = true) (hst : (st.map fun v => v.category).sum ≤ 8) (hf : cells + mc ≤ R.cells ∧ slots + ms ≤ R.slots) (d : decode cc pc = .ok (.invokestatic index, 3))
    (k : ∀ (r : Int64) (M2 : mq_M), P r M2 → mq_X p l e R s m args below meth c Q nL D z H0 (cells + mc) (slots + ms) M2 (pc + 3) L (.long r :: st)) : mq_X p l e R s m args below meth c Q nL D z H0 cells slots M pc L (a2 :: a1 :: a0 :: st) :=
  fun H locs la ws h1 h2 h3 h4 h5 h6 =>
    mq_call h1 h5 h6 (va_runS (As := [a0, a1, a2]) (rest := st) C.1 (hM z) cw ⟨mq_blind, mq_pre C h2 h3 h4 h5 h6⟩ rfl rfl h1.1 rfl (lv_room hst) d hf) (fun v M2 hp => by
      obtain ⟨r, rfl, hp⟩ := hp
      exact k r M2 hp)
theorem xr_callS3lN (C : mq_C p m c cc nL s args Ts own D tys z) {y : MethodName} {bytes : ByteArray} {maxL index mc ms : Nat} {ret : Option FieldType} {ws0 : List Cond} {rm : Room} {host : String} {a0 a1 a2 : Value} {P : Int64 → mq_M → Prop}
    (hM : mq_Met l y ws0 rm D tys [a0, a1, a2] M (mq_pl P) mc ms) (cw : va_CN R s args own index y host bytes maxL ret ws0 rm mc ms 3 ∧ (Cond.static y).before args s = true ∧ True) (hst : (st.map fun v => v.category).sum ≤ 8) (hf : cells + mc ≤ R.cells ∧ slots + ms ≤ R.slots) (d : decode cc pc = .ok (.invokestatic index, 3))
    (k : ∀ (r : Int64) (M2 : mq_M), P r M2 → mq_X p l e R s m args below meth c Q nL D z H0 (cells + mc) (slots + ms) M2 (pc + 3) L (.long r :: st)) : mq_X p l e R s m args below meth c Q nL D z H0 cells slots M pc L (a2 :: a1 :: a0 :: st) :=
  fun H locs la ws h1 h2 h3 h4 h5 h6 =>
    mq_call h1 h5 h6 (va_runSN (As := [a0, a1, a2]) (rest := st) C.1 (hM z) cw ⟨mq_blind, mq_pre C h2 h3 h4 h5 h6⟩ rfl rfl h1.1 rfl (lv_room hst) d hf) (fun v M2 hp => by
      obtain ⟨r, rfl, hp⟩ := hp
      exact k r M2 hp)
theorem xr_callV3a (C : mq_C p m c cc nL s args Ts own D tys z) {y : MethodName} {bytes : ByteArray} {maxL index mc ms b ci : Nat} {ret : Option FieldType} {ws0 : List Cond} {rm : Room} {Cn : String} {T : u_T} {N : Nat} {fs : List Value} {a0 a1 a2 : Value} {P : Nat → mq_M → Prop}
    (hM : mq_Met l y ws0 rm D tys [.ref b, a0, a1, a2] M (mq_pa P) mc ms) (cw : CallW R s args own Cn index y bytes maxL ret ws0 rm mc ms 3) (hb : M b = some (.inr (ci, fs))) (hc : vwCl[ci]? = some (Cn, T, N)) (hst : (st.map fun v => v.category).sum ≤ 8) (hf : cells + mc ≤ R.cells ∧ slots + ms ≤ R.slots) (d : decode cc pc = .ok (.invokevirtual index, 3))
    (k : ∀ (r : Nat) (M2 : mq_M), P r M2 → mq_X p l e R s m args below meth c Q nL D z H0 (cells + mc) (slots + ms) M2 (pc + 3) L (.ref r :: st)) : mq_X p l e R s m args below meth c Q nL D z H0 cells slots M pc L (a2 :: a1 :: a0 :: .ref b :: st) :=
  fun H locs la ws h1 h2 h3 h4 h5 h6 => by
    obtain ⟨q, hq⟩ := h4.at hb
    exact mq_call h1 h5 h6 (va_runV (As := [a0, a1, a2]) (rest := st) C.1 (hM z) cw ⟨mq_blind, va_recv C.2.1 h2 hc hq, mq_pre C h2 h3 h4 h5 h6⟩ rfl rfl h1.1 rfl (lv_room hst) d hf) (fun v M2 hp => by
      obtain ⟨r, rfl, hp⟩ := hp
      exact k r M2 hp)
theorem xr_callV3aN (C : mq_C p m c cc nL s args Ts own D tys z) {y : MethodName} {bytes : ByteArray} {maxL index mc ms b ci : Nat} {ret : Option FieldType} {ws0 : List Cond} {rm : Room} {Cn host : String} {T : u_T} {N : Nat} {fs : List Value} {a0 a1 a2 : Value} {P : Nat → mq_M → Prop}
    (hM : mq_Met l y ws0 rm D tys [.ref b, a0, a1, a2] M (mq_pa P) mc ms) (cw : va_CN R s args own index y host bytes maxL ret ws0 rm mc ms 3 ∧ (Cond.instanceMethod y).before args s = true ∧ (Cond.selects Cn y y).before args s = true) (hb : M b = some (.inr (ci, fs))) (hc : vwCl[ci]? = some (Cn, T, N)) (hst : (st.map fun v => v.category).sum ≤ 8) (hf : cells + mc ≤ R.cells ∧ slots + ms ≤ R.slots) (d : decode cc pc = .ok (.invokevirtual index, 3))
    (k : ∀ (r : Nat) (M2 : mq_M), P r M2 → mq_X p l e R s m args below meth c Q nL D z H0 (cells + mc) (slots + ms) M2 (pc + 3) L (.ref r :: st)) : mq_X p l e R s m args below meth c Q nL D z H0 cells slots M pc L (a2 :: a1 :: a0 :: .ref b :: st) :=
  fun H locs la ws h1 h2 h3 h4 h5 h6 => by
    obtain ⟨q, hq⟩ := h4.at hb
    exact mq_call h1 h5 h6 (va_runVN (As := [a0, a1, a2]) (rest := st) C.1 (hM z) cw ⟨mq_blind, va_recv C.2.1 h2 hc hq, mq_pre C h2 h3 h4 h5 h6⟩ rfl rfl h1.1 rfl (lv_room hst) d hf) (fun v M2 hp => by
      obtain ⟨r, rfl, hp⟩ := hp
      exact k r M2 hp)
theorem xr_callS3a (C : mq_C p m c cc nL s args Ts own D tys z) {y : MethodName} {bytes : ByteArray} {maxL index mc ms : Nat} {ret : Option FieldType} {ws0 : List Cond} {rm : Room} {a0 a1 a2 : Value} {P : Nat → mq_M → Prop}
    (hM : mq_Met l y ws0 rm D tys [a0, a1, a2] M (mq_pa P) mc ms) (cw : CallB R s args own index y bytes maxL ret ws0 rm mc ms 3 ∧ (Cond.static y).before args s = true) (hst : (st.map fun v => v.category).sum ≤ 8) (hf : cells + mc ≤ R.cells ∧ slots + ms ≤ R.slots) (d : decode cc pc = .ok (.invokestatic index, 3))
    (k : ∀ (r : Nat) (M2 : mq_M), P r M2 → mq_X p l e R s m args below meth c Q nL D z H0 (cells + mc) (slots + ms) M2 (pc + 3) L (.ref r :: st)) : mq_X p l e R s m args below meth c Q nL D z H0 cells slots M pc L (a2 :: a1 :: a0 :: st) :=
  fun H locs la ws h1 h2 h3 h4 h5 h6 =>
    mq_call h1 h5 h6 (va_runS (As := [a0, a1, a2]) (rest := st) C.1 (hM z) cw ⟨mq_blind, mq_pre C h2 h3 h4 h5 h6⟩ rfl rfl h1.1 rfl (lv_room hst) d hf) (fun v M2 hp => by
      obtain ⟨r, rfl, hp⟩ := hp
      exact k r M2 hp)
theorem xr_callS3aN (C : mq_C p m c cc nL s args Ts own D tys z) {y : MethodName} {bytes : ByteArray} {maxL index mc ms : Nat} {ret : Option FieldType} {ws0 : List Cond} {rm : Room} {host : String} {a0 a1 a2 : Value} {P : Nat → mq_M → Prop}
    (hM : mq_Met l y ws0 rm D tys [a0, a1, a2] M (mq_pa P) mc ms) (cw : va_CN R s args own index y host bytes maxL ret ws0 rm mc ms 3 ∧ (Cond.static y).before args s = true ∧ True) (hst : (st.map fun v => v.category).sum ≤ 8) (hf : cells + mc ≤ R.cells ∧ slots + ms ≤ R.slots) (d : decode cc pc = .ok (.invokestatic index, 3))
    (k : ∀ (r : Nat) (M2 : mq_M), P r M2 → mq_X p l e R s m args below meth c Q nL D z H0 (cells + mc) (slots + ms) M2 (pc + 3) L (.ref r :: st)) : mq_X p l e R s m args below meth c Q nL D z H0 cells slots M pc L (a2 :: a1 :: a0 :: st) :=
  fun H locs la ws h1 h2 h3 h4 h5 h6 =>
    mq_call h1 h5 h6 (va_runSN (As := [a0, a1, a2]) (rest := st) C.1 (hM z) cw ⟨mq_blind, mq_pre C h2 h3 h4 h5 h6⟩ rfl rfl h1.1 rfl (lv_room hst) d hf) (fun v M2 hp => by
      obtain ⟨r, rfl, hp⟩ := hp
      exact k r M2 hp)
theorem xr_callV3n (C : mq_C p m c cc nL s args Ts own D tys z) {y : MethodName} {bytes : ByteArray} {maxL index mc ms b ci : Nat} {ret : Option FieldType} {ws0 : List Cond} {rm : Room} {Cn : String} {T : u_T} {N : Nat} {fs : List Value} {a0 a1 a2 : Value} {P : mq_M → Prop}
    (hM : mq_Met l y ws0 rm D tys [.ref b, a0, a1, a2] M (mq_pn P) mc ms) (cw : CallW R s args own Cn index y bytes maxL ret ws0 rm mc ms 3) (hb : M b = some (.inr (ci, fs))) (hc : vwCl[ci]? = some (Cn, T, N)) (hst : (st.map fun v => v.category).sum ≤ 8) (hf : cells + mc ≤ R.cells ∧ slots + ms ≤ R.slots) (d : decode cc pc = .ok (.invokevirtual index, 3))
    (k : ∀ (M2 : mq_M), P M2 → mq_X p l e R s m args below meth c Q nL D z H0 (cells + mc) (slots + ms) M2 (pc + 3) L (.null :: st)) : mq_X p l e R s m args below meth c Q nL D z H0 cells slots M pc L (a2 :: a1 :: a0 :: .ref b :: st) :=
  fun H locs la ws h1 h2 h3 h4 h5 h6 => by
    obtain ⟨q, hq⟩ := h4.at hb
    exact mq_call h1 h5 h6 (va_runV (As := [a0, a1, a2]) (rest := st) C.1 (hM z) cw ⟨mq_blind, va_recv C.2.1 h2 hc hq, mq_pre C h2 h3 h4 h5 h6⟩ rfl rfl h1.1 rfl (lv_room hst) d hf) (fun v M2 hp => by
      obtain ⟨rfl, hp⟩ := hp
      exact k M2 hp)
theorem xr_callV3nN (C : mq_C p m c cc nL s args Ts own D tys z) {y : MethodName} {bytes : ByteArray} {maxL index mc ms b ci : Nat} {ret : Option FieldType} {ws0 : List Cond} {rm : Room} {Cn host : String} {T : u_T} {N : Nat} {fs : List Value} {a0 a1 a2 : Value} {P : mq_M → Prop}
    (hM : mq_Met l y ws0 rm D tys [.ref b, a0, a1, a2] M (mq_pn P) mc ms) (cw : va_CN R s args own index y host bytes maxL ret ws0 rm mc ms 3 ∧ (Cond.instanceMethod y).before args s = true ∧ (Cond.selects Cn y y).before args s = true) (hb : M b = some (.inr (ci, fs))) (hc : vwCl[ci]? = some (Cn, T, N)) (hst : (st.map fun v => v.category).sum ≤ 8) (hf : cells + mc ≤ R.cells ∧ slots + ms ≤ R.slots) (d : decode cc pc = .ok (.invokevirtual index, 3))
    (k : ∀ (M2 : mq_M), P M2 → mq_X p l e R s m args below meth c Q nL D z H0 (cells + mc) (slots + ms) M2 (pc + 3) L (.null :: st)) : mq_X p l e R s m args below meth c Q nL D z H0 cells slots M pc L (a2 :: a1 :: a0 :: .ref b :: st) :=
  fun H locs la ws h1 h2 h3 h4 h5 h6 => by
    obtain ⟨q, hq⟩ := h4.at hb
    exact mq_call h1 h5 h6 (va_runVN (As := [a0, a1, a2]) (rest := st) C.1 (hM z) cw ⟨mq_blind, va_recv C.2.1 h2 hc hq, mq_pre C h2 h3 h4 h5 h6⟩ rfl rfl h1.1 rfl (lv_room hst) d hf) (fun v M2 hp => by
      obtain ⟨rfl, hp⟩ := hp
      exact k M2 hp)
theorem xr_callS3n (C : mq_C p m c cc nL s args Ts own D tys z) {y : MethodName} {bytes : ByteArray} {maxL index mc ms : Nat} {ret : Option FieldType} {ws0 : List Cond} {rm : Room} {a0 a1 a2 : Value} {P : mq_M → Prop}
    (hM : mq_Met l y ws0 rm D tys [a0, a1, a2] M (mq_pn P) mc ms) (cw : CallB R s args own index y bytes maxL ret ws0 rm mc ms 3 ∧ (Cond.static y).before args s = true) (hst : (st.map fun v => v.category).sum ≤ 8) (hf : cells + mc ≤ R.cells ∧ slots + ms ≤ R.slots) (d : decode cc pc = .ok (.invokestatic index, 3))
    (k : ∀ (M2 : mq_M), P M2 → mq_X p l e R s m args below meth c Q nL D z H0 (cells + mc) (slots + ms) M2 (pc + 3) L (.null :: st)) : mq_X p l e R s m args below meth c Q nL D z H0 cells slots M pc L (a2 :: a1 :: a0 :: st) :=
  fun H locs la ws h1 h2 h3 h4 h5 h6 =>
    mq_call h1 h5 h6 (va_runS (As := [a0, a1, a2]) (rest := st) C.1 (hM z) cw ⟨mq_blind, mq_pre C h2 h3 h4 h5 h6⟩ rfl rfl h1.1 rfl (lv_room hst) d hf) (fun v M2 hp => by
      obtain ⟨rfl, hp⟩ := hp
      exact k M2 hp)
theorem xr_callS3nN (C : mq_C p m c cc nL s args Ts own D tys z) {y : MethodName} {bytes : ByteArray} {maxL index mc ms : Nat} {ret : Option FieldType} {ws0 : List Cond} {rm : Room} {host : String} {a0 a1 a2 : Value} {P : mq_M → Prop}
    (hM : mq_Met l y ws0 rm D tys [a0, a1, a2] M (mq_pn P) mc ms) (cw : va_CN R s args own index y host bytes maxL ret ws0 rm mc ms 3 ∧ (Cond.static y).before args s = true ∧ True) (hst : (st.map fun v => v.category).sum ≤ 8) (hf : cells + mc ≤ R.cells ∧ slots + ms ≤ R.slots) (d : decode cc pc = .ok (.invokestatic index, 3))
    (k : ∀ (M2 : mq_M), P M2 → mq_X p l e R s m args below meth c Q nL D z H0 (cells + mc) (slots + ms) M2 (pc + 3) L (.null :: st)) : mq_X p l e R s m args below meth c Q nL D z H0 cells slots M pc L (a2 :: a1 :: a0 :: st) :=
  fun H locs la ws h1 h2 h3 h4 h5 h6 =>
    mq_call h1 h5 h6 (va_runSN (As := [a0, a1, a2]) (rest := st) C.1 (hM z) cw ⟨mq_blind, mq_pre C h2 h3 h4 h5 h6⟩ rfl rfl h1.1 rfl (lv_room hst) d hf) (fun v M2 hp => by
      obtain ⟨rfl, hp⟩ := hp
      exact k M2 hp)
theorem xr_callV3r (C : mq_C p m c cc nL s args Ts own D tys z) {y : MethodName} {bytes : ByteArray} {maxL index mc ms b ci : Nat} {ret : Option FieldType} {ws0 : List Cond} {rm : Room} {Cn : String} {T : u_T} {N : Nat} {fs : List Value} {a0 a1 a2 : Value} {P : Option Nat → mq_M → Prop}
    (hM : mq_Met l y ws0 rm D tys [.ref b, a0, a1, a2] M (mq_pr P) mc ms) (cw : CallW R s args own Cn index y bytes maxL ret ws0 rm mc ms 3) (hb : M b = some (.inr (ci, fs))) (hc : vwCl[ci]? = some (Cn, T, N)) (hst : (st.map fun v => v.category).sum ≤ 8) (hf : cells + mc ≤ R.cells ∧ slots + ms ≤ R.slots) (d : decode cc pc = .ok (.invokevirtual index, 3))
    (k : ∀ (r : Option Nat) (M2 : mq_M), P r M2 → mq_X p l e R s m args below meth c Q nL D z H0 (cells + mc) (slots + ms) M2 (pc + 3) L (va_rf r :: st)) : mq_X p l e R s m args below meth c Q nL D z H0 cells slots M pc L (a2 :: a1 :: a0 :: .ref b :: st) :=
  fun H locs la ws h1 h2 h3 h4 h5 h6 => by
    obtain ⟨q, hq⟩ := h4.at hb
    exact mq_call h1 h5 h6 (va_runV (As := [a0, a1, a2]) (rest := st) C.1 (hM z) cw ⟨mq_blind, va_recv C.2.1 h2 hc hq, mq_pre C h2 h3 h4 h5 h6⟩ rfl rfl h1.1 rfl (lv_room hst) d hf) (fun v M2 hp => by
      obtain ⟨r, rfl, hp⟩ := hp
      exact k r M2 hp)
theorem xr_callV3rN (C : mq_C p m c cc nL s args Ts own D tys z) {y : MethodName} {bytes : ByteArray} {maxL index mc ms b ci : Nat} {ret : Option FieldType} {ws0 : List Cond} {rm : Room} {Cn host : String} {T : u_T} {N : Nat} {fs : List Value} {a0 a1 a2 : Value} {P : Option Nat → mq_M → Prop}
    (hM : mq_Met l y ws0 rm D tys [.ref b, a0, a1, a2] M (mq_pr P) mc ms) (cw : va_CN R s args own index y host bytes maxL ret ws0 rm mc ms 3 ∧ (Cond.instanceMethod y).before args s = true ∧ (Cond.selects Cn y y).before args s = true) (hb : M b = some (.inr (ci, fs))) (hc : vwCl[ci]? = some (Cn, T, N)) (hst : (st.map fun v => v.category).sum ≤ 8) (hf : cells + mc ≤ R.cells ∧ slots + ms ≤ R.slots) (d : decode cc pc = .ok (.invokevirtual index, 3))
    (k : ∀ (r : Option Nat) (M2 : mq_M), P r M2 → mq_X p l e R s m args below meth c Q nL D z H0 (cells + mc) (slots + ms) M2 (pc + 3) L (va_rf r :: st)) : mq_X p l e R s m args below meth c Q nL D z H0 cells slots M pc L (a2 :: a1 :: a0 :: .ref b :: st) :=
  fun H locs la ws h1 h2 h3 h4 h5 h6 => by
    obtain ⟨q, hq⟩ := h4.at hb
    exact mq_call h1 h5 h6 (va_runVN (As := [a0, a1, a2]) (rest := st) C.1 (hM z) cw ⟨mq_blind, va_recv C.2.1 h2 hc hq, mq_pre C h2 h3 h4 h5 h6⟩ rfl rfl h1.1 rfl (lv_room hst) d hf) (fun v M2 hp => by
      obtain ⟨r, rfl, hp⟩ := hp
      exact k r M2 hp)
theorem xr_callS3r (C : mq_C p m c cc nL s args Ts own D tys z) {y : MethodName} {bytes : ByteArray} {maxL index mc ms : Nat} {ret : Option FieldType} {ws0 : List Cond} {rm : Room} {a0 a1 a2 : Value} {P : Option Nat → mq_M → Prop}
    (hM : mq_Met l y ws0 rm D tys [a0, a1, a2] M (mq_pr P) mc ms) (cw : CallB R s args own index y bytes maxL ret ws0 rm mc ms 3 ∧ (Cond.static y).before args s = true) (hst : (st.map fun v => v.category).sum ≤ 8) (hf : cells + mc ≤ R.cells ∧ slots + ms ≤ R.slots) (d : decode cc pc = .ok (.invokestatic index, 3))
    (k : ∀ (r : Option Nat) (M2 : mq_M), P r M2 → mq_X p l e R s m args below meth c Q nL D z H0 (cells + mc) (slots + ms) M2 (pc + 3) L (va_rf r :: st)) : mq_X p l e R s m args below meth c Q nL D z H0 cells slots M pc L (a2 :: a1 :: a0 :: st) :=
  fun H locs la ws h1 h2 h3 h4 h5 h6 =>
    mq_call h1 h5 h6 (va_runS (As := [a0, a1, a2]) (rest := st) C.1 (hM z) cw ⟨mq_blind, mq_pre C h2 h3 h4 h5 h6⟩ rfl rfl h1.1 rfl (lv_room hst) d hf) (fun v M2 hp => by
      obtain ⟨r, rfl, hp⟩ := hp
      exact k r M2 hp)
theorem xr_callS3rN (C : mq_C p m c cc nL s args Ts own D tys z) {y : MethodName} {bytes : ByteArray} {maxL index mc ms : Nat} {ret : Option FieldType} {ws0 : List Cond} {rm : Room} {host : String} {a0 a1 a2 : Value} {P : Option Nat → mq_M → Prop}
    (hM : mq_Met l y ws0 rm D tys [a0, a1, a2] M (mq_pr P) mc ms) (cw : va_CN R s args own index y host bytes maxL ret ws0 rm mc ms 3 ∧ (Cond.static y).before args s = true ∧ True) (hst : (st.map fun v => v.category).sum ≤ 8) (hf : cells + mc ≤ R.cells ∧ slots + ms ≤ R.slots) (d : decode cc pc = .ok (.invokestatic index, 3))
    (k : ∀ (r : Option Nat) (M2 : mq_M), P r M2 → mq_X p l e R s m args below meth c Q nL D z H0 (cells + mc) (slots + ms) M2 (pc + 3) L (va_rf r :: st)) : mq_X p l e R s m args below meth c Q nL D z H0 cells slots M pc L (a2 :: a1 :: a0 :: st) :=
  fun H locs la ws h1 h2 h3 h4 h5 h6 =>
    mq_call h1 h5 h6 (va_runSN (As := [a0, a1, a2]) (rest := st) C.1 (hM z) cw ⟨mq_blind, mq_pre C h2 h3 h4 h5 h6⟩ rfl rfl h1.1 rfl (lv_room hst) d hf) (fun v M2 hp => by
      obtain ⟨r, rfl, hp⟩ := hp
      exact k r M2 hp)
theorem xr_callV4i (C : mq_C p m c cc nL s args Ts own D tys z) {y : MethodName} {bytes : ByteArray} {maxL index mc ms b ci : Nat} {ret : Option FieldType} {ws0 : List Cond} {rm : Room} {Cn : String} {T : u_T} {N : Nat} {fs : List Value} {a0 a1 a2 a3 : Value} {P : Int → mq_M → Prop}
    (hM : mq_Met l y ws0 rm D tys [.ref b, a0, a1, a2, a3] M (mq_pi P) mc ms) (cw : CallW R s args own Cn index y bytes maxL ret ws0 rm mc ms 4) (hb : M b = some (.inr (ci, fs))) (hc : vwCl[ci]? = some (Cn, T, N)) (hst : (st.map fun v => v.category).sum ≤ 8) (hf : cells + mc ≤ R.cells ∧ slots + ms ≤ R.slots) (d : decode cc pc = .ok (.invokevirtual index, 3))
    (k : ∀ (r : Int) (M2 : mq_M), P r M2 → mq_X p l e R s m args below meth c Q nL D z H0 (cells + mc) (slots + ms) M2 (pc + 3) L (.int (zI r) :: st)) : mq_X p l e R s m args below meth c Q nL D z H0 cells slots M pc L (a3 :: a2 :: a1 :: a0 :: .ref b :: st) :=
  fun H locs la ws h1 h2 h3 h4 h5 h6 => by
    obtain ⟨q, hq⟩ := h4.at hb
    exact mq_call h1 h5 h6 (va_runV (As := [a0, a1, a2, a3]) (rest := st) C.1 (hM z) cw ⟨mq_blind, va_recv C.2.1 h2 hc hq, mq_pre C h2 h3 h4 h5 h6⟩ rfl rfl h1.1 rfl (lv_room hst) d hf) (fun v M2 hp => by
      obtain ⟨r, rfl, hp⟩ := hp
      exact k r M2 hp)
theorem xr_callV4iN (C : mq_C p m c cc nL s args Ts own D tys z) {y : MethodName} {bytes : ByteArray} {maxL index mc ms b ci : Nat} {ret : Option FieldType} {ws0 : List Cond} {rm : Room} {Cn host : String} {T : u_T} {N : Nat} {fs : List Value} {a0 a1 a2 a3 : Value} {P : Int → mq_M → Prop}
    (hM : mq_Met l y ws0 rm D tys [.ref b, a0, a1, a2, a3] M (mq_pi P) mc ms) (cw : va_CN R s args own index y host bytes maxL ret ws0 rm mc ms 4 ∧ (Cond.instanceMethod y).before args s = true ∧ (Cond.selects Cn y y).before args s = true) (hb : M b = some (.inr (ci, fs))) (hc : vwCl[ci]? = some (Cn, T, N)) (hst : (st.map fun v => v.category).sum ≤ 8) (hf : cells + mc ≤ R.cells ∧ slots + ms ≤ R.slots) (d : decode cc pc = .ok (.invokevirtual index, 3))
    (k : ∀ (r : Int) (M2 : mq_M), P r M2 → mq_X p l e R s m args below meth c Q nL D z H0 (cells + mc) (slots + ms) M2 (pc + 3) L (.int (zI r) :: st)) : mq_X p l e R s m args below meth c Q nL D z H0 cells slots M pc L (a3 :: a2 :: a1 :: a0 :: .ref b :: st) :=
  fun H locs la ws h1 h2 h3 h4 h5 h6 => by
    obtain ⟨q, hq⟩ := h4.at hb
    exact mq_call h1 h5 h6 (va_runVN (As := [a0, a1, a2, a3]) (rest := st) C.1 (hM z) cw ⟨mq_blind, va_recv C.2.1 h2 hc hq, mq_pre C h2 h3 h4 h5 h6⟩ rfl rfl h1.1 rfl (lv_room hst) d hf) (fun v M2 hp => by
      obtain ⟨r, rfl, hp⟩ := hp
      exact k r M2 hp)
theorem xr_callS4i (C : mq_C p m c cc nL s args Ts own D tys z) {y : MethodName} {bytes : ByteArray} {maxL index mc ms : Nat} {ret : Option FieldType} {ws0 : List Cond} {rm : Room} {a0 a1 a2 a3 : Value} {P : Int → mq_M → Prop}
    (hM : mq_Met l y ws0 rm D tys [a0, a1, a2, a3] M (mq_pi P) mc ms) (cw : CallB R s args own index y bytes maxL ret ws0 rm mc ms 4 ∧ (Cond.static y).before args s = true) (hst : (st.map fun v => v.category).sum ≤ 8) (hf : cells + mc ≤ R.cells ∧ slots + ms ≤ R.slots) (d : decode cc pc = .ok (.invokestatic index, 3))
    (k : ∀ (r : Int) (M2 : mq_M), P r M2 → mq_X p l e R s m args below meth c Q nL D z H0 (cells + mc) (slots + ms) M2 (pc + 3) L (.int (zI r) :: st)) : mq_X p l e R s m args below meth c Q nL D z H0 cells slots M pc L (a3 :: a2 :: a1 :: a0 :: st) :=
  fun H locs la ws h1 h2 h3 h4 h5 h6 =>
    mq_call h1 h5 h6 (va_runS (As := [a0, a1, a2, a3]) (rest := st) C.1 (hM z) cw ⟨mq_blind, mq_pre C h2 h3 h4 h5 h6⟩ rfl rfl h1.1 rfl (lv_room hst) d hf) (fun v M2 hp => by
      obtain ⟨r, rfl, hp⟩ := hp
      exact k r M2 hp)
theorem xr_callS4iN (C : mq_C p m c cc nL s args Ts own D tys z) {y : MethodName} {bytes : ByteArray} {maxL index mc ms : Nat} {ret : Option FieldType} {ws0 : List Cond} {rm : Room} {host : String} {a0 a1 a2 a3 : Value} {P : Int → mq_M → Prop}
    (hM : mq_Met l y ws0 rm D tys [a0, a1, a2, a3] M (mq_pi P) mc ms) (cw : va_CN R s args own index y host bytes maxL ret ws0 rm mc ms 4 ∧ (Cond.static y).before args s = true ∧ True) (hst : (st.map fun v => v.category).sum ≤ 8) (hf : cells + mc ≤ R.cells ∧ slots + ms ≤ R.slots) (d : decode cc pc = .ok (.invokestatic index, 3))
    (k : ∀ (r : Int) (M2 : mq_M), P r M2 → mq_X p l e R s m args below meth c Q nL D z H0 (cells + mc) (slots + ms) M2 (pc + 3) L (.int (zI r) :: st)) : mq_X p l e R s m args below meth c Q nL D z H0 cells slots M pc L (a3 :: a2 :: a1 :: a0 :: st) :=
  fun H locs la ws h1 h2 h3 h4 h5 h6 =>
    mq_call h1 h5 h6 (va_runSN (As := [a0, a1, a2, a3]) (rest := st) C.1 (hM z) cw ⟨mq_blind, mq_pre C h2 h3 h4 h5 h6⟩ rfl rfl h1.1 rfl (lv_room hst) d hf) (fun v M2 hp => by
      obtain ⟨r, rfl, hp⟩ := hp
      exact k r M2 hp)
theorem xr_callV4v (C : mq_C p m c cc nL s args Ts own D tys z) {y : MethodName} {bytes : ByteArray} {maxL index mc ms b ci : Nat} {ret : Option FieldType} {ws0 : List Cond} {rm : Room} {Cn : String} {T : u_T} {N : Nat} {fs : List Value} {a0 a1 a2 a3 : Value} {P : mq_M → Prop}
    (hM : mq_Met l y ws0 rm D tys [.ref b, a0, a1, a2, a3] M (mq_pv P) mc ms) (cw : CallW R s args own Cn index y bytes maxL ret ws0 rm mc ms 4) (hb : M b = some (.inr (ci, fs))) (hc : vwCl[ci]? = some (Cn, T, N)) (hst : (st.map fun v => v.category).sum ≤ 8) (hf : cells + mc ≤ R.cells ∧ slots + ms ≤ R.slots) (d : decode cc pc = .ok (.invokevirtual index, 3))
    (k : ∀ (M2 : mq_M), P M2 → mq_X p l e R s m args below meth c Q nL D z H0 (cells + mc) (slots + ms) M2 (pc + 3) L st) : mq_X p l e R s m args below meth c Q nL D z H0 cells slots M pc L (a3 :: a2 :: a1 :: a0 :: .ref b :: st) :=
  fun H locs la ws h1 h2 h3 h4 h5 h6 => by
    obtain ⟨q, hq⟩ := h4.at hb
    exact mq_call h1 h5 h6 (va_runV (As := [a0, a1, a2, a3]) (rest := st) C.1 (hM z) cw ⟨mq_blind, va_recv C.2.1 h2 hc hq, mq_pre C h2 h3 h4 h5 h6⟩ rfl rfl h1.1 rfl (lv_room hst) d hf) (fun v M2 hp => by
      obtain ⟨rfl, hp⟩ := hp
      exact k M2 hp)
theorem xr_callV4vN (C : mq_C p m c cc nL s args Ts own D tys z) {y : MethodName} {bytes : ByteArray} {maxL index mc ms b ci : Nat} {ret : Option FieldType} {ws0 : List Cond} {rm : Room} {Cn host : String} {T : u_T} {N : Nat} {fs : List Value} {a0 a1 a2 a3 : Value} {P : mq_M → Prop}
    (hM : mq_Met l y ws0 rm D tys [.ref b, a0, a1, a2, a3] M (mq_pv P) mc ms) (cw : va_CN R s args own index y host bytes maxL ret ws0 rm mc ms 4 ∧ (Cond.instanceMethod y).before args s = true ∧ (Cond.selects Cn y y).before args s = true) (hb : M b = some (.inr (ci, fs))) (hc : vwCl[ci]? = some (Cn, T, N)) (hst : (st.map fun v => v.category).sum ≤ 8) (hf : cells + mc ≤ R.cells ∧ slots + ms ≤ R.slots) (d : decode cc pc = .ok (.invokevirtual index, 3))
    (k : ∀ (M2 : mq_M), P M2 → mq_X p l e R s m args below meth c Q nL D z H0 (cells + mc) (slots + ms) M2 (pc + 3) L st) : mq_X p l e R s m args below meth c Q nL D z H0 cells slots M pc L (a3 :: a2 :: a1 :: a0 :: .ref b :: st) :=
  fun H locs la ws h1 h2 h3 h4 h5 h6 => by
    obtain ⟨q, hq⟩ := h4.at hb
    exact mq_call h1 h5 h6 (va_runVN (As := [a0, a1, a2, a3]) (rest := st) C.1 (hM z) cw ⟨mq_blind, va_recv C.2.1 h2 hc hq, mq_pre C h2 h3 h4 h5 h6⟩ rfl rfl h1.1 rfl (lv_room hst) d hf) (fun v M2 hp => by
      obtain ⟨rfl, hp⟩ := hp
      exact k M2 hp)
theorem xr_callS4v (C : mq_C p m c cc nL s args Ts own D tys z) {y : MethodName} {bytes : ByteArray} {maxL index mc ms : Nat} {ret : Option FieldType} {ws0 : List Cond} {rm : Room} {a0 a1 a2 a3 : Value} {P : mq_M → Prop}
    (hM : mq_Met l y ws0 rm D tys [a0, a1, a2, a3] M (mq_pv P) mc ms) (cw : CallB R s args own index y bytes maxL ret ws0 rm mc ms 4 ∧ (Cond.static y).before args s = true) (hst : (st.map fun v => v.category).sum ≤ 8) (hf : cells + mc ≤ R.cells ∧ slots + ms ≤ R.slots) (d : decode cc pc = .ok (.invokestatic index, 3))
    (k : ∀ (M2 : mq_M), P M2 → mq_X p l e R s m args below meth c Q nL D z H0 (cells + mc) (slots + ms) M2 (pc + 3) L st) : mq_X p l e R s m args below meth c Q nL D z H0 cells slots M pc L (a3 :: a2 :: a1 :: a0 :: st) :=
  fun H locs la ws h1 h2 h3 h4 h5 h6 =>
    mq_call h1 h5 h6 (va_runS (As := [a0, a1, a2, a3]) (rest := st) C.1 (hM z) cw ⟨mq_blind, mq_pre C h2 h3 h4 h5 h6⟩ rfl rfl h1.1 rfl (lv_room hst) d hf) (fun v M2 hp => by
      obtain ⟨rfl, hp⟩ := hp
      exact k M2 hp)
theorem xr_callS4vN (C : mq_C p m c cc nL s args Ts own D tys z) {y : MethodName} {bytes : ByteArray} {maxL index mc ms : Nat} {ret : Option FieldType} {ws0 : List Cond} {rm : Room} {host : String} {a0 a1 a2 a3 : Value} {P : mq_M → Prop}
    (hM : mq_Met l y ws0 rm D tys [a0, a1, a2, a3] M (mq_pv P) mc ms) (cw : va_CN R s args own index y host bytes maxL ret ws0 rm mc ms 4 ∧ (Cond.static y).before args s = true ∧ True) (hst : (st.map fun v => v.category).sum ≤ 8) (hf : cells + mc ≤ R.cells ∧ slots + ms ≤ R.slots) (d : decode cc pc = .ok (.invokestatic index, 3))
    (k : ∀ (M2 : mq_M), P M2 → mq_X p l e R s m args below meth c Q nL D z H0 (cells + mc) (slots + ms) M2 (pc + 3) L st) : mq_X p l e R s m args below meth c Q nL D z H0 cells slots M pc L (a3 :: a2 :: a1 :: a0 :: st) :=
  fun H locs la ws h1 h2 h3 h4 h5 h6 =>
    mq_call h1 h5 h6 (va_runSN (As := [a0, a1, a2, a3]) (rest := st) C.1 (hM z) cw ⟨mq_blind, mq_pre C h2 h3 h4 h5 h6⟩ rfl rfl h1.1 rfl (lv_room hst) d hf) (fun v M2 hp => by
      obtain ⟨rfl, hp⟩ := hp
      exact k M2 hp)
theorem xr_callI4 (C : mq_C p m c cc nL s args Ts own D tys z) {y : MethodName} {bytes : ByteArray} {maxL index mc ms b : Nat} {ws0 : List Cond} {rm : Room} {a0 a1 a2 a3 : Value} {P : mq_M → Prop}
    (hM : mq_Met l y ws0 rm D tys [.ref b, a0, a1, a2, a3] M (mq_pv P) mc ms) (cw : CallB R s args own index y bytes maxL none ws0 rm mc ms 4 ∧ y.name = "<init>" ∧ (Cond.instanceMethod y).before args s = true) (hst : (st.map fun v => v.category).sum ≤ 8) (hf : cells + mc ≤ R.cells ∧ slots + ms ≤ R.slots) (d : decode cc pc = .ok (.invokespecial index, 3))
    (k : ∀ (M2 : mq_M), P M2 → mq_X p l e R s m args below meth c Q nL D z H0 (cells + mc) (slots + ms) M2 (pc + 3) L st) : mq_X p l e R s m args below meth c Q nL D z H0 cells slots M pc L (a3 :: a2 :: a1 :: a0 :: .ref b :: st) :=
  fun H locs la ws h1 h2 h3 h4 h5 h6 =>
    mq_call h1 h5 h6 (va_runI (As := [a0, a1, a2, a3]) (rest := st) C.1 (hM z) cw ⟨mq_blind, mq_pre C h2 h3 h4 h5 h6⟩ rfl rfl h1.1 rfl (lv_room hst) d hf) (fun v M2 hp => by
      obtain ⟨rfl, hp⟩ := hp
      exact k M2 hp)
theorem xr_callI4N (C : mq_C p m c cc nL s args Ts own D tys z) {y : MethodName} {bytes : ByteArray} {maxL index mc ms b : Nat} {ws0 : List Cond} {rm : Room} {host : String} {a0 a1 a2 a3 : Value} {P : mq_M → Prop}
    (hM : mq_Met l y ws0 rm D tys [.ref b, a0, a1, a2, a3] M (mq_pv P) mc ms) (cw : va_CN R s args own index y host bytes maxL none ws0 rm mc ms 4 ∧ y.name = "<init>" ∧ (Cond.instanceMethod y).before args s = true) (hst : (st.map fun v => v.category).sum ≤ 8) (hf : cells + mc ≤ R.cells ∧ slots + ms ≤ R.slots) (d : decode cc pc = .ok (.invokespecial index, 3))
    (k : ∀ (M2 : mq_M), P M2 → mq_X p l e R s m args below meth c Q nL D z H0 (cells + mc) (slots + ms) M2 (pc + 3) L st) : mq_X p l e R s m args below meth c Q nL D z H0 cells slots M pc L (a3 :: a2 :: a1 :: a0 :: .ref b :: st) :=
  fun H locs la ws h1 h2 h3 h4 h5 h6 =>
    mq_call h1 h5 h6 (va_runIN (As := [a0, a1, a2, a3]) (rest := st) C.1 (hM z) cw ⟨mq_blind, mq_pre C h2 h3 h4 h5 h6⟩ rfl rfl h1.1 rfl (lv_room hst) d hf) (fun v M2 hp => by
      obtain ⟨rfl, hp⟩ := hp
      exact k M2 hp)
theorem xr_callV4l (C : mq_C p m c cc nL s args Ts own D tys z) {y : MethodName} {bytes : ByteArray} {maxL index mc ms b ci : Nat} {ret : Option FieldType} {ws0 : List Cond} {rm : Room} {Cn : String} {T : u_T} {N : Nat} {fs : List Value} {a0 a1 a2 a3 : Value} {P : Int64 → mq_M → Prop}
    (hM : mq_Met l y ws0 rm D tys [.ref b, a0, a1, a2, a3] M (mq_pl P) mc ms) (cw : CallW R s args own Cn index y bytes maxL ret ws0 rm mc ms 4) (hb : M b = some (.inr (ci, fs))) (hc : vwCl[ci]? = some (Cn, T, N)) (hst : (st.map fun v => v.category).sum ≤ 8) (hf : cells + mc ≤ R.cells ∧ slots + ms ≤ R.slots) (d : decode cc pc = .ok (.invokevirtual index, 3))
    (k : ∀ (r : Int64) (M2 : mq_M), P r M2 → mq_X p l e R s m args below meth c Q nL D z H0 (cells + mc) (slots + ms) M2 (pc + 3) L (.long r :: st)) : mq_X p l e R s m args below meth c Q nL D z H0 cells slots M pc L (a3 :: a2 :: a1 :: a0 :: .ref b :: st) :=
  fun H locs la ws h1 h2 h3 h4 h5 h6 => by
    obtain ⟨q, hq⟩ := h4.at hb
    exact mq_call h1 h5 h6 (va_runV (As := [a0, a1, a2, a3]) (rest := st) C.1 (hM z) cw ⟨mq_blind, va_recv C.2.1 h2 hc hq, mq_pre C h2 h3 h4 h5 h6⟩ rfl rfl h1.1 rfl (lv_room hst) d hf) (fun v M2 hp => by
      obtain ⟨r, rfl, hp⟩ := hp
      exact k r M2 hp)
theorem xr_callV4lN (C : mq_C p m c cc nL s args Ts own D tys z) {y : MethodName} {bytes : ByteArray} {maxL index mc ms b ci : Nat} {ret : Option FieldType} {ws0 : List Cond} {rm : Room} {Cn host : String} {T : u_T} {N : Nat} {fs : List Value} {a0 a1 a2 a3 : Value} {P : Int64 → mq_M → Prop}
    (hM : mq_Met l y ws0 rm D tys [.ref b, a0, a1, a2, a3] M (mq_pl P) mc ms) (cw : va_CN R s args own index y host bytes maxL ret ws0 rm mc ms 4 ∧ (Cond.instanceMethod y).before args s = true ∧ (Cond.selects Cn y y).before args s = true) (hb : M b = some (.inr (ci, fs))) (hc : vwCl[ci]? = some (Cn, T, N)) (hst : (st.map fun v => v.category).sum ≤ 8) (hf : cells + mc ≤ R.cells ∧ slots + ms ≤ R.slots) (d : decode cc pc = .ok (.invokevirtual index, 3))
    (k : ∀ (r : Int64) (M2 : mq_M), P r M2 → mq_X p l e R s m args below meth c Q nL D z H0 (cells + mc) (slots + ms) M2 (pc + 3) L (.long r :: st)) : mq_X p l e R s m args below meth c Q nL D z H0 cells slots M pc L (a3 :: a2 :: a1 :: a0 :: .ref b :: st) :=
  fun H locs la ws h1 h2 h3 h4 h5 h6 => by
    obtain ⟨q, hq⟩ := h4.at hb
    exact mq_call h1 h5 h6 (va_runVN (As := [a0, a1, a2, a3]) (rest := st) C.1 (hM z) cw ⟨mq_blind, va_recv C.2.1 h2 hc hq, mq_pre C h2 h3 h4 h5 h6⟩ rfl rfl h1.1 rfl (lv_room hst) d hf) (fun v M2 hp => by
      obtain ⟨r, rfl, hp⟩ := hp
      exact k r M2 hp)
theorem xr_callS4l (C : mq_C p m c cc nL s args Ts own D tys z) {y : MethodName} {bytes : ByteArray} {maxL index mc ms : Nat} {ret : Option FieldType} {ws0 : List Cond} {rm : Room} {a0 a1 a2 a3 : Value} {P : Int64 → mq_M → Prop}
    (hM : mq_Met l y ws0 rm D tys [a0, a1, a2, a3] M (mq_pl P) mc ms) (cw : CallB R s args own index y bytes maxL ret ws0 rm mc ms 4 ∧ (Cond.static y).before args s = true) (hst : (st.map fun v => v.category).sum ≤ 8) (hf : cells + mc ≤ R.cells ∧ slots + ms ≤ R.slots) (d : decode cc pc = .ok (.invokestatic index, 3))
    (k : ∀ (r : Int64) (M2 : mq_M), P r M2 → mq_X p l e R s m args below meth c Q nL D z H0 (cells + mc) (slots + ms) M2 (pc + 3) L (.long r :: st)) : mq_X p l e R s m args below meth c Q nL D z H0 cells slots M pc L (a3 :: a2 :: a1 :: a0 :: st) :=
  fun H locs la ws h1 h2 h3 h4 h5 h6 =>
    mq_call h1 h5 h6 (va_runS (As := [a0, a1, a2, a3]) (rest := st) C.1 (hM z) cw ⟨mq_blind, mq_pre C h2 h3 h4 h5 h6⟩ rfl rfl h1.1 rfl (lv_room hst) d hf) (fun v M2 hp => by
      obtain ⟨r, rfl, hp⟩ := hp
      exact k r M2 hp)
theorem xr_callS4lN (C : mq_C p m c cc nL s args Ts own D tys z) {y : MethodName} {bytes : ByteArray} {maxL index mc ms : Nat} {ret : Option FieldType} {ws0 : List Cond} {rm : Room} {host : String} {a0 a1 a2 a3 : Value} {P : Int64 → mq_M → Prop}
    (hM : mq_Met l y ws0 rm D tys [a0, a1, a2, a3] M (mq_pl P) mc ms) (cw : va_CN R s args own index y host bytes maxL ret ws0 rm mc ms 4 ∧ (Cond.static y).before args s = true ∧ True) (hst : (st.map fun v => v.category).sum ≤ 8) (hf : cells + mc ≤ R.cells ∧ slots + ms ≤ R.slots) (d : decode cc pc = .ok (.invokestatic index, 3))
    (k : ∀ (r : Int64) (M2 : mq_M), P r M2 → mq_X p l e R s m args below meth c Q nL D z H0 (cells + mc) (slots + ms) M2 (pc + 3) L (.long r :: st)) : mq_X p l e R s m args below meth c Q nL D z H0 cells slots M pc L (a3 :: a2 :: a1 :: a0 :: st) :=
  fun H locs la ws h1 h2 h3 h4 h5 h6 =>
    mq_call h1 h5 h6 (va_runSN (As := [a0, a1, a2, a3]) (rest := st) C.1 (hM z) cw ⟨mq_blind, mq_pre C h2 h3 h4 h5 h6⟩ rfl rfl h1.1 rfl (lv_room hst) d hf) (fun v M2 hp => by
      obtain ⟨r, rfl, hp⟩ := hp
      exact k r M2 hp)
theorem xr_callV4a (C : mq_C p m c cc nL s args Ts own D tys z) {y : MethodName} {bytes : ByteArray} {maxL index mc ms b ci : Nat} {ret : Option FieldType} {ws0 : List Cond} {rm : Room} {Cn : String} {T : u_T} {N : Nat} {fs : List Value} {a0 a1 a2 a3 : Value} {P : Nat → mq_M → Prop}
    (hM : mq_Met l y ws0 rm D tys [.ref b, a0, a1, a2, a3] M (mq_pa P) mc ms) (cw : CallW R s args own Cn index y bytes maxL ret ws0 rm mc ms 4) (hb : M b = some (.inr (ci, fs))) (hc : vwCl[ci]? = some (Cn, T, N)) (hst : (st.map fun v => v.category).sum ≤ 8) (hf : cells + mc ≤ R.cells ∧ slots + ms ≤ R.slots) (d : decode cc pc = .ok (.invokevirtual index, 3))
    (k : ∀ (r : Nat) (M2 : mq_M), P r M2 → mq_X p l e R s m args below meth c Q nL D z H0 (cells + mc) (slots + ms) M2 (pc + 3) L (.ref r :: st)) : mq_X p l e R s m args below meth c Q nL D z H0 cells slots M pc L (a3 :: a2 :: a1 :: a0 :: .ref b :: st) :=
  fun H locs la ws h1 h2 h3 h4 h5 h6 => by
    obtain ⟨q, hq⟩ := h4.at hb
    exact mq_call h1 h5 h6 (va_runV (As := [a0, a1, a2, a3]) (rest := st) C.1 (hM z) cw ⟨mq_blind, va_recv C.2.1 h2 hc hq, mq_pre C h2 h3 h4 h5 h6⟩ rfl rfl h1.1 rfl (lv_room hst) d hf) (fun v M2 hp => by
      obtain ⟨r, rfl, hp⟩ := hp
      exact k r M2 hp)
theorem xr_callV4aN (C : mq_C p m c cc nL s args Ts own D tys z) {y : MethodName} {bytes : ByteArray} {maxL index mc ms b ci : Nat} {ret : Option FieldType} {ws0 : List Cond} {rm : Room} {Cn host : String} {T : u_T} {N : Nat} {fs : List Value} {a0 a1 a2 a3 : Value} {P : Nat → mq_M → Prop}
    (hM : mq_Met l y ws0 rm D tys [.ref b, a0, a1, a2, a3] M (mq_pa P) mc ms) (cw : va_CN R s args own index y host bytes maxL ret ws0 rm mc ms 4 ∧ (Cond.instanceMethod y).before args s = true ∧ (Cond.selects Cn y y).before args s = true) (hb : M b = some (.inr (ci, fs))) (hc : vwCl[ci]? = some (Cn, T, N)) (hst : (st.map fun v => v.category).sum ≤ 8) (hf : cells + mc ≤ R.cells ∧ slots + ms ≤ R.slots) (d : decode cc pc = .ok (.invokevirtual index, 3))
    (k : ∀ (r : Nat) (M2 : mq_M), P r M2 → mq_X p l e R s m args below meth c Q nL D z H0 (cells + mc) (slots + ms) M2 (pc + 3) L (.ref r :: st)) : mq_X p l e R s m args below meth c Q nL D z H0 cells slots M pc L (a3 :: a2 :: a1 :: a0 :: .ref b :: st) :=
  fun H locs la ws h1 h2 h3 h4 h5 h6 => by
    obtain ⟨q, hq⟩ := h4.at hb
    exact mq_call h1 h5 h6 (va_runVN (As := [a0, a1, a2, a3]) (rest := st) C.1 (hM z) cw ⟨mq_blind, va_recv C.2.1 h2 hc hq, mq_pre C h2 h3 h4 h5 h6⟩ rfl rfl h1.1 rfl (lv_room hst) d hf) (fun v M2 hp => by
      obtain ⟨r, rfl, hp⟩ := hp
      exact k r M2 hp)
theorem xr_callS4a (C : mq_C p m c cc nL s args Ts own D tys z) {y : MethodName} {bytes : ByteArray} {maxL index mc ms : Nat} {ret : Option FieldType} {ws0 : List Cond} {rm : Room} {a0 a1 a2 a3 : Value} {P : Nat → mq_M → Prop}
    (hM : mq_Met l y ws0 rm D tys [a0, a1, a2, a3] M (mq_pa P) mc ms) (cw : CallB R s args own index y bytes maxL ret ws0 rm mc ms 4 ∧ (Cond.static y).before args s = true) (hst : (st.map fun v => v.category).sum ≤ 8) (hf : cells + mc ≤ R.cells ∧ slots + ms ≤ R.slots) (d : decode cc pc = .ok (.invokestatic index, 3))
    (k : ∀ (r : Nat) (M2 : mq_M), P r M2 → mq_X p l e R s m args below meth c Q nL D z H0 (cells + mc) (slots + ms) M2 (pc + 3) L (.ref r :: st)) : mq_X p l e R s m args below meth c Q nL D z H0 cells slots M pc L (a3 :: a2 :: a1 :: a0 :: st) :=
  fun H locs la ws h1 h2 h3 h4 h5 h6 =>
    mq_call h1 h5 h6 (va_runS (As := [a0, a1, a2, a3]) (rest := st) C.1 (hM z) cw ⟨mq_blind, mq_pre C h2 h3 h4 h5 h6⟩ rfl rfl h1.1 rfl (lv_room hst) d hf) (fun v M2 hp => by
      obtain ⟨r, rfl, hp⟩ := hp
      exact k r M2 hp)
theorem xr_callS4aN (C : mq_C p m c cc nL s args Ts own D tys z) {y : MethodName} {bytes : ByteArray} {maxL index mc ms : Nat} {ret : Option FieldType} {ws0 : List Cond} {rm : Room} {host : String} {a0 a1 a2 a3 : Value} {P : Nat → mq_M → Prop}
    (hM : mq_Met l y ws0 rm D tys [a0, a1, a2, a3] M (mq_pa P) mc ms) (cw : va_CN R s args own index y host bytes maxL ret ws0 rm mc ms 4 ∧ (Cond.static y).before args s = true ∧ True) (hst : (st.map fun v => v.category).sum ≤ 8) (hf : cells + mc ≤ R.cells ∧ slots + ms ≤ R.slots) (d : decode cc pc = .ok (.invokestatic index, 3))
    (k : ∀ (r : Nat) (M2 : mq_M), P r M2 → mq_X p l e R s m args below meth c Q nL D z H0 (cells + mc) (slots + ms) M2 (pc + 3) L (.ref r :: st)) : mq_X p l e R s m args below meth c Q nL D z H0 cells slots M pc L (a3 :: a2 :: a1 :: a0 :: st) :=
  fun H locs la ws h1 h2 h3 h4 h5 h6 =>
    mq_call h1 h5 h6 (va_runSN (As := [a0, a1, a2, a3]) (rest := st) C.1 (hM z) cw ⟨mq_blind, mq_pre C h2 h3 h4 h5 h6⟩ rfl rfl h1.1 rfl (lv_room hst) d hf) (fun v M2 hp => by
      obtain ⟨r, rfl, hp⟩ := hp
      exact k r M2 hp)
theorem xr_callV4n (C : mq_C p m c cc nL s args Ts own D tys z) {y : MethodName} {bytes : ByteArray} {maxL index mc ms b ci : Nat} {ret : Option FieldType} {ws0 : List Cond} {rm : Room} {Cn : String} {T : u_T} {N : Nat} {fs : List Value} {a0 a1 a2 a3 : Value} {P : mq_M → Prop}
    (hM : mq_Met l y ws0 rm D tys [.ref b, a0, a1, a2, a3] M (mq_pn P) mc ms) (cw : CallW R s args own Cn index y bytes maxL ret ws0 rm mc ms 4) (hb : M b = some (.inr (ci, fs))) (hc : vwCl[ci]? = some (Cn, T, N)) (hst : (st.map fun v => v.category).sum ≤ 8) (hf : cells + mc ≤ R.cells ∧ slots + ms ≤ R.slots) (d : decode cc pc = .ok (.invokevirtual index, 3))
    (k : ∀ (M2 : mq_M), P M2 → mq_X p l e R s m args below meth c Q nL D z H0 (cells + mc) (slots + ms) M2 (pc + 3) L (.null :: st)) : mq_X p l e R s m args below meth c Q nL D z H0 cells slots M pc L (a3 :: a2 :: a1 :: a0 :: .ref b :: st) :=
  fun H locs la ws h1 h2 h3 h4 h5 h6 => by
    obtain ⟨q, hq⟩ := h4.at hb
    exact mq_call h1 h5 h6 (va_runV (As := [a0, a1, a2, a3]) (rest := st) C.1 (hM z) cw ⟨mq_blind, va_recv C.2.1 h2 hc hq, mq_pre C h2 h3 h4 h5 h6⟩ rfl rfl h1.1 rfl (lv_room hst) d hf) (fun v M2 hp => by
      obtain ⟨rfl, hp⟩ := hp
      exact k M2 hp)
theorem xr_callV4nN (C : mq_C p m c cc nL s args Ts own D tys z) {y : MethodName} {bytes : ByteArray} {maxL index mc ms b ci : Nat} {ret : Option FieldType} {ws0 : List Cond} {rm : Room} {Cn host : String} {T : u_T} {N : Nat} {fs : List Value} {a0 a1 a2 a3 : Value} {P : mq_M → Prop}
    (hM : mq_Met l y ws0 rm D tys [.ref b, a0, a1, a2, a3] M (mq_pn P) mc ms) (cw : va_CN R s args own index y host bytes maxL ret ws0 rm mc ms 4 ∧ (Cond.instanceMethod y).before args s = true ∧ (Cond.selects Cn y y).before args s = true) (hb : M b = some (.inr (ci, fs))) (hc : vwCl[ci]? = some (Cn, T, N)) (hst : (st.map fun v => v.category).sum ≤ 8) (hf : cells + mc ≤ R.cells ∧ slots + ms ≤ R.slots) (d : decode cc pc = .ok (.invokevirtual index, 3))
    (k : ∀ (M2 : mq_M), P M2 → mq_X p l e R s m args below meth c Q nL D z H0 (cells + mc) (slots + ms) M2 (pc + 3) L (.null :: st)) : mq_X p l e R s m args below meth c Q nL D z H0 cells slots M pc L (a3 :: a2 :: a1 :: a0 :: .ref b :: st) :=
  fun H locs la ws h1 h2 h3 h4 h5 h6 => by
    obtain ⟨q, hq⟩ := h4.at hb
    exact mq_call h1 h5 h6 (va_runVN (As := [a0, a1, a2, a3]) (rest := st) C.1 (hM z) cw ⟨mq_blind, va_recv C.2.1 h2 hc hq, mq_pre C h2 h3 h4 h5 h6⟩ rfl rfl h1.1 rfl (lv_room hst) d hf) (fun v M2 hp => by
      obtain ⟨rfl, hp⟩ := hp
      exact k M2 hp)
theorem xr_callS4n (C : mq_C p m c cc nL s args Ts own D tys z) {y : MethodName} {bytes : ByteArray} {maxL index mc ms : Nat} {ret : Option FieldType} {ws0 : List Cond} {rm : Room} {a0 a1 a2 a3 : Value} {P : mq_M → Prop}
    (hM : mq_Met l y ws0 rm D tys [a0, a1, a2, a3] M (mq_pn P) mc ms) (cw : CallB R s args own index y bytes maxL ret ws0 rm mc ms 4 ∧ (Cond.static y).before args s = true) (hst : (st.map fun v => v.category).sum ≤ 8) (hf : cells + mc ≤ R.cells ∧ slots + ms ≤ R.slots) (d : decode cc pc = .ok (.invokestatic index, 3))
    (k : ∀ (M2 : mq_M), P M2 → mq_X p l e R s m args below meth c Q nL D z H0 (cells + mc) (slots + ms) M2 (pc + 3) L (.null :: st)) : mq_X p l e R s m args below meth c Q nL D z H0 cells slots M pc L (a3 :: a2 :: a1 :: a0 :: st) :=
  fun H locs la ws h1 h2 h3 h4 h5 h6 =>
    mq_call h1 h5 h6 (va_runS (As := [a0, a1, a2, a3]) (rest := st) C.1 (hM z) cw ⟨mq_blind, mq_pre C h2 h3 h4 h5 h6⟩ rfl rfl h1.1 rfl (lv_room hst) d hf) (fun v M2 hp => by
      obtain ⟨rfl, hp⟩ := hp
      exact k M2 hp)
theorem xr_callS4nN (C : mq_C p m c cc nL s args Ts own D tys z) {y : MethodName} {bytes : ByteArray} {maxL index mc ms : Nat} {ret : Option FieldType} {ws0 : List Cond} {rm : Room} {host : String} {a0 a1 a2 a3 : Value} {P : mq_M → Prop}
    (hM : mq_Met l y ws0 rm D tys [a0, a1, a2, a3] M (mq_pn P) mc ms) (cw : va_CN R s args own index y host bytes maxL ret ws0 rm mc ms 4 ∧ (Cond.static y).before args s = true ∧ True) (hst : (st.map fun v => v.category).sum ≤ 8) (hf : cells + mc ≤ R.cells ∧ slots + ms ≤ R.slots) (d : decode cc pc = .ok (.invokestatic index, 3))
    (k : ∀ (M2 : mq_M), P M2 → mq_X p l e R s m args below meth c Q nL D z H0 (cells + mc) (slots + ms) M2 (pc + 3) L (.null :: st)) : mq_X p l e R s m args below meth c Q nL D z H0 cells slots M pc L (a3 :: a2 :: a1 :: a0 :: st) :=
  fun H locs la ws h1 h2 h3 h4 h5 h6 =>
    mq_call h1 h5 h6 (va_runSN (As := [a0, a1, a2, a3]) (rest := st) C.1 (hM z) cw ⟨mq_blind, mq_pre C h2 h3 h4 h5 h6⟩ rfl rfl h1.1 rfl (lv_room hst) d hf) (fun v M2 hp => by
      obtain ⟨rfl, hp⟩ := hp
      exact k M2 hp)
theorem xr_callV4r (C : mq_C p m c cc nL s args Ts own D tys z) {y : MethodName} {bytes : ByteArray} {maxL index mc ms b ci : Nat} {ret : Option FieldType} {ws0 : List Cond} {rm : Room} {Cn : String} {T : u_T} {N : Nat} {fs : List Value} {a0 a1 a2 a3 : Value} {P : Option Nat → mq_M → Prop}
    (hM : mq_Met l y ws0 rm D tys [.ref b, a0, a1, a2, a3] M (mq_pr P) mc ms) (cw : CallW R s args own Cn index y bytes maxL ret ws0 rm mc ms 4) (hb : M b = some (.inr (ci, fs))) (hc : vwCl[ci]? = some (Cn, T, N)) (hst : (st.map fun v => v.category).sum ≤ 8) (hf : cells + mc ≤ R.cells ∧ slots + ms ≤ R.slots) (d : decode cc pc = .ok (.invokevirtual index, 3))
    (k : ∀ (r : Option Nat) (M2 : mq_M), P r M2 → mq_X p l e R s m args below meth c Q nL D z H0 (cells + mc) (slots + ms) M2 (pc + 3) L (va_rf r :: st)) : mq_X p l e R s m args below meth c Q nL D z H0 cells slots M pc L (a3 :: a2 :: a1 :: a0 :: .ref b :: st) :=
  fun H locs la ws h1 h2 h3 h4 h5 h6 => by
    obtain ⟨q, hq⟩ := h4.at hb
    exact mq_call h1 h5 h6 (va_runV (As := [a0, a1, a2, a3]) (rest := st) C.1 (hM z) cw ⟨mq_blind, va_recv C.2.1 h2 hc hq, mq_pre C h2 h3 h4 h5 h6⟩ rfl rfl h1.1 rfl (lv_room hst) d hf) (fun v M2 hp => by
      obtain ⟨r, rfl, hp⟩ := hp
      exact k r M2 hp)
theorem xr_callV4rN (C : mq_C p m c cc nL s args Ts own D tys z) {y : MethodName} {bytes : ByteArray} {maxL index mc ms b ci : Nat} {ret : Option FieldType} {ws0 : List Cond} {rm : Room} {Cn host : String} {T : u_T} {N : Nat} {fs : List Value} {a0 a1 a2 a3 : Value} {P : Option Nat → mq_M → Prop}
    (hM : mq_Met l y ws0 rm D tys [.ref b, a0, a1, a2, a3] M (mq_pr P) mc ms) (cw : va_CN R s args own index y host bytes maxL ret ws0 rm mc ms 4 ∧ (Cond.instanceMethod y).before args s = true ∧ (Cond.selects Cn y y).before args s = true) (hb : M b = some (.inr (ci, fs))) (hc : vwCl[ci]? = some (Cn, T, N)) (hst : (st.map fun v => v.category).sum ≤ 8) (hf : cells + mc ≤ R.cells ∧ slots + ms ≤ R.slots) (d : decode cc pc = .ok (.invokevirtual index, 3))
    (k : ∀ (r : Option Nat) (M2 : mq_M), P r M2 → mq_X p l e R s m args below meth c Q nL D z H0 (cells + mc) (slots + ms) M2 (pc + 3) L (va_rf r :: st)) : mq_X p l e R s m args below meth c Q nL D z H0 cells slots M pc L (a3 :: a2 :: a1 :: a0 :: .ref b :: st) :=
  fun H locs la ws h1 h2 h3 h4 h5 h6 => by
    obtain ⟨q, hq⟩ := h4.at hb
    exact mq_call h1 h5 h6 (va_runVN (As := [a0, a1, a2, a3]) (rest := st) C.1 (hM z) cw ⟨mq_blind, va_recv C.2.1 h2 hc hq, mq_pre C h2 h3 h4 h5 h6⟩ rfl rfl h1.1 rfl (lv_room hst) d hf) (fun v M2 hp => by
      obtain ⟨r, rfl, hp⟩ := hp
      exact k r M2 hp)
theorem xr_callS4r (C : mq_C p m c cc nL s args Ts own D tys z) {y : MethodName} {bytes : ByteArray} {maxL index mc ms : Nat} {ret : Option FieldType} {ws0 : List Cond} {rm : Room} {a0 a1 a2 a3 : Value} {P : Option Nat → mq_M → Prop}
    (hM : mq_Met l y ws0 rm D tys [a0, a1, a2, a3] M (mq_pr P) mc ms) (cw : CallB R s args own index y bytes maxL ret ws0 rm mc ms 4 ∧ (Cond.static y).before args s = true) (hst : (st.map fun v => v.category).sum ≤ 8) (hf : cells + mc ≤ R.cells ∧ slots + ms ≤ R.slots) (d : decode cc pc = .ok (.invokestatic index, 3))
    (k : ∀ (r : Option Nat) (M2 : mq_M), P r M2 → mq_X p l e R s m args below meth c Q nL D z H0 (cells + mc) (slots + ms) M2 (pc + 3) L (va_rf r :: st)) : mq_X p l e R s m args below meth c Q nL D z H0 cells slots M pc L (a3 :: a2 :: a1 :: a0 :: st) :=
  fun H locs la ws h1 h2 h3 h4 h5 h6 =>
    mq_call h1 h5 h6 (va_runS (As := [a0, a1, a2, a3]) (rest := st) C.1 (hM z) cw ⟨mq_blind, mq_pre C h2 h3 h4 h5 h6⟩ rfl rfl h1.1 rfl (lv_room hst) d hf) (fun v M2 hp => by
      obtain ⟨r, rfl, hp⟩ := hp
      exact k r M2 hp)
theorem xr_callS4rN (C : mq_C p m c cc nL s args Ts own D tys z) {y : MethodName} {bytes : ByteArray} {maxL index mc ms : Nat} {ret : Option FieldType} {ws0 : List Cond} {rm : Room} {host : String} {a0 a1 a2 a3 : Value} {P : Option Nat → mq_M → Prop}
    (hM : mq_Met l y ws0 rm D tys [a0, a1, a2, a3] M (mq_pr P) mc ms) (cw : va_CN R s args own index y host bytes maxL ret ws0 rm mc ms 4 ∧ (Cond.static y).before args s = true ∧ True) (hst : (st.map fun v => v.category).sum ≤ 8) (hf : cells + mc ≤ R.cells ∧ slots + ms ≤ R.slots) (d : decode cc pc = .ok (.invokestatic index, 3))
    (k : ∀ (r : Option Nat) (M2 : mq_M), P r M2 → mq_X p l e R s m args below meth c Q nL D z H0 (cells + mc) (slots + ms) M2 (pc + 3) L (va_rf r :: st)) : mq_X p l e R s m args below meth c Q nL D z H0 cells slots M pc L (a3 :: a2 :: a1 :: a0 :: st) :=
  fun H locs la ws h1 h2 h3 h4 h5 h6 =>
    mq_call h1 h5 h6 (va_runSN (As := [a0, a1, a2, a3]) (rest := st) C.1 (hM z) cw ⟨mq_blind, mq_pre C h2 h3 h4 h5 h6⟩ rfl rfl h1.1 rfl (lv_room hst) d hf) (fun v M2 hp => by
      obtain ⟨r, rfl, hp⟩ := hp
      exact k r M2 hp)
theorem xr_callV5i (C : mq_C p m c cc nL s args Ts own D tys z) {y : MethodName} {bytes : ByteArray} {maxL index mc ms b ci : Nat} {ret : Option FieldType} {ws0 : List Cond} {rm : Room} {Cn : String} {T : u_T} {N : Nat} {fs : List Value} {a0 a1 a2 a3 a4 : Value} {P : Int → mq_M → Prop}
    (hM : mq_Met l y ws0 rm D tys [.ref b, a0, a1, a2, a3, a4] M (mq_pi P) mc ms) (cw : CallW R s args own Cn index y bytes maxL ret ws0 rm mc ms 5) (hb : M b = some (.inr (ci, fs))) (hc : vwCl[ci]? = some (Cn, T, N)) (hst : (st.map fun v => v.category).sum ≤ 8) (hf : cells + mc ≤ R.cells ∧ slots + ms ≤ R.slots) (d : decode cc pc = .ok (.invokevirtual index, 3))
    (k : ∀ (r : Int) (M2 : mq_M), P r M2 → mq_X p l e R s m args below meth c Q nL D z H0 (cells + mc) (slots + ms) M2 (pc + 3) L (.int (zI r) :: st)) : mq_X p l e R s m args below meth c Q nL D z H0 cells slots M pc L (a4 :: a3 :: a2 :: a1 :: a0 :: .ref b :: st) :=
  fun H locs la ws h1 h2 h3 h4 h5 h6 => by
    obtain ⟨q, hq⟩ := h4.at hb
    exact mq_call h1 h5 h6 (va_runV (As := [a0, a1, a2, a3, a4]) (rest := st) C.1 (hM z) cw ⟨mq_blind, va_recv C.2.1 h2 hc hq, mq_pre C h2 h3 h4 h5 h6⟩ rfl rfl h1.1 rfl (lv_room hst) d hf) (fun v M2 hp => by
      obtain ⟨r, rfl, hp⟩ := hp
      exact k r M2 hp)
theorem xr_callV5iN (C : mq_C p m c cc nL s args Ts own D tys z) {y : MethodName} {bytes : ByteArray} {maxL index mc ms b ci : Nat} {ret : Option FieldType} {ws0 : List Cond} {rm : Room} {Cn host : String} {T : u_T} {N : Nat} {fs : List Value} {a0 a1 a2 a3 a4 : Value} {P : Int → mq_M → Prop}
    (hM : mq_Met l y ws0 rm D tys [.ref b, a0, a1, a2, a3, a4] M (mq_pi P) mc ms) (cw : va_CN R s args own index y host bytes maxL ret ws0 rm mc ms 5 ∧ (Cond.instanceMethod y).before args s = true ∧ (Cond.selects Cn y y).before args s = true) (hb : M b = some (.inr (ci, fs))) (hc : vwCl[ci]? = some (Cn, T, N)) (hst : (st.map fun v => v.category).sum ≤ 8) (hf : cells + mc ≤ R.cells ∧ slots + ms ≤ R.slots) (d : decode cc pc = .ok (.invokevirtual index, 3))
    (k : ∀ (r : Int) (M2 : mq_M), P r M2 → mq_X p l e R s m args below meth c Q nL D z H0 (cells + mc) (slots + ms) M2 (pc + 3) L (.int (zI r) :: st)) : mq_X p l e R s m args below meth c Q nL D z H0 cells slots M pc L (a4 :: a3 :: a2 :: a1 :: a0 :: .ref b :: st) :=
  fun H locs la ws h1 h2 h3 h4 h5 h6 => by
    obtain ⟨q, hq⟩ := h4.at hb
    exact mq_call h1 h5 h6 (va_runVN (As := [a0, a1, a2, a3, a4]) (rest := st) C.1 (hM z) cw ⟨mq_blind, va_recv C.2.1 h2 hc hq, mq_pre C h2 h3 h4 h5 h6⟩ rfl rfl h1.1 rfl (lv_room hst) d hf) (fun v M2 hp => by
      obtain ⟨r, rfl, hp⟩ := hp
      exact k r M2 hp)
theorem xr_callS5i (C : mq_C p m c cc nL s args Ts own D tys z) {y : MethodName} {bytes : ByteArray} {maxL index mc ms : Nat} {ret : Option FieldType} {ws0 : List Cond} {rm : Room} {a0 a1 a2 a3 a4 : Value} {P : Int → mq_M → Prop}
    (hM : mq_Met l y ws0 rm D tys [a0, a1, a2, a3, a4] M (mq_pi P) mc ms) (cw : CallB R s args own index y bytes maxL ret ws0 rm mc ms 5 ∧ (Cond.static y).before args s = true) (hst : (st.map fun v => v.category).sum ≤ 8) (hf : cells + mc ≤ R.cells ∧ slots + ms ≤ R.slots) (d : decode cc pc = .ok (.invokestatic index, 3))
    (k : ∀ (r : Int) (M2 : mq_M), P r M2 → mq_X p l e R s m args below meth c Q nL D z H0 (cells + mc) (slots + ms) M2 (pc + 3) L (.int (zI r) :: st)) : mq_X p l e R s m args below meth c Q nL D z H0 cells slots M pc L (a4 :: a3 :: a2 :: a1 :: a0 :: st) :=
  fun H locs la ws h1 h2 h3 h4 h5 h6 =>
    mq_call h1 h5 h6 (va_runS (As := [a0, a1, a2, a3, a4]) (rest := st) C.1 (hM z) cw ⟨mq_blind, mq_pre C h2 h3 h4 h5 h6⟩ rfl rfl h1.1 rfl (lv_room hst) d hf) (fun v M2 hp => by
      obtain ⟨r, rfl, hp⟩ := hp
      exact k r M2 hp)
theorem xr_callS5iN (C : mq_C p m c cc nL s args Ts own D tys z) {y : MethodName} {bytes : ByteArray} {maxL index mc ms : Nat} {ret : Option FieldType} {ws0 : List Cond} {rm : Room} {host : String} {a0 a1 a2 a3 a4 : Value} {P : Int → mq_M → Prop}
    (hM : mq_Met l y ws0 rm D tys [a0, a1, a2, a3, a4] M (mq_pi P) mc ms) (cw : va_CN R s args own index y host bytes maxL ret ws0 rm mc ms 5 ∧ (Cond.static y).before args s = true ∧ True) (hst : (st.map fun v => v.category).sum ≤ 8) (hf : cells + mc ≤ R.cells ∧ slots + ms ≤ R.slots) (d : decode cc pc = .ok (.invokestatic index, 3))
    (k : ∀ (r : Int) (M2 : mq_M), P r M2 → mq_X p l e R s m args below meth c Q nL D z H0 (cells + mc) (slots + ms) M2 (pc + 3) L (.int (zI r) :: st)) : mq_X p l e R s m args below meth c Q nL D z H0 cells slots M pc L (a4 :: a3 :: a2 :: a1 :: a0 :: st) :=
  fun H locs la ws h1 h2 h3 h4 h5 h6 =>
    mq_call h1 h5 h6 (va_runSN (As := [a0, a1, a2, a3, a4]) (rest := st) C.1 (hM z) cw ⟨mq_blind, mq_pre C h2 h3 h4 h5 h6⟩ rfl rfl h1.1 rfl (lv_room hst) d hf) (fun v M2 hp => by
      obtain ⟨r, rfl, hp⟩ := hp
      exact k r M2 hp)
theorem xr_callV5v (C : mq_C p m c cc nL s args Ts own D tys z) {y : MethodName} {bytes : ByteArray} {maxL index mc ms b ci : Nat} {ret : Option FieldType} {ws0 : List Cond} {rm : Room} {Cn : String} {T : u_T} {N : Nat} {fs : List Value} {a0 a1 a2 a3 a4 : Value} {P : mq_M → Prop}
    (hM : mq_Met l y ws0 rm D tys [.ref b, a0, a1, a2, a3, a4] M (mq_pv P) mc ms) (cw : CallW R s args own Cn index y bytes maxL ret ws0 rm mc ms 5) (hb : M b = some (.inr (ci, fs))) (hc : vwCl[ci]? = some (Cn, T, N)) (hst : (st.map fun v => v.category).sum ≤ 8) (hf : cells + mc ≤ R.cells ∧ slots + ms ≤ R.slots) (d : decode cc pc = .ok (.invokevirtual index, 3))
    (k : ∀ (M2 : mq_M), P M2 → mq_X p l e R s m args below meth c Q nL D z H0 (cells + mc) (slots + ms) M2 (pc + 3) L st) : mq_X p l e R s m args below meth c Q nL D z H0 cells slots M pc L (a4 :: a3 :: a2 :: a1 :: a0 :: .ref b :: st) :=
  fun H locs la ws h1 h2 h3 h4 h5 h6 => by
    obtain ⟨q, hq⟩ := h4.at hb
    exact mq_call h1 h5 h6 (va_runV (As := [a0, a1, a2, a3, a4]) (rest := st) C.1 (hM z) cw ⟨mq_blind, va_recv C.2.1 h2 hc hq, mq_pre C h2 h3 h4 h5 h6⟩ rfl rfl h1.1 rfl (lv_room hst) d hf) (fun v M2 hp => by
      obtain ⟨rfl, hp⟩ := hp
      exact k M2 hp)
theorem xr_callV5vN (C : mq_C p m c cc nL s args Ts own D tys z) {y : MethodName} {bytes : ByteArray} {maxL index mc ms b ci : Nat} {ret : Option FieldType} {ws0 : List Cond} {rm : Room} {Cn host : String} {T : u_T} {N : Nat} {fs : List Value} {a0 a1 a2 a3 a4 : Value} {P : mq_M → Prop}
    (hM : mq_Met l y ws0 rm D tys [.ref b, a0, a1, a2, a3, a4] M (mq_pv P) mc ms) (cw : va_CN R s args own index y host bytes maxL ret ws0 rm mc ms 5 ∧ (Cond.instanceMethod y).before args s = true ∧ (Cond.selects Cn y y).before args s = true) (hb : M b = some (.inr (ci, fs))) (hc : vwCl[ci]? = some (Cn, T, N)) (hst : (st.map fun v => v.category).sum ≤ 8) (hf : cells + mc ≤ R.cells ∧ slots + ms ≤ R.slots) (d : decode cc pc = .ok (.invokevirtual index, 3))
    (k : ∀ (M2 : mq_M), P M2 → mq_X p l e R s m args below meth c Q nL D z H0 (cells + mc) (slots + ms) M2 (pc + 3) L st) : mq_X p l e R s m args below meth c Q nL D z H0 cells slots M pc L (a4 :: a3 :: a2 :: a1 :: a0 :: .ref b :: st) :=
  fun H locs la ws h1 h2 h3 h4 h5 h6 => by
    obtain ⟨q, hq⟩ := h4.at hb
    exact mq_call h1 h5 h6 (va_runVN (As := [a0, a1, a2, a3, a4]) (rest := st) C.1 (hM z) cw ⟨mq_blind, va_recv C.2.1 h2 hc hq, mq_pre C h2 h3 h4 h5 h6⟩ rfl rfl h1.1 rfl (lv_room hst) d hf) (fun v M2 hp => by
      obtain ⟨rfl, hp⟩ := hp
      exact k M2 hp)
theorem xr_callS5v (C : mq_C p m c cc nL s args Ts own D tys z) {y : MethodName} {bytes : ByteArray} {maxL index mc ms : Nat} {ret : Option FieldType} {ws0 : List Cond} {rm : Room} {a0 a1 a2 a3 a4 : Value} {P : mq_M → Prop}
    (hM : mq_Met l y ws0 rm D tys [a0, a1, a2, a3, a4] M (mq_pv P) mc ms) (cw : CallB R s args own index y bytes maxL ret ws0 rm mc ms 5 ∧ (Cond.static y).before args s = true) (hst : (st.map fun v => v.category).sum ≤ 8) (hf : cells + mc ≤ R.cells ∧ slots + ms ≤ R.slots) (d : decode cc pc = .ok (.invokestatic index, 3))
    (k : ∀ (M2 : mq_M), P M2 → mq_X p l e R s m args below meth c Q nL D z H0 (cells + mc) (slots + ms) M2 (pc + 3) L st) : mq_X p l e R s m args below meth c Q nL D z H0 cells slots M pc L (a4 :: a3 :: a2 :: a1 :: a0 :: st) :=
  fun H locs la ws h1 h2 h3 h4 h5 h6 =>
    mq_call h1 h5 h6 (va_runS (As := [a0, a1, a2, a3, a4]) (rest := st) C.1 (hM z) cw ⟨mq_blind, mq_pre C h2 h3 h4 h5 h6⟩ rfl rfl h1.1 rfl (lv_room hst) d hf) (fun v M2 hp => by
      obtain ⟨rfl, hp⟩ := hp
      exact k M2 hp)
theorem xr_callS5vN (C : mq_C p m c cc nL s args Ts own D tys z) {y : MethodName} {bytes : ByteArray} {maxL index mc ms : Nat} {ret : Option FieldType} {ws0 : List Cond} {rm : Room} {host : String} {a0 a1 a2 a3 a4 : Value} {P : mq_M → Prop}
    (hM : mq_Met l y ws0 rm D tys [a0, a1, a2, a3, a4] M (mq_pv P) mc ms) (cw : va_CN R s args own index y host bytes maxL ret ws0 rm mc ms 5 ∧ (Cond.static y).before args s = true ∧ True) (hst : (st.map fun v => v.category).sum ≤ 8) (hf : cells + mc ≤ R.cells ∧ slots + ms ≤ R.slots) (d : decode cc pc = .ok (.invokestatic index, 3))
    (k : ∀ (M2 : mq_M), P M2 → mq_X p l e R s m args below meth c Q nL D z H0 (cells + mc) (slots + ms) M2 (pc + 3) L st) : mq_X p l e R s m args below meth c Q nL D z H0 cells slots M pc L (a4 :: a3 :: a2 :: a1 :: a0 :: st) :=
  fun H locs la ws h1 h2 h3 h4 h5 h6 =>
    mq_call h1 h5 h6 (va_runSN (As := [a0, a1, a2, a3, a4]) (rest := st) C.1 (hM z) cw ⟨mq_blind, mq_pre C h2 h3 h4 h5 h6⟩ rfl rfl h1.1 rfl (lv_room hst) d hf) (fun v M2 hp => by
      obtain ⟨rfl, hp⟩ := hp
      exact k M2 hp)
theorem xr_callI5 (C : mq_C p m c cc nL s args Ts own D tys z) {y : MethodName} {bytes : ByteArray} {maxL index mc ms b : Nat} {ws0 : List Cond} {rm : Room} {a0 a1 a2 a3 a4 : Value} {P : mq_M → Prop}
    (hM : mq_Met l y ws0 rm D tys [.ref b, a0, a1, a2, a3, a4] M (mq_pv P) mc ms) (cw : CallB R s args own index y bytes maxL none ws0 rm mc ms 5 ∧ y.name = "<init>" ∧ (Cond.instanceMethod y).before args s = true) (hst : (st.map fun v => v.category).sum ≤ 8) (hf : cells + mc ≤ R.cells ∧ slots + ms ≤ R.slots) (d : decode cc pc = .ok (.invokespecial index, 3))
    (k : ∀ (M2 : mq_M), P M2 → mq_X p l e R s m args below meth c Q nL D z H0 (cells + mc) (slots + ms) M2 (pc + 3) L st) : mq_X p l e R s m args below meth c Q nL D z H0 cells slots M pc L (a4 :: a3 :: a2 :: a1 :: a0 :: .ref b :: st) :=
  fun H locs la ws h1 h2 h3 h4 h5 h6 =>
    mq_call h1 h5 h6 (va_runI (As := [a0, a1, a2, a3, a4]) (rest := st) C.1 (hM z) cw ⟨mq_blind, mq_pre C h2 h3 h4 h5 h6⟩ rfl rfl h1.1 rfl (lv_room hst) d hf) (fun v M2 hp => by
      obtain ⟨rfl, hp⟩ := hp
      exact k M2 hp)
theorem xr_callI5N (C : mq_C p m c cc nL s args Ts own D tys z) {y : MethodName} {bytes : ByteArray} {maxL index mc ms b : Nat} {ws0 : List Cond} {rm : Room} {host : String} {a0 a1 a2 a3 a4 : Value} {P : mq_M → Prop}
    (hM : mq_Met l y ws0 rm D tys [.ref b, a0, a1, a2, a3, a4] M (mq_pv P) mc ms) (cw : va_CN R s args own index y host bytes maxL none ws0 rm mc ms 5 ∧ y.name = "<init>" ∧ (Cond.instanceMethod y).before args s = true) (hst : (st.map fun v => v.category).sum ≤ 8) (hf : cells + mc ≤ R.cells ∧ slots + ms ≤ R.slots) (d : decode cc pc = .ok (.invokespecial index, 3))
    (k : ∀ (M2 : mq_M), P M2 → mq_X p l e R s m args below meth c Q nL D z H0 (cells + mc) (slots + ms) M2 (pc + 3) L st) : mq_X p l e R s m args below meth c Q nL D z H0 cells slots M pc L (a4 :: a3 :: a2 :: a1 :: a0 :: .ref b :: st) :=
  fun H locs la ws h1 h2 h3 h4 h5 h6 =>
    mq_call h1 h5 h6 (va_runIN (As := [a0, a1, a2, a3, a4]) (rest := st) C.1 (hM z) cw ⟨mq_blind, mq_pre C h2 h3 h4 h5 h6⟩ rfl rfl h1.1 rfl (lv_room hst) d hf) (fun v M2 hp => by
      obtain ⟨rfl, hp⟩ := hp
      exact k M2 hp)
theorem xr_callV5l (C : mq_C p m c cc nL s args Ts own D tys z) {y : MethodName} {bytes : ByteArray} {maxL index mc ms b ci : Nat} {ret : Option FieldType} {ws0 : List Cond} {rm : Room} {Cn : String} {T : u_T} {N : Nat} {fs : List Value} {a0 a1 a2 a3 a4 : Value} {P : Int64 → mq_M → Prop}
    (hM : mq_Met l y ws0 rm D tys [.ref b, a0, a1, a2, a3, a4] M (mq_pl P) mc ms) (cw : CallW R s args own Cn index y bytes maxL ret ws0 rm mc ms 5) (hb : M b = some (.inr (ci, fs))) (hc : vwCl[ci]? = some (Cn, T, N)) (hst : (st.map fun v => v.category).sum ≤ 8) (hf : cells + mc ≤ R.cells ∧ slots + ms ≤ R.slots) (d : decode cc pc = .ok (.invokevirtual index, 3))
    (k : ∀ (r : Int64) (M2 : mq_M), P r M2 → mq_X p l e R s m args below meth c Q nL D z H0 (cells + mc) (slots + ms) M2 (pc + 3) L (.long r :: st)) : mq_X p l e R s m args below meth c Q nL D z H0 cells slots M pc L (a4 :: a3 :: a2 :: a1 :: a0 :: .ref b :: st) :=
  fun H locs la ws h1 h2 h3 h4 h5 h6 => by
    obtain ⟨q, hq⟩ := h4.at hb
    exact mq_call h1 h5 h6 (va_runV (As := [a0, a1, a2, a3, a4]) (rest := st) C.1 (hM z) cw ⟨mq_blind, va_recv C.2.1 h2 hc hq, mq_pre C h2 h3 h4 h5 h6⟩ rfl rfl h1.1 rfl (lv_room hst) d hf) (fun v M2 hp => by
      obtain ⟨r, rfl, hp⟩ := hp
      exact k r M2 hp)
theorem xr_callV5lN (C : mq_C p m c cc nL s args Ts own D tys z) {y : MethodName} {bytes : ByteArray} {maxL index mc ms b ci : Nat} {ret : Option FieldType} {ws0 : List Cond} {rm : Room} {Cn host : String} {T : u_T} {N : Nat} {fs : List Value} {a0 a1 a2 a3 a4 : Value} {P : Int64 → mq_M → Prop}
    (hM : mq_Met l y ws0 rm D tys [.ref b, a0, a1, a2, a3, a4] M (mq_pl P) mc ms) (cw : va_CN R s args own index y host bytes maxL ret ws0 rm mc ms 5 ∧ (Cond.instanceMethod y).before args s = true ∧ (Cond.selects Cn y y).before args s = true) (hb : M b = some (.inr (ci, fs))) (hc : vwCl[ci]? = some (Cn, T, N)) (hst : (st.map fun v => v.category).sum ≤ 8) (hf : cells + mc ≤ R.cells ∧ slots + ms ≤ R.slots) (d : decode cc pc = .ok (.invokevirtual index, 3))
    (k : ∀ (r : Int64) (M2 : mq_M), P r M2 → mq_X p l e R s m args below meth c Q nL D z H0 (cells + mc) (slots + ms) M2 (pc + 3) L (.long r :: st)) : mq_X p l e R s m args below meth c Q nL D z H0 cells slots M pc L (a4 :: a3 :: a2 :: a1 :: a0 :: .ref b :: st) :=
  fun H locs la ws h1 h2 h3 h4 h5 h6 => by
    obtain ⟨q, hq⟩ := h4.at hb
    exact mq_call h1 h5 h6 (va_runVN (As := [a0, a1, a2, a3, a4]) (rest := st) C.1 (hM z) cw ⟨mq_blind, va_recv C.2.1 h2 hc hq, mq_pre C h2 h3 h4 h5 h6⟩ rfl rfl h1.1 rfl (lv_room hst) d hf) (fun v M2 hp => by
      obtain ⟨r, rfl, hp⟩ := hp
      exact k r M2 hp)
theorem xr_callS5l (C : mq_C p m c cc nL s args Ts own D tys z) {y : MethodName} {bytes : ByteArray} {maxL index mc ms : Nat} {ret : Option FieldType} {ws0 : List Cond} {rm : Room} {a0 a1 a2 a3 a4 : Value} {P : Int64 → mq_M → Prop}
    (hM : mq_Met l y ws0 rm D tys [a0, a1, a2, a3, a4] M (mq_pl P) mc ms) (cw : CallB R s args own index y bytes maxL ret ws0 rm mc ms 5 ∧ (Cond.static y).before args s = true) (hst : (st.map fun v => v.category).sum ≤ 8) (hf : cells + mc ≤ R.cells ∧ slots + ms ≤ R.slots) (d : decode cc pc = .ok (.invokestatic index, 3))
    (k : ∀ (r : Int64) (M2 : mq_M), P r M2 → mq_X p l e R s m args below meth c Q nL D z H0 (cells + mc) (slots + ms) M2 (pc + 3) L (.long r :: st)) : mq_X p l e R s m args below meth c Q nL D z H0 cells slots M pc L (a4 :: a3 :: a2 :: a1 :: a0 :: st) :=
  fun H locs la ws h1 h2 h3 h4 h5 h6 =>
    mq_call h1 h5 h6 (va_runS (As := [a0, a1, a2, a3, a4]) (rest := st) C.1 (hM z) cw ⟨mq_blind, mq_pre C h2 h3 h4 h5 h6⟩ rfl rfl h1.1 rfl (lv_room hst) d hf) (fun v M2 hp => by
      obtain ⟨r, rfl, hp⟩ := hp
      exact k r M2 hp)
theorem xr_callS5lN (C : mq_C p m c cc nL s args Ts own D tys z) {y : MethodName} {bytes : ByteArray} {maxL index mc ms : Nat} {ret : Option FieldType} {ws0 : List Cond} {rm : Room} {host : String} {a0 a1 a2 a3 a4 : Value} {P : Int64 → mq_M → Prop}
    (hM : mq_Met l y ws0 rm D tys [a0, a1, a2, a3, a4] M (mq_pl P) mc ms) (cw : va_CN R s args own index y host bytes maxL ret ws0 rm mc ms 5 ∧ (Cond.static y).before args s = true ∧ True) (hst : (st.map fun v => v.category).sum ≤ 8) (hf : cells + mc ≤ R.cells ∧ slots + ms ≤ R.slots) (d : decode cc pc = .ok (.invokestatic index, 3))
    (k : ∀ (r : Int64) (M2 : mq_M), P r M2 → mq_X p l e R s m args below meth c Q nL D z H0 (cells + mc) (slots + ms) M2 (pc + 3) L (.long r :: st)) : mq_X p l e R s m args below meth c Q nL D z H0 cells slots M pc L (a4 :: a3 :: a2 :: a1 :: a0 :: st) :=
  fun H locs la ws h1 h2 h3 h4 h5 h6 =>
    mq_call h1 h5 h6 (va_runSN (As := [a0, a1, a2, a3, a4]) (rest := st) C.1 (hM z) cw ⟨mq_blind, mq_pre C h2 h3 h4 h5 h6⟩ rfl rfl h1.1 rfl (lv_room hst) d hf) (fun v M2 hp => by
      obtain ⟨r, rfl, hp⟩ := hp
      exact k r M2 hp)
theorem xr_callV5a (C : mq_C p m c cc nL s args Ts own D tys z) {y : MethodName} {bytes : ByteArray} {maxL index mc ms b ci : Nat} {ret : Option FieldType} {ws0 : List Cond} {rm : Room} {Cn : String} {T : u_T} {N : Nat} {fs : List Value} {a0 a1 a2 a3 a4 : Value} {P : Nat → mq_M → Prop}
    (hM : mq_Met l y ws0 rm D tys [.ref b, a0, a1, a2, a3, a4] M (mq_pa P) mc ms) (cw : CallW R s args own Cn index y bytes maxL ret ws0 rm mc ms 5) (hb : M b = some (.inr (ci, fs))) (hc : vwCl[ci]? = some (Cn, T, N)) (hst : (st.map fun v => v.category).sum ≤ 8) (hf : cells + mc ≤ R.cells ∧ slots + ms ≤ R.slots) (d : decode cc pc = .ok (.invokevirtual index, 3))
    (k : ∀ (r : Nat) (M2 : mq_M), P r M2 → mq_X p l e R s m args below meth c Q nL D z H0 (cells + mc) (slots + ms) M2 (pc + 3) L (.ref r :: st)) : mq_X p l e R s m args below meth c Q nL D z H0 cells slots M pc L (a4 :: a3 :: a2 :: a1 :: a0 :: .ref b :: st) :=
  fun H locs la ws h1 h2 h3 h4 h5 h6 => by
    obtain ⟨q, hq⟩ := h4.at hb
    exact mq_call h1 h5 h6 (va_runV (As := [a0, a1, a2, a3, a4]) (rest := st) C.1 (hM z) cw ⟨mq_blind, va_recv C.2.1 h2 hc hq, mq_pre C h2 h3 h4 h5 h6⟩ rfl rfl h1.1 rfl (lv_room hst) d hf) (fun v M2 hp => by
      obtain ⟨r, rfl, hp⟩ := hp
      exact k r M2 hp)
theorem xr_callV5aN (C : mq_C p m c cc nL s args Ts own D tys z) {y : MethodName} {bytes : ByteArray} {maxL index mc ms b ci : Nat} {ret : Option FieldType} {ws0 : List Cond} {rm : Room} {Cn host : String} {T : u_T} {N : Nat} {fs : List Value} {a0 a1 a2 a3 a4 : Value} {P : Nat → mq_M → Prop}
    (hM : mq_Met l y ws0 rm D tys [.ref b, a0, a1, a2, a3, a4] M (mq_pa P) mc ms) (cw : va_CN R s args own index y host bytes maxL ret ws0 rm mc ms 5 ∧ (Cond.instanceMethod y).before args s = true ∧ (Cond.selects Cn y y).before args s = true) (hb : M b = some (.inr (ci, fs))) (hc : vwCl[ci]? = some (Cn, T, N)) (hst : (st.map fun v => v.category).sum ≤ 8) (hf : cells + mc ≤ R.cells ∧ slots + ms ≤ R.slots) (d : decode cc pc = .ok (.invokevirtual index, 3))
    (k : ∀ (r : Nat) (M2 : mq_M), P r M2 → mq_X p l e R s m args below meth c Q nL D z H0 (cells + mc) (slots + ms) M2 (pc + 3) L (.ref r :: st)) : mq_X p l e R s m args below meth c Q nL D z H0 cells slots M pc L (a4 :: a3 :: a2 :: a1 :: a0 :: .ref b :: st) :=
  fun H locs la ws h1 h2 h3 h4 h5 h6 => by
    obtain ⟨q, hq⟩ := h4.at hb
    exact mq_call h1 h5 h6 (va_runVN (As := [a0, a1, a2, a3, a4]) (rest := st) C.1 (hM z) cw ⟨mq_blind, va_recv C.2.1 h2 hc hq, mq_pre C h2 h3 h4 h5 h6⟩ rfl rfl h1.1 rfl (lv_room hst) d hf) (fun v M2 hp => by
      obtain ⟨r, rfl, hp⟩ := hp
      exact k r M2 hp)
theorem xr_callS5a (C : mq_C p m c cc nL s args Ts own D tys z) {y : MethodName} {bytes : ByteArray} {maxL index mc ms : Nat} {ret : Option FieldType} {ws0 : List Cond} {rm : Room} {a0 a1 a2 a3 a4 : Value} {P : Nat → mq_M → Prop}
    (hM : mq_Met l y ws0 rm D tys [a0, a1, a2, a3, a4] M (mq_pa P) mc ms) (cw : CallB R s args own index y bytes maxL ret ws0 rm mc ms 5 ∧ (Cond.static y).before args s = true) (hst : (st.map fun v => v.category).sum ≤ 8) (hf : cells + mc ≤ R.cells ∧ slots + ms ≤ R.slots) (d : decode cc pc = .ok (.invokestatic index, 3))
    (k : ∀ (r : Nat) (M2 : mq_M), P r M2 → mq_X p l e R s m args below meth c Q nL D z H0 (cells + mc) (slots + ms) M2 (pc + 3) L (.ref r :: st)) : mq_X p l e R s m args below meth c Q nL D z H0 cells slots M pc L (a4 :: a3 :: a2 :: a1 :: a0 :: st) :=
  fun H locs la ws h1 h2 h3 h4 h5 h6 =>
    mq_call h1 h5 h6 (va_runS (As := [a0, a1, a2, a3, a4]) (rest := st) C.1 (hM z) cw ⟨mq_blind, mq_pre C h2 h3 h4 h5 h6⟩ rfl rfl h1.1 rfl (lv_room hst) d hf) (fun v M2 hp => by
      obtain ⟨r, rfl, hp⟩ := hp
      exact k r M2 hp)
theorem xr_callS5aN (C : mq_C p m c cc nL s args Ts own D tys z) {y : MethodName} {bytes : ByteArray} {maxL index mc ms : Nat} {ret : Option FieldType} {ws0 : List Cond} {rm : Room} {host : String} {a0 a1 a2 a3 a4 : Value} {P : Nat → mq_M → Prop}
    (hM : mq_Met l y ws0 rm D tys [a0, a1, a2, a3, a4] M (mq_pa P) mc ms) (cw : va_CN R s args own index y host bytes maxL ret ws0 rm mc ms 5 ∧ (Cond.static y).before args s = true ∧ True) (hst : (st.map fun v => v.category).sum ≤ 8) (hf : cells + mc ≤ R.cells ∧ slots + ms ≤ R.slots) (d : decode cc pc = .ok (.invokestatic index, 3))
    (k : ∀ (r : Nat) (M2 : mq_M), P r M2 → mq_X p l e R s m args below meth c Q nL D z H0 (cells + mc) (slots + ms) M2 (pc + 3) L (.ref r :: st)) : mq_X p l e R s m args below meth c Q nL D z H0 cells slots M pc L (a4 :: a3 :: a2 :: a1 :: a0 :: st) :=
  fun H locs la ws h1 h2 h3 h4 h5 h6 =>
    mq_call h1 h5 h6 (va_runSN (As := [a0, a1, a2, a3, a4]) (rest := st) C.1 (hM z) cw ⟨mq_blind, mq_pre C h2 h3 h4 h5 h6⟩ rfl rfl h1.1 rfl (lv_room hst) d hf) (fun v M2 hp => by
      obtain ⟨r, rfl, hp⟩ := hp
      exact k r M2 hp)
theorem xr_callV5n (C : mq_C p m c cc nL s args Ts own D tys z) {y : MethodName} {bytes : ByteArray} {maxL index mc ms b ci : Nat} {ret : Option FieldType} {ws0 : List Cond} {rm : Room} {Cn : String} {T : u_T} {N : Nat} {fs : List Value} {a0 a1 a2 a3 a4 : Value} {P : mq_M → Prop}
    (hM : mq_Met l y ws0 rm D tys [.ref b, a0, a1, a2, a3, a4] M (mq_pn P) mc ms) (cw : CallW R s args own Cn index y bytes maxL ret ws0 rm mc ms 5) (hb : M b = some (.inr (ci, fs))) (hc : vwCl[ci]? = some (Cn, T, N)) (hst : (st.map fun v => v.category).sum ≤ 8) (hf : cells + mc ≤ R.cells ∧ slots + ms ≤ R.slots) (d : decode cc pc = .ok (.invokevirtual index, 3))
    (k : ∀ (M2 : mq_M), P M2 → mq_X p l e R s m args below meth c Q nL D z H0 (cells + mc) (slots + ms) M2 (pc + 3) L (.null :: st)) : mq_X p l e R s m args below meth c Q nL D z H0 cells slots M pc L (a4 :: a3 :: a2 :: a1 :: a0 :: .ref b :: st) :=
  fun H locs la ws h1 h2 h3 h4 h5 h6 => by
    obtain ⟨q, hq⟩ := h4.at hb
    exact mq_call h1 h5 h6 (va_runV (As := [a0, a1, a2, a3, a4]) (rest := st) C.1 (hM z) cw ⟨mq_blind, va_recv C.2.1 h2 hc hq, mq_pre C h2 h3 h4 h5 h6⟩ rfl rfl h1.1 rfl (lv_room hst) d hf) (fun v M2 hp => by
      obtain ⟨rfl, hp⟩ := hp
      exact k M2 hp)
theorem xr_callV5nN (C : mq_C p m c cc nL s args Ts own D tys z) {y : MethodName} {bytes : ByteArray} {maxL index mc ms b ci : Nat} {ret : Option FieldType} {ws0 : List Cond} {rm : Room} {Cn host : String} {T : u_T} {N : Nat} {fs : List Value} {a0 a1 a2 a3 a4 : Value} {P : mq_M → Prop}
    (hM : mq_Met l y ws0 rm D tys [.ref b, a0, a1, a2, a3, a4] M (mq_pn P) mc ms) (cw : va_CN R s args own index y host bytes maxL ret ws0 rm mc ms 5 ∧ (Cond.instanceMethod y).before args s = true ∧ (Cond.selects Cn y y).before args s = true) (hb : M b = some (.inr (ci, fs))) (hc : vwCl[ci]? = some (Cn, T, N)) (hst : (st.map fun v => v.category).sum ≤ 8) (hf : cells + mc ≤ R.cells ∧ slots + ms ≤ R.slots) (d : decode cc pc = .ok (.invokevirtual index, 3))
    (k : ∀ (M2 : mq_M), P M2 → mq_X p l e R s m args below meth c Q nL D z H0 (cells + mc) (slots + ms) M2 (pc + 3) L (.null :: st)) : mq_X p l e R s m args below meth c Q nL D z H0 cells slots M pc L (a4 :: a3 :: a2 :: a1 :: a0 :: .ref b :: st) :=
  fun H locs la ws h1 h2 h3 h4 h5 h6 => by
    obtain ⟨q, hq⟩ := h4.at hb
    exact mq_call h1 h5 h6 (va_runVN (As := [a0, a1, a2, a3, a4]) (rest := st) C.1 (hM z) cw ⟨mq_blind, va_recv C.2.1 h2 hc hq, mq_pre C h2 h3 h4 h5 h6⟩ rfl rfl h1.1 rfl (lv_room hst) d hf) (fun v M2 hp => by
      obtain ⟨rfl, hp⟩ := hp
      exact k M2 hp)
theorem xr_callS5n (C : mq_C p m c cc nL s args Ts own D tys z) {y : MethodName} {bytes : ByteArray} {maxL index mc ms : Nat} {ret : Option FieldType} {ws0 : List Cond} {rm : Room} {a0 a1 a2 a3 a4 : Value} {P : mq_M → Prop}
    (hM : mq_Met l y ws0 rm D tys [a0, a1, a2, a3, a4] M (mq_pn P) mc ms) (cw : CallB R s args own index y bytes maxL ret ws0 rm mc ms 5 ∧ (Cond.static y).before args s = true) (hst : (st.map fun v => v.category).sum ≤ 8) (hf : cells + mc ≤ R.cells ∧ slots + ms ≤ R.slots) (d : decode cc pc = .ok (.invokestatic index, 3))
    (k : ∀ (M2 : mq_M), P M2 → mq_X p l e R s m args below meth c Q nL D z H0 (cells + mc) (slots + ms) M2 (pc + 3) L (.null :: st)) : mq_X p l e R s m args below meth c Q nL D z H0 cells slots M pc L (a4 :: a3 :: a2 :: a1 :: a0 :: st) :=
  fun H locs la ws h1 h2 h3 h4 h5 h6 =>
    mq_call h1 h5 h6 (va_runS (As := [a0, a1, a2, a3, a4]) (rest := st) C.1 (hM z) cw ⟨mq_blind, mq_pre C h2 h3 h4 h5 h6⟩ rfl rfl h1.1 rfl (lv_room hst) d hf) (fun v M2 hp => by
      obtain ⟨rfl, hp⟩ := hp
      exact k M2 hp)
theorem xr_callS5nN (C : mq_C p m c cc nL s args Ts own D tys z) {y : MethodName} {bytes : ByteArray} {maxL index mc ms : Nat} {ret : Option FieldType} {ws0 : List Cond} {rm : Room} {host : String} {a0 a1 a2 a3 a4 : Value} {P : mq_M → Prop}
    (hM : mq_Met l y ws0 rm D tys [a0, a1, a2, a3, a4] M (mq_pn P) mc ms) (cw : va_CN R s args own index y host bytes maxL ret ws0 rm mc ms 5 ∧ (Cond.static y).before args s = true ∧ True) (hst : (st.map fun v => v.category).sum ≤ 8) (hf : cells + mc ≤ R.cells ∧ slots + ms ≤ R.slots) (d : decode cc pc = .ok (.invokestatic index, 3))
    (k : ∀ (M2 : mq_M), P M2 → mq_X p l e R s m args below meth c Q nL D z H0 (cells + mc) (slots + ms) M2 (pc + 3) L (.null :: st)) : mq_X p l e R s m args below meth c Q nL D z H0 cells slots M pc L (a4 :: a3 :: a2 :: a1 :: a0 :: st) :=
  fun H locs la ws h1 h2 h3 h4 h5 h6 =>
    mq_call h1 h5 h6 (va_runSN (As := [a0, a1, a2, a3, a4]) (rest := st) C.1 (hM z) cw ⟨mq_blind, mq_pre C h2 h3 h4 h5 h6⟩ rfl rfl h1.1 rfl (lv_room hst) d hf) (fun v M2 hp => by
      obtain ⟨rfl, hp⟩ := hp
      exact k M2 hp)
theorem xr_callV5r (C : mq_C p m c cc nL s args Ts own D tys z) {y : MethodName} {bytes : ByteArray} {maxL index mc ms b ci : Nat} {ret : Option FieldType} {ws0 : List Cond} {rm : Room} {Cn : String} {T : u_T} {N : Nat} {fs : List Value} {a0 a1 a2 a3 a4 : Value} {P : Option Nat → mq_M → Prop}
    (hM : mq_Met l y ws0 rm D tys [.ref b, a0, a1, a2, a3, a4] M (mq_pr P) mc ms) (cw : CallW R s args own Cn index y bytes maxL ret ws0 rm mc ms 5) (hb : M b = some (.inr (ci, fs))) (hc : vwCl[ci]? = some (Cn, T, N)) (hst : (st.map fun v => v.category).sum ≤ 8) (hf : cells + mc ≤ R.cells ∧ slots + ms ≤ R.slots) (d : decode cc pc = .ok (.invokevirtual index, 3))
    (k : ∀ (r : Option Nat) (M2 : mq_M), P r M2 → mq_X p l e R s m args below meth c Q nL D z H0 (cells + mc) (slots + ms) M2 (pc + 3) L (va_rf r :: st)) : mq_X p l e R s m args below meth c Q nL D z H0 cells slots M pc L (a4 :: a3 :: a2 :: a1 :: a0 :: .ref b :: st) :=
  fun H locs la ws h1 h2 h3 h4 h5 h6 => by
    obtain ⟨q, hq⟩ := h4.at hb
    exact mq_call h1 h5 h6 (va_runV (As := [a0, a1, a2, a3, a4]) (rest := st) C.1 (hM z) cw ⟨mq_blind, va_recv C.2.1 h2 hc hq, mq_pre C h2 h3 h4 h5 h6⟩ rfl rfl h1.1 rfl (lv_room hst) d hf) (fun v M2 hp => by
      obtain ⟨r, rfl, hp⟩ := hp
      exact k r M2 hp)
theorem xr_callV5rN (C : mq_C p m c cc nL s args Ts own D tys z) {y : MethodName} {bytes : ByteArray} {maxL index mc ms b ci : Nat} {ret : Option FieldType} {ws0 : List Cond} {rm : Room} {Cn host : String} {T : u_T} {N : Nat} {fs : List Value} {a0 a1 a2 a3 a4 : Value} {P : Option Nat → mq_M → Prop}
    (hM : mq_Met l y ws0 rm D tys [.ref b, a0, a1, a2, a3, a4] M (mq_pr P) mc ms) (cw : va_CN R s args own index y host bytes maxL ret ws0 rm mc ms 5 ∧ (Cond.instanceMethod y).before args s = true ∧ (Cond.selects Cn y y).before args s = true) (hb : M b = some (.inr (ci, fs))) (hc : vwCl[ci]? = some (Cn, T, N)) (hst : (st.map fun v => v.category).sum ≤ 8) (hf : cells + mc ≤ R.cells ∧ slots + ms ≤ R.slots) (d : decode cc pc = .ok (.invokevirtual index, 3))
    (k : ∀ (r : Option Nat) (M2 : mq_M), P r M2 → mq_X p l e R s m args below meth c Q nL D z H0 (cells + mc) (slots + ms) M2 (pc + 3) L (va_rf r :: st)) : mq_X p l e R s m args below meth c Q nL D z H0 cells slots M pc L (a4 :: a3 :: a2 :: a1 :: a0 :: .ref b :: st) :=
  fun H locs la ws h1 h2 h3 h4 h5 h6 => by
    obtain ⟨q, hq⟩ := h4.at hb
    exact mq_call h1 h5 h6 (va_runVN (As := [a0, a1, a2, a3, a4]) (rest := st) C.1 (hM z) cw ⟨mq_blind, va_recv C.2.1 h2 hc hq, mq_pre C h2 h3 h4 h5 h6⟩ rfl rfl h1.1 rfl (lv_room hst) d hf) (fun v M2 hp => by
      obtain ⟨r, rfl, hp⟩ := hp
      exact k r M2 hp)
theorem xr_callS5r (C : mq_C p m c cc nL s args Ts own D tys z) {y : MethodName} {bytes : ByteArray} {maxL index mc ms : Nat} {ret : Option FieldType} {ws0 : List Cond} {rm : Room} {a0 a1 a2 a3 a4 : Value} {P : Option Nat → mq_M → Prop}
    (hM : mq_Met l y ws0 rm D tys [a0, a1, a2, a3, a4] M (mq_pr P) mc ms) (cw : CallB R s args own index y bytes maxL ret ws0 rm mc ms 5 ∧ (Cond.static y).before args s = true) (hst : (st.map fun v => v.category).sum ≤ 8) (hf : cells + mc ≤ R.cells ∧ slots + ms ≤ R.slots) (d : decode cc pc = .ok (.invokestatic index, 3))
    (k : ∀ (r : Option Nat) (M2 : mq_M), P r M2 → mq_X p l e R s m args below meth c Q nL D z H0 (cells + mc) (slots + ms) M2 (pc + 3) L (va_rf r :: st)) : mq_X p l e R s m args below meth c Q nL D z H0 cells slots M pc L (a4 :: a3 :: a2 :: a1 :: a0 :: st) :=
  fun H locs la ws h1 h2 h3 h4 h5 h6 =>
    mq_call h1 h5 h6 (va_runS (As := [a0, a1, a2, a3, a4]) (rest := st) C.1 (hM z) cw ⟨mq_blind, mq_pre C h2 h3 h4 h5 h6⟩ rfl rfl h1.1 rfl (lv_room hst) d hf) (fun v M2 hp => by
      obtain ⟨r, rfl, hp⟩ := hp
      exact k r M2 hp)
theorem xr_callS5rN (C : mq_C p m c cc nL s args Ts own D tys z) {y : MethodName} {bytes : ByteArray} {maxL index mc ms : Nat} {ret : Option FieldType} {ws0 : List Cond} {rm : Room} {host : String} {a0 a1 a2 a3 a4 : Value} {P : Option Nat → mq_M → Prop}
    (hM : mq_Met l y ws0 rm D tys [a0, a1, a2, a3, a4] M (mq_pr P) mc ms) (cw : va_CN R s args own index y host bytes maxL ret ws0 rm mc ms 5 ∧ (Cond.static y).before args s = true ∧ True) (hst : (st.map fun v => v.category).sum ≤ 8) (hf : cells + mc ≤ R.cells ∧ slots + ms ≤ R.slots) (d : decode cc pc = .ok (.invokestatic index, 3))
    (k : ∀ (r : Option Nat) (M2 : mq_M), P r M2 → mq_X p l e R s m args below meth c Q nL D z H0 (cells + mc) (slots + ms) M2 (pc + 3) L (va_rf r :: st)) : mq_X p l e R s m args below meth c Q nL D z H0 cells slots M pc L (a4 :: a3 :: a2 :: a1 :: a0 :: st) :=
  fun H locs la ws h1 h2 h3 h4 h5 h6 =>
    mq_call h1 h5 h6 (va_runSN (As := [a0, a1, a2, a3, a4]) (rest := st) C.1 (hM z) cw ⟨mq_blind, mq_pre C h2 h3 h4 h5 h6⟩ rfl rfl h1.1 rfl (lv_room hst) d hf) (fun v M2 hp => by
      obtain ⟨r, rfl, hp⟩ := hp
      exact k r M2 hp)
theorem xr_callV6i (C : mq_C p m c cc nL s args Ts own D tys z) {y : MethodName} {bytes : ByteArray} {maxL index mc ms b ci : Nat} {ret : Option FieldType} {ws0 : List Cond} {rm : Room} {Cn : String} {T : u_T} {N : Nat} {fs : List Value} {a0 a1 a2 a3 a4 a5 : Value} {P : Int → mq_M → Prop}
    (hM : mq_Met l y ws0 rm D tys [.ref b, a0, a1, a2, a3, a4, a5] M (mq_pi P) mc ms) (cw : CallW R s args own Cn index y bytes maxL ret ws0 rm mc ms 6) (hb : M b = some (.inr (ci, fs))) (hc : vwCl[ci]? = some (Cn, T, N)) (hst : (st.map fun v => v.category).sum ≤ 8) (hf : cells + mc ≤ R.cells ∧ slots + ms ≤ R.slots) (d : decode cc pc = .ok (.invokevirtual index, 3))
    (k : ∀ (r : Int) (M2 : mq_M), P r M2 → mq_X p l e R s m args below meth c Q nL D z H0 (cells + mc) (slots + ms) M2 (pc + 3) L (.int (zI r) :: st)) : mq_X p l e R s m args below meth c Q nL D z H0 cells slots M pc L (a5 :: a4 :: a3 :: a2 :: a1 :: a0 :: .ref b :: st) :=
  fun H locs la ws h1 h2 h3 h4 h5 h6 => by
    obtain ⟨q, hq⟩ := h4.at hb
    exact mq_call h1 h5 h6 (va_runV (As := [a0, a1, a2, a3, a4, a5]) (rest := st) C.1 (hM z) cw ⟨mq_blind, va_recv C.2.1 h2 hc hq, mq_pre C h2 h3 h4 h5 h6⟩ rfl rfl h1.1 rfl (lv_room hst) d hf) (fun v M2 hp => by
      obtain ⟨r, rfl, hp⟩ := hp
      exact k r M2 hp)
theorem xr_callV6iN (C : mq_C p m c cc nL s args Ts own D tys z) {y : MethodName} {bytes : ByteArray} {maxL index mc ms b ci : Nat} {ret : Option FieldType} {ws0 : List Cond} {rm : Room} {Cn host : String} {T : u_T} {N : Nat} {fs : List Value} {a0 a1 a2 a3 a4 a5 : Value} {P : Int → mq_M → Prop}
    (hM : mq_Met l y ws0 rm D tys [.ref b, a0, a1, a2, a3, a4, a5] M (mq_pi P) mc ms) (cw : va_CN R s args own index y host bytes maxL ret ws0 rm mc ms 6 ∧ (Cond.instanceMethod y).before args s = true ∧ (Cond.selects Cn y y).before args s = true) (hb : M b = some (.inr (ci, fs))) (hc : vwCl[ci]? = some (Cn, T, N)) (hst : (st.map fun v => v.category).sum ≤ 8) (hf : cells + mc ≤ R.cells ∧ slots + ms ≤ R.slots) (d : decode cc pc = .ok (.invokevirtual index, 3))
    (k : ∀ (r : Int) (M2 : mq_M), P r M2 → mq_X p l e R s m args below meth c Q nL D z H0 (cells + mc) (slots + ms) M2 (pc + 3) L (.int (zI r) :: st)) : mq_X p l e R s m args below meth c Q nL D z H0 cells slots M pc L (a5 :: a4 :: a3 :: a2 :: a1 :: a0 :: .ref b :: st) :=
  fun H locs la ws h1 h2 h3 h4 h5 h6 => by
    obtain ⟨q, hq⟩ := h4.at hb
    exact mq_call h1 h5 h6 (va_runVN (As := [a0, a1, a2, a3, a4, a5]) (rest := st) C.1 (hM z) cw ⟨mq_blind, va_recv C.2.1 h2 hc hq, mq_pre C h2 h3 h4 h5 h6⟩ rfl rfl h1.1 rfl (lv_room hst) d hf) (fun v M2 hp => by
      obtain ⟨r, rfl, hp⟩ := hp
      exact k r M2 hp)
theorem xr_callS6i (C : mq_C p m c cc nL s args Ts own D tys z) {y : MethodName} {bytes : ByteArray} {maxL index mc ms : Nat} {ret : Option FieldType} {ws0 : List Cond} {rm : Room} {a0 a1 a2 a3 a4 a5 : Value} {P : Int → mq_M → Prop}
    (hM : mq_Met l y ws0 rm D tys [a0, a1, a2, a3, a4, a5] M (mq_pi P) mc ms) (cw : CallB R s args own index y bytes maxL ret ws0 rm mc ms 6 ∧ (Cond.static y).before args s = true) (hst : (st.map fun v => v.category).sum ≤ 8) (hf : cells + mc ≤ R.cells ∧ slots + ms ≤ R.slots) (d : decode cc pc = .ok (.invokestatic index, 3))
    (k : ∀ (r : Int) (M2 : mq_M), P r M2 → mq_X p l e R s m args below meth c Q nL D z H0 (cells + mc) (slots + ms) M2 (pc + 3) L (.int (zI r) :: st)) : mq_X p l e R s m args below meth c Q nL D z H0 cells slots M pc L (a5 :: a4 :: a3 :: a2 :: a1 :: a0 :: st) :=
  fun H locs la ws h1 h2 h3 h4 h5 h6 =>
    mq_call h1 h5 h6 (va_runS (As := [a0, a1, a2, a3, a4, a5]) (rest := st) C.1 (hM z) cw ⟨mq_blind, mq_pre C h2 h3 h4 h5 h6⟩ rfl rfl h1.1 rfl (lv_room hst) d hf) (fun v M2 hp => by
      obtain ⟨r, rfl, hp⟩ := hp
      exact k r M2 hp)
theorem xr_callS6iN (C : mq_C p m c cc nL s args Ts own D tys z) {y : MethodName} {bytes : ByteArray} {maxL index mc ms : Nat} {ret : Option FieldType} {ws0 : List Cond} {rm : Room} {host : String} {a0 a1 a2 a3 a4 a5 : Value} {P : Int → mq_M → Prop}
    (hM : mq_Met l y ws0 rm D tys [a0, a1, a2, a3, a4, a5] M (mq_pi P) mc ms) (cw : va_CN R s args own index y host bytes maxL ret ws0 rm mc ms 6 ∧ (Cond.static y).before args s = true ∧ True) (hst : (st.map fun v => v.category).sum ≤ 8) (hf : cells + mc ≤ R.cells ∧ slots + ms ≤ R.slots) (d : decode cc pc = .ok (.invokestatic index, 3))
    (k : ∀ (r : Int) (M2 : mq_M), P r M2 → mq_X p l e R s m args below meth c Q nL D z H0 (cells + mc) (slots + ms) M2 (pc + 3) L (.int (zI r) :: st)) : mq_X p l e R s m args below meth c Q nL D z H0 cells slots M pc L (a5 :: a4 :: a3 :: a2 :: a1 :: a0 :: st) :=
  fun H locs la ws h1 h2 h3 h4 h5 h6 =>
    mq_call h1 h5 h6 (va_runSN (As := [a0, a1, a2, a3, a4, a5]) (rest := st) C.1 (hM z) cw ⟨mq_blind, mq_pre C h2 h3 h4 h5 h6⟩ rfl rfl h1.1 rfl (lv_room hst) d hf) (fun v M2 hp => by
      obtain ⟨r, rfl, hp⟩ := hp
      exact k r M2 hp)
theorem xr_callV6v (C : mq_C p m c cc nL s args Ts own D tys z) {y : MethodName} {bytes : ByteArray} {maxL index mc ms b ci : Nat} {ret : Option FieldType} {ws0 : List Cond} {rm : Room} {Cn : String} {T : u_T} {N : Nat} {fs : List Value} {a0 a1 a2 a3 a4 a5 : Value} {P : mq_M → Prop}
    (hM : mq_Met l y ws0 rm D tys [.ref b, a0, a1, a2, a3, a4, a5] M (mq_pv P) mc ms) (cw : CallW R s args own Cn index y bytes maxL ret ws0 rm mc ms 6) (hb : M b = some (.inr (ci, fs))) (hc : vwCl[ci]? = some (Cn, T, N)) (hst : (st.map fun v => v.category).sum ≤ 8) (hf : cells + mc ≤ R.cells ∧ slots + ms ≤ R.slots) (d : decode cc pc = .ok (.invokevirtual index, 3))
    (k : ∀ (M2 : mq_M), P M2 → mq_X p l e R s m args below meth c Q nL D z H0 (cells + mc) (slots + ms) M2 (pc + 3) L st) : mq_X p l e R s m args below meth c Q nL D z H0 cells slots M pc L (a5 :: a4 :: a3 :: a2 :: a1 :: a0 :: .ref b :: st) :=
  fun H locs la ws h1 h2 h3 h4 h5 h6 => by
    obtain ⟨q, hq⟩ := h4.at hb
    exact mq_call h1 h5 h6 (va_runV (As := [a0, a1, a2, a3, a4, a5]) (rest := st) C.1 (hM z) cw ⟨mq_blind, va_recv C.2.1 h2 hc hq, mq_pre C h2 h3 h4 h5 h6⟩ rfl rfl h1.1 rfl (lv_room hst) d hf) (fun v M2 hp => by
      obtain ⟨rfl, hp⟩ := hp
      exact k M2 hp)
theorem xr_callV6vN (C : mq_C p m c cc nL s args Ts own D tys z) {y : MethodName} {bytes : ByteArray} {maxL index mc ms b ci : Nat} {ret : Option FieldType} {ws0 : List Cond} {rm : Room} {Cn host : String} {T : u_T} {N : Nat} {fs : List Value} {a0 a1 a2 a3 a4 a5 : Value} {P : mq_M → Prop}
    (hM : mq_Met l y ws0 rm D tys [.ref b, a0, a1, a2, a3, a4, a5] M (mq_pv P) mc ms) (cw : va_CN R s args own index y host bytes maxL ret ws0 rm mc ms 6 ∧ (Cond.instanceMethod y).before args s = true ∧ (Cond.selects Cn y y).before args s = true) (hb : M b = some (.inr (ci, fs))) (hc : vwCl[ci]? = some (Cn, T, N)) (hst : (st.map fun v => v.category).sum ≤ 8) (hf : cells + mc ≤ R.cells ∧ slots + ms ≤ R.slots) (d : decode cc pc = .ok (.invokevirtual index, 3))
    (k : ∀ (M2 : mq_M), P M2 → mq_X p l e R s m args below meth c Q nL D z H0 (cells + mc) (slots + ms) M2 (pc + 3) L st) : mq_X p l e R s m args below meth c Q nL D z H0 cells slots M pc L (a5 :: a4 :: a3 :: a2 :: a1 :: a0 :: .ref b :: st) :=
  fun H locs la ws h1 h2 h3 h4 h5 h6 => by
    obtain ⟨q, hq⟩ := h4.at hb
    exact mq_call h1 h5 h6 (va_runVN (As := [a0, a1, a2, a3, a4, a5]) (rest := st) C.1 (hM z) cw ⟨mq_blind, va_recv C.2.1 h2 hc hq, mq_pre C h2 h3 h4 h5 h6⟩ rfl rfl h1.1 rfl (lv_room hst) d hf) (fun v M2 hp => by
      obtain ⟨rfl, hp⟩ := hp
      exact k M2 hp)
theorem xr_callS6v (C : mq_C p m c cc nL s args Ts own D tys z) {y : MethodName} {bytes : ByteArray} {maxL index mc ms : Nat} {ret : Option FieldType} {ws0 : List Cond} {rm : Room} {a0 a1 a2 a3 a4 a5 : Value} {P : mq_M → Prop}
    (hM : mq_Met l y ws0 rm D tys [a0, a1, a2, a3, a4, a5] M (mq_pv P) mc ms) (cw : CallB R s args own index y bytes maxL ret ws0 rm mc ms 6 ∧ (Cond.static y).before args s = true) (hst : (st.map fun v => v.category).sum ≤ 8) (hf : cells + mc ≤ R.cells ∧ slots + ms ≤ R.slots) (d : decode cc pc = .ok (.invokestatic index, 3))
    (k : ∀ (M2 : mq_M), P M2 → mq_X p l e R s m args below meth c Q nL D z H0 (cells + mc) (slots + ms) M2 (pc + 3) L st) : mq_X p l e R s m args below meth c Q nL D z H0 cells slots M pc L (a5 :: a4 :: a3 :: a2 :: a1 :: a0 :: st) :=
  fun H locs la ws h1 h2 h3 h4 h5 h6 =>
    mq_call h1 h5 h6 (va_runS (As := [a0, a1, a2, a3, a4, a5]) (rest := st) C.1 (hM z) cw ⟨mq_blind, mq_pre C h2 h3 h4 h5 h6⟩ rfl rfl h1.1 rfl (lv_room hst) d hf) (fun v M2 hp => by
      obtain ⟨rfl, hp⟩ := hp
      exact k M2 hp)
theorem xr_callS6vN (C : mq_C p m c cc nL s args Ts own D tys z) {y : MethodName} {bytes : ByteArray} {maxL index mc ms : Nat} {ret : Option FieldType} {ws0 : List Cond} {rm : Room} {host : String} {a0 a1 a2 a3 a4 a5 : Value} {P : mq_M → Prop}
    (hM : mq_Met l y ws0 rm D tys [a0, a1, a2, a3, a4, a5] M (mq_pv P) mc ms) (cw : va_CN R s args own index y host bytes maxL ret ws0 rm mc ms 6 ∧ (Cond.static y).before args s = true ∧ True) (hst : (st.map fun v => v.category).sum ≤ 8) (hf : cells + mc ≤ R.cells ∧ slots + ms ≤ R.slots) (d : decode cc pc = .ok (.invokestatic index, 3))
    (k : ∀ (M2 : mq_M), P M2 → mq_X p l e R s m args below meth c Q nL D z H0 (cells + mc) (slots + ms) M2 (pc + 3) L st) : mq_X p l e R s m args below meth c Q nL D z H0 cells slots M pc L (a5 :: a4 :: a3 :: a2 :: a1 :: a0 :: st) :=
  fun H locs la ws h1 h2 h3 h4 h5 h6 =>
    mq_call h1 h5 h6 (va_runSN (As := [a0, a1, a2, a3, a4, a5]) (rest := st) C.1 (hM z) cw ⟨mq_blind, mq_pre C h2 h3 h4 h5 h6⟩ rfl rfl h1.1 rfl (lv_room hst) d hf) (fun v M2 hp => by
      obtain ⟨rfl, hp⟩ := hp
      exact k M2 hp)
theorem xr_callI6 (C : mq_C p m c cc nL s args Ts own D tys z) {y : MethodName} {bytes : ByteArray} {maxL index mc ms b : Nat} {ws0 : List Cond} {rm : Room} {a0 a1 a2 a3 a4 a5 : Value} {P : mq_M → Prop}
    (hM : mq_Met l y ws0 rm D tys [.ref b, a0, a1, a2, a3, a4, a5] M (mq_pv P) mc ms) (cw : CallB R s args own index y bytes maxL none ws0 rm mc ms 6 ∧ y.name = "<init>" ∧ (Cond.instanceMethod y).before args s = true) (hst : (st.map fun v => v.category).sum ≤ 8) (hf : cells + mc ≤ R.cells ∧ slots + ms ≤ R.slots) (d : decode cc pc = .ok (.invokespecial index, 3))
    (k : ∀ (M2 : mq_M), P M2 → mq_X p l e R s m args below meth c Q nL D z H0 (cells + mc) (slots + ms) M2 (pc + 3) L st) : mq_X p l e R s m args below meth c Q nL D z H0 cells slots M pc L (a5 :: a4 :: a3 :: a2 :: a1 :: a0 :: .ref b :: st) :=
  fun H locs la ws h1 h2 h3 h4 h5 h6 =>
    mq_call h1 h5 h6 (va_runI (As := [a0, a1, a2, a3, a4, a5]) (rest := st) C.1 (hM z) cw ⟨mq_blind, mq_pre C h2 h3 h4 h5 h6⟩ rfl rfl h1.1 rfl (lv_room hst) d hf) (fun v M2 hp => by
      obtain ⟨rfl, hp⟩ := hp
      exact k M2 hp)
theorem xr_callI6N (C : mq_C p m c cc nL s args Ts own D tys z) {y : MethodName} {bytes : ByteArray} {maxL index mc ms b : Nat} {ws0 : List Cond} {rm : Room} {host : String} {a0 a1 a2 a3 a4 a5 : Value} {P : mq_M → Prop}
    (hM : mq_Met l y ws0 rm D tys [.ref b, a0, a1, a2, a3, a4, a5] M (mq_pv P) mc ms) (cw : va_CN R s args own index y host bytes maxL none ws0 rm mc ms 6 ∧ y.name = "<init>" ∧ (Cond.instanceMethod y).before args s = true) (hst : (st.map fun v => v.category).sum ≤ 8) (hf : cells + mc ≤ R.cells ∧ slots + ms ≤ R.slots) (d : decode cc pc = .ok (.invokespecial index, 3))
    (k : ∀ (M2 : mq_M), P M2 → mq_X p l e R s m args below meth c Q nL D z H0 (cells + mc) (slots + ms) M2 (pc + 3) L st) : mq_X p l e R s m args below meth c Q nL D z H0 cells slots M pc L (a5 :: a4 :: a3 :: a2 :: a1 :: a0 :: .ref b :: st) :=
  fun H locs la ws h1 h2 h3 h4 h5 h6 =>
    mq_call h1 h5 h6 (va_runIN (As := [a0, a1, a2, a3, a4, a5]) (rest := st) C.1 (hM z) cw ⟨mq_blind, mq_pre C h2 h3 h4 h5 h6⟩ rfl rfl h1.1 rfl (lv_room hst) d hf) (fun v M2 hp => by
      obtain ⟨rfl, hp⟩ := hp
      exact k M2 hp)
theorem xr_callV6l (C : mq_C p m c cc nL s args Ts own D tys z) {y : MethodName} {bytes : ByteArray} {maxL index mc ms b ci : Nat} {ret : Option FieldType} {ws0 : List Cond} {rm : Room} {Cn : String} {T : u_T} {N : Nat} {fs : List Value} {a0 a1 a2 a3 a4 a5 : Value} {P : Int64 → mq_M → Prop}
    (hM : mq_Met l y ws0 rm D tys [.ref b, a0, a1, a2, a3, a4, a5] M (mq_pl P) mc ms) (cw : CallW R s args own Cn index y bytes maxL ret ws0 rm mc ms 6) (hb : M b = some (.inr (ci, fs))) (hc : vwCl[ci]? = some (Cn, T, N)) (hst : (st.map fun v => v.category).sum ≤ 8) (hf : cells + mc ≤ R.cells ∧ slots + ms ≤ R.slots) (d : decode cc pc = .ok (.invokevirtual index, 3))
    (k : ∀ (r : Int64) (M2 : mq_M), P r M2 → mq_X p l e R s m args below meth c Q nL D z H0 (cells + mc) (slots + ms) M2 (pc + 3) L (.long r :: st)) : mq_X p l e R s m args below meth c Q nL D z H0 cells slots M pc L (a5 :: a4 :: a3 :: a2 :: a1 :: a0 :: .ref b :: st) :=
  fun H locs la ws h1 h2 h3 h4 h5 h6 => by
    obtain ⟨q, hq⟩ := h4.at hb
    exact mq_call h1 h5 h6 (va_runV (As := [a0, a1, a2, a3, a4, a5]) (rest := st) C.1 (hM z) cw ⟨mq_blind, va_recv C.2.1 h2 hc hq, mq_pre C h2 h3 h4 h5 h6⟩ rfl rfl h1.1 rfl (lv_room hst) d hf) (fun v M2 hp => by
      obtain ⟨r, rfl, hp⟩ := hp
      exact k r M2 hp)
theorem xr_callV6lN (C : mq_C p m c cc nL s args Ts own D tys z) {y : MethodName} {bytes : ByteArray} {maxL index mc ms b ci : Nat} {ret : Option FieldType} {ws0 : List Cond} {rm : Room} {Cn host : String} {T : u_T} {N : Nat} {fs : List Value} {a0 a1 a2 a3 a4 a5 : Value} {P : Int64 → mq_M → Prop}
    (hM : mq_Met l y ws0 rm D tys [.ref b, a0, a1, a2, a3, a4, a5] M (mq_pl P) mc ms) (cw : va_CN R s args own index y host bytes maxL ret ws0 rm mc ms 6 ∧ (Cond.instanceMethod y).before args s = true ∧ (Cond.selects Cn y y).before args s = true) (hb : M b = some (.inr (ci, fs))) (hc : vwCl[ci]? = some (Cn, T, N)) (hst : (st.map fun v => v.category).sum ≤ 8) (hf : cells + mc ≤ R.cells ∧ slots + ms ≤ R.slots) (d : decode cc pc = .ok (.invokevirtual index, 3))
    (k : ∀ (r : Int64) (M2 : mq_M), P r M2 → mq_X p l e R s m args below meth c Q nL D z H0 (cells + mc) (slots + ms) M2 (pc + 3) L (.long r :: st)) : mq_X p l e R s m args below meth c Q nL D z H0 cells slots M pc L (a5 :: a4 :: a3 :: a2 :: a1 :: a0 :: .ref b :: st) :=
  fun H locs la ws h1 h2 h3 h4 h5 h6 => by
    obtain ⟨q, hq⟩ := h4.at hb
    exact mq_call h1 h5 h6 (va_runVN (As := [a0, a1, a2, a3, a4, a5]) (rest := st) C.1 (hM z) cw ⟨mq_blind, va_recv C.2.1 h2 hc hq, mq_pre C h2 h3 h4 h5 h6⟩ rfl rfl h1.1 rfl (lv_room hst) d hf) (fun v M2 hp => by
      obtain ⟨r, rfl, hp⟩ := hp
      exact k r M2 hp)
theorem xr_callS6l (C : mq_C p m c cc nL s args Ts own D tys z) {y : MethodName} {bytes : ByteArray} {maxL index mc ms : Nat} {ret : Option FieldType} {ws0 : List Cond} {rm : Room} {a0 a1 a2 a3 a4 a5 : Value} {P : Int64 → mq_M → Prop}
    (hM : mq_Met l y ws0 rm D tys [a0, a1, a2, a3, a4, a5] M (mq_pl P) mc ms) (cw : CallB R s args own index y bytes maxL ret ws0 rm mc ms 6 ∧ (Cond.static y).before args s = true) (hst : (st.map fun v => v.category).sum ≤ 8) (hf : cells + mc ≤ R.cells ∧ slots + ms ≤ R.slots) (d : decode cc pc = .ok (.invokestatic index, 3))
    (k : ∀ (r : Int64) (M2 : mq_M), P r M2 → mq_X p l e R s m args below meth c Q nL D z H0 (cells + mc) (slots + ms) M2 (pc + 3) L (.long r :: st)) : mq_X p l e R s m args below meth c Q nL D z H0 cells slots M pc L (a5 :: a4 :: a3 :: a2 :: a1 :: a0 :: st) :=
  fun H locs la ws h1 h2 h3 h4 h5 h6 =>
    mq_call h1 h5 h6 (va_runS (As := [a0, a1, a2, a3, a4, a5]) (rest := st) C.1 (hM z) cw ⟨mq_blind, mq_pre C h2 h3 h4 h5 h6⟩ rfl rfl h1.1 rfl (lv_room hst) d hf) (fun v M2 hp => by
      obtain ⟨r, rfl, hp⟩ := hp
      exact k r M2 hp)
theorem xr_callS6lN (C : mq_C p m c cc nL s args Ts own D tys z) {y : MethodName} {bytes : ByteArray} {maxL index mc ms : Nat} {ret : Option FieldType} {ws0 : List Cond} {rm : Room} {host : String} {a0 a1 a2 a3 a4 a5 : Value} {P : Int64 → mq_M → Prop}
    (hM : mq_Met l y ws0 rm D tys [a0, a1, a2, a3, a4, a5] M (mq_pl P) mc ms) (cw : va_CN R s args own index y host bytes maxL ret ws0 rm mc ms 6 ∧ (Cond.static y).before args s = true ∧ True) (hst : (st.map fun v => v.category).sum ≤ 8) (hf : cells + mc ≤ R.cells ∧ slots + ms ≤ R.slots) (d : decode cc pc = .ok (.invokestatic index, 3))
    (k : ∀ (r : Int64) (M2 : mq_M), P r M2 → mq_X p l e R s m args below meth c Q nL D z H0 (cells + mc) (slots + ms) M2 (pc + 3) L (.long r :: st)) : mq_X p l e R s m args below meth c Q nL D z H0 cells slots M pc L (a5 :: a4 :: a3 :: a2 :: a1 :: a0 :: st) :=
  fun H locs la ws h1 h2 h3 h4 h5 h6 =>
    mq_call h1 h5 h6 (va_runSN (As := [a0, a1, a2, a3, a4, a5]) (rest := st) C.1 (hM z) cw ⟨mq_blind, mq_pre C h2 h3 h4 h5 h6⟩ rfl rfl h1.1 rfl (lv_room hst) d hf) (fun v M2 hp => by
      obtain ⟨r, rfl, hp⟩ := hp
      exact k r M2 hp)
theorem xr_callV6a (C : mq_C p m c cc nL s args Ts own D tys z) {y : MethodName} {bytes : ByteArray} {maxL index mc ms b ci : Nat} {ret : Option FieldType} {ws0 : List Cond} {rm : Room} {Cn : String} {T : u_T} {N : Nat} {fs : List Value} {a0 a1 a2 a3 a4 a5 : Value} {P : Nat → mq_M → Prop}
    (hM : mq_Met l y ws0 rm D tys [.ref b, a0, a1, a2, a3, a4, a5] M (mq_pa P) mc ms) (cw : CallW R s args own Cn index y bytes maxL ret ws0 rm mc ms 6) (hb : M b = some (.inr (ci, fs))) (hc : vwCl[ci]? = some (Cn, T, N)) (hst : (st.map fun v => v.category).sum ≤ 8) (hf : cells + mc ≤ R.cells ∧ slots + ms ≤ R.slots) (d : decode cc pc = .ok (.invokevirtual index, 3))
    (k : ∀ (r : Nat) (M2 : mq_M), P r M2 → mq_X p l e R s m args below meth c Q nL D z H0 (cells + mc) (slots + ms) M2 (pc + 3) L (.ref r :: st)) : mq_X p l e R s m args below meth c Q nL D z H0 cells slots M pc L (a5 :: a4 :: a3 :: a2 :: a1 :: a0 :: .ref b :: st) :=
  fun H locs la ws h1 h2 h3 h4 h5 h6 => by
    obtain ⟨q, hq⟩ := h4.at hb
    exact mq_call h1 h5 h6 (va_runV (As := [a0, a1, a2, a3, a4, a5]) (rest := st) C.1 (hM z) cw ⟨mq_blind, va_recv C.2.1 h2 hc hq, mq_pre C h2 h3 h4 h5 h6⟩ rfl rfl h1.1 rfl (lv_room hst) d hf) (fun v M2 hp => by
      obtain ⟨r, rfl, hp⟩ := hp
      exact k r M2 hp)
theorem xr_callV6aN (C : mq_C p m c cc nL s args Ts own D tys z) {y : MethodName} {bytes : ByteArray} {maxL index mc ms b ci : Nat} {ret : Option FieldType} {ws0 : List Cond} {rm : Room} {Cn host : String} {T : u_T} {N : Nat} {fs : List Value} {a0 a1 a2 a3 a4 a5 : Value} {P : Nat → mq_M → Prop}
    (hM : mq_Met l y ws0 rm D tys [.ref b, a0, a1, a2, a3, a4, a5] M (mq_pa P) mc ms) (cw : va_CN R s args own index y host bytes maxL ret ws0 rm mc ms 6 ∧ (Cond.instanceMethod y).before args s = true ∧ (Cond.selects Cn y y).before args s = true) (hb : M b = some (.inr (ci, fs))) (hc : vwCl[ci]? = some (Cn, T, N)) (hst : (st.map fun v => v.category).sum ≤ 8) (hf : cells + mc ≤ R.cells ∧ slots + ms ≤ R.slots) (d : decode cc pc = .ok (.invokevirtual index, 3))
    (k : ∀ (r : Nat) (M2 : mq_M), P r M2 → mq_X p l e R s m args below meth c Q nL D z H0 (cells + mc) (slots + ms) M2 (pc + 3) L (.ref r :: st)) : mq_X p l e R s m args below meth c Q nL D z H0 cells slots M pc L (a5 :: a4 :: a3 :: a2 :: a1 :: a0 :: .ref b :: st) :=
  fun H locs la ws h1 h2 h3 h4 h5 h6 => by
    obtain ⟨q, hq⟩ := h4.at hb
    exact mq_call h1 h5 h6 (va_runVN (As := [a0, a1, a2, a3, a4, a5]) (rest := st) C.1 (hM z) cw ⟨mq_blind, va_recv C.2.1 h2 hc hq, mq_pre C h2 h3 h4 h5 h6⟩ rfl rfl h1.1 rfl (lv_room hst) d hf) (fun v M2 hp => by
      obtain ⟨r, rfl, hp⟩ := hp
      exact k r M2 hp)
theorem xr_callS6a (C : mq_C p m c cc nL s args Ts own D tys z) {y : MethodName} {bytes : ByteArray} {maxL index mc ms : Nat} {ret : Option FieldType} {ws0 : List Cond} {rm : Room} {a0 a1 a2 a3 a4 a5 : Value} {P : Nat → mq_M → Prop}
    (hM : mq_Met l y ws0 rm D tys [a0, a1, a2, a3, a4, a5] M (mq_pa P) mc ms) (cw : CallB R s args own index y bytes maxL ret ws0 rm mc ms 6 ∧ (Cond.static y).before args s = true) (hst : (st.map fun v => v.category).sum ≤ 8) (hf : cells + mc ≤ R.cells ∧ slots + ms ≤ R.slots) (d : decode cc pc = .ok (.invokestatic index, 3))
    (k : ∀ (r : Nat) (M2 : mq_M), P r M2 → mq_X p l e R s m args below meth c Q nL D z H0 (cells + mc) (slots + ms) M2 (pc + 3) L (.ref r :: st)) : mq_X p l e R s m args below meth c Q nL D z H0 cells slots M pc L (a5 :: a4 :: a3 :: a2 :: a1 :: a0 :: st) :=
  fun H locs la ws h1 h2 h3 h4 h5 h6 =>
    mq_call h1 h5 h6 (va_runS (As := [a0, a1, a2, a3, a4, a5]) (rest := st) C.1 (hM z) cw ⟨mq_blind, mq_pre C h2 h3 h4 h5 h6⟩ rfl rfl h1.1 rfl (lv_room hst) d hf) (fun v M2 hp => by
      obtain ⟨r, rfl, hp⟩ := hp
      exact k r M2 hp)
theorem xr_callS6aN (C : mq_C p m c cc nL s args Ts own D tys z) {y : MethodName} {bytes : ByteArray} {maxL index mc ms : Nat} {ret : Option FieldType} {ws0 : List Cond} {rm : Room} {host : String} {a0 a1 a2 a3 a4 a5 : Value} {P : Nat → mq_M → Prop}
    (hM : mq_Met l y ws0 rm D tys [a0, a1, a2, a3, a4, a5] M (mq_pa P) mc ms) (cw : va_CN R s args own index y host bytes maxL ret ws0 rm mc ms 6 ∧ (Cond.static y).before args s = true ∧ True) (hst : (st.map fun v => v.category).sum ≤ 8) (hf : cells + mc ≤ R.cells ∧ slots + ms ≤ R.slots) (d : decode cc pc = .ok (.invokestatic index, 3))
    (k : ∀ (r : Nat) (M2 : mq_M), P r M2 → mq_X p l e R s m args below meth c Q nL D z H0 (cells + mc) (slots + ms) M2 (pc + 3) L (.ref r :: st)) : mq_X p l e R s m args below meth c Q nL D z H0 cells slots M pc L (a5 :: a4 :: a3 :: a2 :: a1 :: a0 :: st) :=
  fun H locs la ws h1 h2 h3 h4 h5 h6 =>
    mq_call h1 h5 h6 (va_runSN (As := [a0, a1, a2, a3, a4, a5]) (rest := st) C.1 (hM z) cw ⟨mq_blind, mq_pre C h2 h3 h4 h5 h6⟩ rfl rfl h1.1 rfl (lv_room hst) d hf) (fun v M2 hp => by
      obtain ⟨r, rfl, hp⟩ := hp
      exact k r M2 hp)
theorem xr_callV6n (C : mq_C p m c cc nL s args Ts own D tys z) {y : MethodName} {bytes : ByteArray} {maxL index mc ms b ci : Nat} {ret : Option FieldType} {ws0 : List Cond} {rm : Room} {Cn : String} {T : u_T} {N : Nat} {fs : List Value} {a0 a1 a2 a3 a4 a5 : Value} {P : mq_M → Prop}
    (hM : mq_Met l y ws0 rm D tys [.ref b, a0, a1, a2, a3, a4, a5] M (mq_pn P) mc ms) (cw : CallW R s args own Cn index y bytes maxL ret ws0 rm mc ms 6) (hb : M b = some (.inr (ci, fs))) (hc : vwCl[ci]? = some (Cn, T, N)) (hst : (st.map fun v => v.category).sum ≤ 8) (hf : cells + mc ≤ R.cells ∧ slots + ms ≤ R.slots) (d : decode cc pc = .ok (.invokevirtual index, 3))
    (k : ∀ (M2 : mq_M), P M2 → mq_X p l e R s m args below meth c Q nL D z H0 (cells + mc) (slots + ms) M2 (pc + 3) L (.null :: st)) : mq_X p l e R s m args below meth c Q nL D z H0 cells slots M pc L (a5 :: a4 :: a3 :: a2 :: a1 :: a0 :: .ref b :: st) :=
  fun H locs la ws h1 h2 h3 h4 h5 h6 => by
    obtain ⟨q, hq⟩ := h4.at hb
    exact mq_call h1 h5 h6 (va_runV (As := [a0, a1, a2, a3, a4, a5]) (rest := st) C.1 (hM z) cw ⟨mq_blind, va_recv C.2.1 h2 hc hq, mq_pre C h2 h3 h4 h5 h6⟩ rfl rfl h1.1 rfl (lv_room hst) d hf) (fun v M2 hp => by
      obtain ⟨rfl, hp⟩ := hp
      exact k M2 hp)
theorem xr_callV6nN (C : mq_C p m c cc nL s args Ts own D tys z) {y : MethodName} {bytes : ByteArray} {maxL index mc ms b ci : Nat} {ret : Option FieldType} {ws0 : List Cond} {rm : Room} {Cn host : String} {T : u_T} {N : Nat} {fs : List Value} {a0 a1 a2 a3 a4 a5 : Value} {P : mq_M → Prop}
    (hM : mq_Met l y ws0 rm D tys [.ref b, a0, a1, a2, a3, a4, a5] M (mq_pn P) mc ms) (cw : va_CN R s args own index y host bytes maxL ret ws0 rm mc ms 6 ∧ (Cond.instanceMethod y).before args s = true ∧ (Cond.selects Cn y y).before args s = true) (hb : M b = some (.inr (ci, fs))) (hc : vwCl[ci]? = some (Cn, T, N)) (hst : (st.map fun v => v.category).sum ≤ 8) (hf : cells + mc ≤ R.cells ∧ slots + ms ≤ R.slots) (d : decode cc pc = .ok (.invokevirtual index, 3))
    (k : ∀ (M2 : mq_M), P M2 → mq_X p l e R s m args below meth c Q nL D z H0 (cells + mc) (slots + ms) M2 (pc + 3) L (.null :: st)) : mq_X p l e R s m args below meth c Q nL D z H0 cells slots M pc L (a5 :: a4 :: a3 :: a2 :: a1 :: a0 :: .ref b :: st) :=
  fun H locs la ws h1 h2 h3 h4 h5 h6 => by
    obtain ⟨q, hq⟩ := h4.at hb
    exact mq_call h1 h5 h6 (va_runVN (As := [a0, a1, a2, a3, a4, a5]) (rest := st) C.1 (hM z) cw ⟨mq_blind, va_recv C.2.1 h2 hc hq, mq_pre C h2 h3 h4 h5 h6⟩ rfl rfl h1.1 rfl (lv_room hst) d hf) (fun v M2 hp => by
      obtain ⟨rfl, hp⟩ := hp
      exact k M2 hp)
theorem xr_callS6n (C : mq_C p m c cc nL s args Ts own D tys z) {y : MethodName} {bytes : ByteArray} {maxL index mc ms : Nat} {ret : Option FieldType} {ws0 : List Cond} {rm : Room} {a0 a1 a2 a3 a4 a5 : Value} {P : mq_M → Prop}
    (hM : mq_Met l y ws0 rm D tys [a0, a1, a2, a3, a4, a5] M (mq_pn P) mc ms) (cw : CallB R s args own index y bytes maxL ret ws0 rm mc ms 6 ∧ (Cond.static y).before args s = true) (hst : (st.map fun v => v.category).sum ≤ 8) (hf : cells + mc ≤ R.cells ∧ slots + ms ≤ R.slots) (d : decode cc pc = .ok (.invokestatic index, 3))
    (k : ∀ (M2 : mq_M), P M2 → mq_X p l e R s m args below meth c Q nL D z H0 (cells + mc) (slots + ms) M2 (pc + 3) L (.null :: st)) : mq_X p l e R s m args below meth c Q nL D z H0 cells slots M pc L (a5 :: a4 :: a3 :: a2 :: a1 :: a0 :: st) :=
  fun H locs la ws h1 h2 h3 h4 h5 h6 =>
    mq_call h1 h5 h6 (va_runS (As := [a0, a1, a2, a3, a4, a5]) (rest := st) C.1 (hM z) cw ⟨mq_blind, mq_pre C h2 h3 h4 h5 h6⟩ rfl rfl h1.1 rfl (lv_room hst) d hf) (fun v M2 hp => by
      obtain ⟨rfl, hp⟩ := hp
      exact k M2 hp)
theorem xr_callS6nN (C : mq_C p m c cc nL s args Ts own D tys z) {y : MethodName} {bytes : ByteArray} {maxL index mc ms : Nat} {ret : Option FieldType} {ws0 : List Cond} {rm : Room} {host : String} {a0 a1 a2 a3 a4 a5 : Value} {P : mq_M → Prop}
    (hM : mq_Met l y ws0 rm D tys [a0, a1, a2, a3, a4, a5] M (mq_pn P) mc ms) (cw : va_CN R s args own index y host bytes maxL ret ws0 rm mc ms 6 ∧ (Cond.static y).before args s = true ∧ True) (hst : (st.map fun v => v.category).sum ≤ 8) (hf : cells + mc ≤ R.cells ∧ slots + ms ≤ R.slots) (d : decode cc pc = .ok (.invokestatic index, 3))
    (k : ∀ (M2 : mq_M), P M2 → mq_X p l e R s m args below meth c Q nL D z H0 (cells + mc) (slots + ms) M2 (pc + 3) L (.null :: st)) : mq_X p l e R s m args below meth c Q nL D z H0 cells slots M pc L (a5 :: a4 :: a3 :: a2 :: a1 :: a0 :: st) :=
  fun H locs la ws h1 h2 h3 h4 h5 h6 =>
    mq_call h1 h5 h6 (va_runSN (As := [a0, a1, a2, a3, a4, a5]) (rest := st) C.1 (hM z) cw ⟨mq_blind, mq_pre C h2 h3 h4 h5 h6⟩ rfl rfl h1.1 rfl (lv_room hst) d hf) (fun v M2 hp => by
      obtain ⟨rfl, hp⟩ := hp
      exact k M2 hp)
theorem xr_callV6r (C : mq_C p m c cc nL s args Ts own D tys z) {y : MethodName} {bytes : ByteArray} {maxL index mc ms b ci : Nat} {ret : Option FieldType} {ws0 : List Cond} {rm : Room} {Cn : String} {T : u_T} {N : Nat} {fs : List Value} {a0 a1 a2 a3 a4 a5 : Value} {P : Option Nat → mq_M → Prop}
    (hM : mq_Met l y ws0 rm D tys [.ref b, a0, a1, a2, a3, a4, a5] M (mq_pr P) mc ms) (cw : CallW R s args own Cn index y bytes maxL ret ws0 rm mc ms 6) (hb : M b = some (.inr (ci, fs))) (hc : vwCl[ci]? = some (Cn, T, N)) (hst : (st.map fun v => v.category).sum ≤ 8) (hf : cells + mc ≤ R.cells ∧ slots + ms ≤ R.slots) (d : decode cc pc = .ok (.invokevirtual index, 3))
    (k : ∀ (r : Option Nat) (M2 : mq_M), P r M2 → mq_X p l e R s m args below meth c Q nL D z H0 (cells + mc) (slots + ms) M2 (pc + 3) L (va_rf r :: st)) : mq_X p l e R s m args below meth c Q nL D z H0 cells slots M pc L (a5 :: a4 :: a3 :: a2 :: a1 :: a0 :: .ref b :: st) :=
  fun H locs la ws h1 h2 h3 h4 h5 h6 => by
    obtain ⟨q, hq⟩ := h4.at hb
    exact mq_call h1 h5 h6 (va_runV (As := [a0, a1, a2, a3, a4, a5]) (rest := st) C.1 (hM z) cw ⟨mq_blind, va_recv C.2.1 h2 hc hq, mq_pre C h2 h3 h4 h5 h6⟩ rfl rfl h1.1 rfl (lv_room hst) d hf) (fun v M2 hp => by
      obtain ⟨r, rfl, hp⟩ := hp
      exact k r M2 hp)
theorem xr_callV6rN (C : mq_C p m c cc nL s args Ts own D tys z) {y : MethodName} {bytes : ByteArray} {maxL index mc ms b ci : Nat} {ret : Option FieldType} {ws0 : List Cond} {rm : Room} {Cn host : String} {T : u_T} {N : Nat} {fs : List Value} {a0 a1 a2 a3 a4 a5 : Value} {P : Option Nat → mq_M → Prop}
    (hM : mq_Met l y ws0 rm D tys [.ref b, a0, a1, a2, a3, a4, a5] M (mq_pr P) mc ms) (cw : va_CN R s args own index y host bytes maxL ret ws0 rm mc ms 6 ∧ (Cond.instanceMethod y).before args s = true ∧ (Cond.selects Cn y y).before args s = true) (hb : M b = some (.inr (ci, fs))) (hc : vwCl[ci]? = some (Cn, T, N)) (hst : (st.map fun v => v.category).sum ≤ 8) (hf : cells + mc ≤ R.cells ∧ slots + ms ≤ R.slots) (d : decode cc pc = .ok (.invokevirtual index, 3))
    (k : ∀ (r : Option Nat) (M2 : mq_M), P r M2 → mq_X p l e R s m args below meth c Q nL D z H0 (cells + mc) (slots + ms) M2 (pc + 3) L (va_rf r :: st)) : mq_X p l e R s m args below meth c Q nL D z H0 cells slots M pc L (a5 :: a4 :: a3 :: a2 :: a1 :: a0 :: .ref b :: st) :=
  fun H locs la ws h1 h2 h3 h4 h5 h6 => by
    obtain ⟨q, hq⟩ := h4.at hb
    exact mq_call h1 h5 h6 (va_runVN (As := [a0, a1, a2, a3, a4, a5]) (rest := st) C.1 (hM z) cw ⟨mq_blind, va_recv C.2.1 h2 hc hq, mq_pre C h2 h3 h4 h5 h6⟩ rfl rfl h1.1 rfl (lv_room hst) d hf) (fun v M2 hp => by
      obtain ⟨r, rfl, hp⟩ := hp
      exact k r M2 hp)
theorem xr_callS6r (C : mq_C p m c cc nL s args Ts own D tys z) {y : MethodName} {bytes : ByteArray} {maxL index mc ms : Nat} {ret : Option FieldType} {ws0 : List Cond} {rm : Room} {a0 a1 a2 a3 a4 a5 : Value} {P : Option Nat → mq_M → Prop}
    (hM : mq_Met l y ws0 rm D tys [a0, a1, a2, a3, a4, a5] M (mq_pr P) mc ms) (cw : CallB R s args own index y bytes maxL ret ws0 rm mc ms 6 ∧ (Cond.static y).before args s = true) (hst : (st.map fun v => v.category).sum ≤ 8) (hf : cells + mc ≤ R.cells ∧ slots + ms ≤ R.slots) (d : decode cc pc = .ok (.invokestatic index, 3))
    (k : ∀ (r : Option Nat) (M2 : mq_M), P r M2 → mq_X p l e R s m args below meth c Q nL D z H0 (cells + mc) (slots + ms) M2 (pc + 3) L (va_rf r :: st)) : mq_X p l e R s m args below meth c Q nL D z H0 cells slots M pc L (a5 :: a4 :: a3 :: a2 :: a1 :: a0 :: st) :=
  fun H locs la ws h1 h2 h3 h4 h5 h6 =>
    mq_call h1 h5 h6 (va_runS (As := [a0, a1, a2, a3, a4, a5]) (rest := st) C.1 (hM z) cw ⟨mq_blind, mq_pre C h2 h3 h4 h5 h6⟩ rfl rfl h1.1 rfl (lv_room hst) d hf) (fun v M2 hp => by
      obtain ⟨r, rfl, hp⟩ := hp
      exact k r M2 hp)
theorem xr_callS6rN (C : mq_C p m c cc nL s args Ts own D tys z) {y : MethodName} {bytes : ByteArray} {maxL index mc ms : Nat} {ret : Option FieldType} {ws0 : List Cond} {rm : Room} {host : String} {a0 a1 a2 a3 a4 a5 : Value} {P : Option Nat → mq_M → Prop}
    (hM : mq_Met l y ws0 rm D tys [a0, a1, a2, a3, a4, a5] M (mq_pr P) mc ms) (cw : va_CN R s args own index y host bytes maxL ret ws0 rm mc ms 6 ∧ (Cond.static y).before args s = true ∧ True) (hst : (st.map fun v => v.category).sum ≤ 8) (hf : cells + mc ≤ R.cells ∧ slots + ms ≤ R.slots) (d : decode cc pc = .ok (.invokestatic index, 3))
    (k : ∀ (r : Option Nat) (M2 : mq_M), P r M2 → mq_X p l e R s m args below meth c Q nL D z H0 (cells + mc) (slots + ms) M2 (pc + 3) L (va_rf r :: st)) : mq_X p l e R s m args below meth c Q nL D z H0 cells slots M pc L (a5 :: a4 :: a3 :: a2 :: a1 :: a0 :: st) :=
  fun H locs la ws h1 h2 h3 h4 h5 h6 =>
    mq_call h1 h5 h6 (va_runSN (As := [a0, a1, a2, a3, a4, a5]) (rest := st) C.1 (hM z) cw ⟨mq_blind, mq_pre C h2 h3 h4 h5 h6⟩ rfl rfl h1.1 rfl (lv_room hst) d hf) (fun v M2 hp => by
      obtain ⟨r, rfl, hp⟩ := hp
      exact k r M2 hp)
theorem mq_Met.of {y : MethodName} {ws0 ws' : List Cond} {rm : Room} {av : List Value} {post : Option Value → mq_M → Prop} {mc ms maxL : Nat} {ret : Option FieldType} {L0 : List (Option Value)}
    (hy : plainName y.cls = true) (hw : ws0 = Cond.code y cc maxL ret :: ws') (hlen : (lg_sl av).length ≤ maxL) (hL : mq_of maxL (lv_args 0 av) = L0) (ho : y.cls = own)
    (body : ∀ (p : Program) (e : Env) (s : State) (m : MethodId) (args : Array Value) (below : List Frame) (meth : Method) (c : Code) (z : Nat), mq_C p m c cc maxL s args ws0 own D tys z → meth.sig.returnType = ret → meth.locks = false → meth.name = y.name →
      mq_X p l e rm s m args below meth c (MQ below (mq_Qc D z post) args s mc ms (fun q => z ≤ q)) maxL D z s.heap 0 0 M 0 L0 []) : mq_Met l y ws0 rm D tys av M post mc ms := by
  intro z
  refine Met.ofW (cc := cc) (maxL := maxL) (ret := ret) hy hw ?_
  intro p e s m args below meth c s₁ B hml hv
  obtain ⟨rfl, ⟨ws, hP, hD, hI⟩, hz, hK⟩ := hv
  subst hL
  subst ho
  rw [lg_entry_eq]
  exact body p e s m _ below meth c z ⟨⟨B.exec, B.bytes, hml, findClass_of_methodNamed B.named, atoms_spec (ws := ws0) B.pre⟩, hK⟩ B.returns B.notSynchronized (name_of_methodNamed B.named B.method).1 s.heap [] _ ws (mq_L.entry (lv_entry av hlen)) hP hD hI va_S.rf ⟨hz, rfl⟩
end MQX
