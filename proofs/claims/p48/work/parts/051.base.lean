/-! ===== what stands of the system at any time: the classes' numbers, frames, rows of bytes ===== -/
/-- the classes' numbers; further arrays' classes and what stands of the old part; four arrays' classes -/
abbrev mq_G : Type := (va_G × List (ClassId × FieldType) × (Nat → State → Heap → Prop)) × ClassId × ClassId × ClassId × ClassId
def mq_tys (G : mq_G) : mq_Y := ((G.2.1, .int) :: (G.2.2.1, .object "OssuaryVault$DeskFile") :: (G.2.2.2.1, .object "OssuaryVault$Volume") :: (G.2.2.2.2, .object "OssuaryVault$FoundFile") :: G.1.2.1, G.1.2.2)
theorem mq_tI {G : mq_G} : (G.2.1, FieldType.int) ∈ (mq_tys G).1 := List.mem_cons_self
theorem mq_tF {G : mq_G} : (G.2.2.1, FieldType.object "OssuaryVault$DeskFile") ∈ (mq_tys G).1 := List.mem_cons_of_mem _ List.mem_cons_self
theorem mq_tV {G : mq_G} : (G.2.2.2.1, FieldType.object "OssuaryVault$Volume") ∈ (mq_tys G).1 := List.mem_cons_of_mem _ (List.mem_cons_of_mem _ List.mem_cons_self)
theorem mq_tG {G : mq_G} : (G.2.2.2.2, FieldType.object "OssuaryVault$FoundFile") ∈ (mq_tys G).1 := List.mem_cons_of_mem _ (List.mem_cons_of_mem _ (List.mem_cons_of_mem _ List.mem_cons_self))
abbrev mq_T (l : Launch) (y : MethodName) (ws : List Cond) (rm : Room) (G : mq_G) (av : List Value) (M : mq_M) (post : Option Value → mq_M → Prop) (mc ms : Nat) : Prop := mq_Met l y ws rm G.1.1 (mq_tys G) av M post mc ms
/-- all but the cells S are as they were -/
def mq_F (S : List Nat) (M M' : mq_M) : Prop := ∀ a : Nat, a ∉ S → M' a = M a
theorem mq_F.rf {S : List Nat} {M : mq_M} : mq_F S M M := fun _ _ => rfl
theorem mq_F.tr {S : List Nat} {M M1 M2 : mq_M} (h1 : mq_F S M M1) (h2 : mq_F S M1 M2) : mq_F S M M2 := fun a h => (h2 a h).trans (h1 a h)
theorem mq_F.mono {S S2 : List Nat} {M M1 : mq_M} (h1 : mq_F S M M1) (h : ∀ a, a ∈ S → a ∈ S2) : mq_F S2 M M1 := fun a ha => h1 a (fun q => ha (h a q))
theorem mq_F.up {M M1 : mq_M} {a : Nat} {e : va_E} {S : List Nat} (h : M1 = mq_up M a e) (ha : a ∈ S) : mq_F S M M1 := fun b hb => by
  rw [h]
  exact mq_up_n (fun q => hb (by rw [q]; exact ha))
/-- a byte of a row; 0 outside -/
def mq_gd (d : List Nat) (k : Int) : Nat := if 0 ≤ k then d.getD k.toNat 0 else 0
theorem mq_gd_nat (d : List Nat) (k : Nat) : mq_gd d (k : Int) = d.getD k 0 := by simp [mq_gd]
theorem mq_gd_lt {d : List Nat} (h : ∀ x ∈ d, x < 256) (k : Int) : mq_gd d k < 256 := by
  unfold mq_gd
  split
  · by_cases hk : k.toNat < d.length
    · rw [List.getD_eq_getElem?_getD, List.getElem?_eq_getElem hk]
      exact h _ (List.getElem_mem hk)
    · rw [List.getD_eq_getElem?_getD, List.getElem?_eq_none (by omega)]
      decide
  · decide
/-- a Bytes at b, its cells at a, of room n, holds the bytes d -/
def bI (G : mq_G) (M : mq_M) (b a n : Nat) (d : List Nat) : Prop := M b = some (.inr (0, [.ref a, .int (zI (d.length : Int))])) ∧ b ≠ a ∧ d.length ≤ n ∧ n ≤ 50000 ∧ (∀ x ∈ d, x < 256) ∧ ∃ f : Nat → Int32, M a = some (.inl (G.2.1, n, .inl f)) ∧ ∀ i : Nat, i < d.length → f i = zI (d.getD i 0 : Int)
theorem bI.fr {G : mq_G} {M M' : mq_M} {b a n : Nat} {d : List Nat} {S : List Nat} (h : bI G M b a n d) (hF : mq_F S M M') (hb : b ∉ S) (ha : a ∉ S) : bI G M' b a n d := by
  obtain ⟨h1, h2, h3, h4, h5, f, h6, h7⟩ := h
  exact ⟨(hF b hb).trans h1, h2, h3, h4, h5, f, (hF a ha).trans h6, h7⟩
def mq_put (d : List Nat) (k : Int) (v : Nat) : List Nat := if 0 ≤ k then d.set k.toNat v else d
theorem mq_put_len (d : List Nat) (k : Int) (v : Nat) : (mq_put d k v).length = d.length := by unfold mq_put; split <;> simp
theorem mq_put_lt {d : List Nat} (h : ∀ x ∈ d, x < 256) {k : Int} {v : Nat} (hv : v < 256) : ∀ x ∈ mq_put d k v, x < 256 := by
  unfold mq_put
  split
  · intro x hx
    rcases List.mem_or_eq_of_mem_set hx with h1 | h1
    · exact h x h1
    · omega
  · exact h
abbrev mq_ri (M : mq_M) (x : Int) : Option Value → mq_M → Prop := mq_pi (fun r M2 => r = x ∧ M = M2)
/-- a word: two bytes -/
def mq_wd (d : List Nat) (k : Int) : Nat := mq_gd d k * 256 + mq_gd d (k + 1)
theorem mq_put_none {d : List Nat} {k : Int} {v : Nat} (h : k < 0 ∨ (d.length : Int) ≤ k) : mq_put d k v = d := by
  unfold mq_put
  split
  · exact List.set_eq_of_length_le (by omega)
  · rfl
theorem mq_put_upd {d : List Nat} {k : Int} {v : Nat} {f : Nat → Int32} (hk : 0 ≤ k) (h : ∀ i : Nat, i < d.length → f i = zI (d.getD i 0 : Int)) (i : Nat) (hi : i < d.length) : upd f k.toNat (zI (v : Int)) i = zI ((mq_put d k v).getD i 0 : Int) := by
  unfold mq_put upd
  rw [if_pos hk]
  by_cases hik : i = k.toNat
  · subst hik
    simp [List.getD_eq_getElem?_getD, hi]
  · rw [if_neg hik, h i hi]
    simp [List.getD_eq_getElem?_getD, List.getElem?_set_ne (Ne.symm hik)]
theorem mq_add_upd {d : List Nat} {v : Nat} {f : Nat → Int32} (h : ∀ i : Nat, i < d.length → f i = zI (d.getD i 0 : Int)) (i : Nat) (hi : i < (d ++ [v]).length) : upd f d.length (zI (v : Int)) i = zI ((d ++ [v]).getD i 0 : Int) := by
  unfold upd
  rw [List.length_append, List.length_singleton] at hi
  by_cases hik : i = d.length
  · subst hik
    simp [List.getD_eq_getElem?_getD]
  · rw [if_neg hik, h i (by omega)]
    simp [List.getD_eq_getElem?_getD, List.getElem?_append_left (show i < d.length by omega)]
/-- a part of a row -/
def mq_part (d : List Nat) (k : Int) (t : Nat) : List Nat := (List.range t).map (fun i : Nat => mq_gd d (k + (i : Int)))
theorem mq_part_s (d : List Nat) (k : Int) (t : Nat) : mq_part d k (t + 1) = mq_part d k t ++ [mq_gd d (k + (t : Int))] := by
  simp [mq_part, List.range_succ]
theorem mq_part_len (d : List Nat) (k : Int) (t : Nat) : (mq_part d k t).length = t := by simp [mq_part]
theorem mq_part_all (d : List Nat) : mq_part d 0 d.length = d := by
  apply List.ext_getElem
  · simp [mq_part]
  · intro i h1 h2
    simp [mq_part, mq_gd_nat, List.getD_eq_getElem?_getD, h2]
theorem mq_same {d d2 : List Nat} (h : d.length = d2.length) (hs : ∀ j, j < d.length → d.getD j 0 = d2.getD j 0) : d = d2 := by
  apply List.ext_getElem h
  intro i h1 h2
  have := hs i h1
  simpa [List.getD_eq_getElem?_getD, h1, h2] using this
section MQD
variable {p : Program} {l : Launch} {e : Env} {R : Room} {s : State} {m : MethodId} {args : Array Value} {below : List Frame} {meth : Method} {c : Code} {Q : State → Prop}
variable {nL : Nat} {D : va_G} {z : Nat} {H0 : Heap} {cells slots : Nat} {M : mq_M} {pc : Nat} {L : List (Option Value)} {st : List Value}
/-- a local is forgotten -/
theorem mq_drop (i : Nat) (k : mq_X p l e R s m args below meth c Q nL D z H0 cells slots M pc (L.set i none) st) : mq_X p l e R s m args below meth c Q nL D z H0 cells slots M pc L st := by
  intro H locs la ws h1 h2 h3 h4 h5 h6
  refine k H locs la ws ⟨h1.1, h1.2.1, by rw [List.length_set]; exact h1.2.2.1, fun j v hj => h1.2.2.2 j v ?_⟩ h2 h3 h4 h5 h6
  by_cases hji : j = i
  · subst hji
    by_cases hl : j < L.length
    · rw [List.getElem?_set_self hl] at hj
      cases hj
    · rw [List.getElem?_eq_none (by rw [List.length_set]; omega)] at hj
      cases hj
  · rw [List.getElem?_set_ne (Ne.symm hji)] at hj
    exact hj
end MQD
