/-! ===== the vault: its cells put together ===== -/
theorem iq_K.tr {x : Nat} {M M1 M2 : mq_M} (h1 : iq_K x M M1) (h2 : iq_K x M1 M2) : iq_K x M M2 := fun z hz hx => (h2 z (by rw [h1 z hz hx]; exact hz) hx).trans (h1 z hz hx)
theorem iq_K.ofF {q : Nat} {S : List Nat} {M M1 : mq_M} (hF : mq_F S M M1) (h : ∀ z ∈ S, z ≠ q → M z = none) : iq_K q M M1 := fun z hz hq => hF z (fun hm => hz (h z hm hq))
theorem ckI.kx {G : mq_G} {M M' : mq_M} {x a y : Nat} (h : ckI G M x a) (hK : iq_K y M M') (h1 : x ≠ y) (h2 : a ≠ y) : ckI G M' x a := by
  obtain ⟨g1, g2, f, g3, g4⟩ := h
  exact ⟨(hK _ (iq_some g1) h1).trans g1, g2, f, (hK _ (iq_some g3) h2).trans g3, g4⟩
theorem fdI.kx {G : mq_G} {M M' : mq_M} {x u v y : Nat} (h : fdI G M x u v) (hK : iq_K y M M') (k1 : x ≠ y) (k2 : u ≠ y) (k3 : v ≠ y) : fdI G M' x u v := by
  obtain ⟨h1, h2, h3, h4, ⟨f, h5, h6⟩, g, h7, h8⟩ := h
  exact ⟨(hK _ (iq_some h1) k1).trans h1, h2, h3, h4, ⟨f, (hK _ (iq_some h5) k2).trans h5, h6⟩, g, (hK _ (iq_some h7) k3).trans h7, h8⟩
theorem dfI.kx {G : mq_G} {M M' : mq_M} {x b a b2 a2 key y : Nat} {c pk : List Nat} {ck : Nat} (hv : dfI G M x b a b2 a2 key c pk ck) (hK : iq_K y M M') (h1 : x ≠ y) (h2 : b ≠ y) (h3 : a ≠ y) (h4 : b2 ≠ y) (h5 : a2 ≠ y) : dfI G M' x b a b2 a2 key c pk ck := ⟨(hK _ (iq_some hv.1) h1).trans hv.1, hv.2.1.kx hK h2 h3, hv.2.2.kx hK h4 h5⟩
theorem voI.kx {G : mq_G} {M M' : mq_M} {x ch b a y : Nat} {h : Bool} {d : List Nat} {vd : Int} (hv : voI G M x ch b a h d vd) (hK : iq_K y M M') (h1 : x ≠ y) (h2 : b ≠ y) (h3 : a ≠ y) : voI G M' x ch b a h d vd := ⟨(hK _ (iq_some hv.1) h1).trans hv.1, hv.2.kx hK h2 h3⟩
theorem ffI.kx {G : mq_G} {M M' : mq_M} {x b a y : Nat} {c : List Nat} {key pl tl : Int} {gd : Bool} (hv : ffI G M x b a c key pl tl gd) (hK : iq_K y M M') (h1 : x ≠ y) (h2 : b ≠ y) (h3 : a ≠ y) : ffI G M' x b a c key pl tl gd := ⟨(hK _ (iq_some hv.1) h1).trans hv.1, hv.2.kx hK h2 h3⟩
def iq_L (q n : Nat) (g : Nat → Nat) : List Nat := q :: (List.range n).map g
theorem iq_L_len {q n : Nat} {g : Nat → Nat} : (iq_L q n g).length = n + 1 := by simp [iq_L]
theorem iq_L_z {q n : Nat} {g : Nat → Nat} : (iq_L q n g).getD 0 0 = q := rfl
theorem iq_L_s {q n k : Nat} {g : Nat → Nat} (h : k < n) : (iq_L q n g).getD (k + 1) 0 = g k := by
  unfold iq_L
  rw [List.getD_eq_getElem?_getD, List.getElem?_cons_succ, List.getElem?_map, List.getElem?_range h]
  rfl
/-- an object q with n addresses of its own: what iq_g.add wants -/
theorem iq_L_own {q n : Nat} {g : Nat → Nat} {M M1 M2 : mq_M} {e : va_E} (hq : M q = none) (h : M1 = mq_up M q e) (hg : iq_g M1 M2 g n) (h2 : M2 q ≠ none) : (∀ z ∈ iq_L q n g, M z = none ∧ M2 z ≠ none) ∧ (iq_L q n g).Nodup := by
  constructor
  · intro z hz
    rcases List.mem_cons.mp hz with rfl | hz
    · exact ⟨hq, h2⟩
    · obtain ⟨k, hk, rfl⟩ := List.mem_map.mp hz
      have hk := List.mem_range.mp hk
      exact ⟨(iq_Z.back h (hg.1 k hk).1).1, (hg.1 k hk).2⟩
  · refine List.nodup_cons.mpr ⟨fun hz => ?_, ?_⟩
    · obtain ⟨k, hk, he⟩ := List.mem_map.mp hz
      exact (iq_Z.back h (hg.1 k (List.mem_range.mp hk)).1).2 he
    · unfold List.Nodup
      rw [List.pairwise_map]
      refine List.Pairwise.imp_of_mem ?_ (List.nodup_range (n := n))
      intro a b ha hb hne he
      exact hne (hg.2 a b (List.mem_range.mp ha) (List.mem_range.mp hb) he)
def iq_ord (r : Nat) : Nat := if r < 12 then r - 1 else if r < 16 then r - 12 + 91 else if r < 20 then r - 16 + 146 else if r < 24 then r - 20 + 150 else if r < 104 then r - 24 + 11 else if r < 155 then r - 104 + 95 else r - 155 + 154
theorem iq_ord_lt {r : Nat} (h0 : r ≠ 0) (h : r < 275) : iq_ord r < 274 := by
  unfold iq_ord
  repeat' split
  all_goals omega
theorem iq_ord_inj {r t : Nat} (hr : r < 275) (ht : t < 275) (h0 : r ≠ 0) (h1 : t ≠ 0) (h : iq_ord r = iq_ord t) : r = t := by
  unfold iq_ord at h
  repeat' split at h
  all_goals omega
def iq_La (x : Nat) (g : Nat → Nat) (r : Nat) : Nat := if r = 0 then x else g (iq_ord r)
theorem iq_La_inj {x : Nat} {g : Nat → Nat} {M M2 : mq_M} (hg : iq_g M M2 g 274) (hx : M x ≠ none) : mq_inj (iq_La x g) := by
  intro r t hr ht he
  unfold iq_La at he
  by_cases h0 : r = 0
  · by_cases h1 : t = 0
    · omega
    · rw [if_pos h0, if_neg h1] at he
      exact absurd he.symm (hg.nx (iq_ord_lt h1 ht) hx)
  · by_cases h1 : t = 0
    · rw [if_neg h0, if_pos h1] at he
      exact absurd he (hg.nx (iq_ord_lt h0 hr) hx)
    · rw [if_neg h0, if_neg h1] at he
      exact iq_ord_inj hr ht h0 h1 (hg.2 _ _ (iq_ord_lt h0 hr) (iq_ord_lt h1 ht) he)
theorem iq_La_c {x : Nat} {g : Nat → Nat} {r k : Nat} (h0 : r ≠ 0) (h : iq_ord r = k) : iq_La x g r = g k := by
  unfold iq_La
  rw [if_neg h0, h]
/-- the vault's own cells, by roles, behind its constructor or anywhere -/
def vtO (M : mq_M) (La : Nat → Nat) : Prop := M (La 0) = some (.inr (10, [.ref (La 3), .ref (La 6), .ref (La 12), .ref (La 16), .ref (La 20)]))
