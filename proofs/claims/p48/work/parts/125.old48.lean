/-! ===== p48: what stands of the old part; the law's desk ===== -/
def pq_old (b n : Nat) (xs : Nat → Int32) (z : Nat) (U : State) (H : Heap) : Prop := mq_sc b n xs z U H ∧ mq_AA .int U
def qG (G : mq_G) (b n : Nat) (xs : Nat → Int32) : Prop := G.1.2.2 = pq_old b n xs
theorem qG.old {p : Program} {m : MethodId} {c : Code} {cc : ByteArray} {nL : Nat} {s : State} {args : Array Value} {Ts : List Cond} {own : String} {G : mq_G} {z : Nat} {b n : Nat} {xs : Nat → Int32} (hG : qG G b n xs) (C : mq_C p m c cc nL s args Ts own G.1.1 (mq_tys G) z) : pq_old b n xs z s s.heap := by
  have h := C.old
  have e : (mq_tys G).2 = pq_old b n xs := hG
  rw [e] at h
  exact h
/-- the class of rows of rows of ints -/
def gA (G : mq_G) : ClassId := (G.1.2.1.getD 0 (0, .int)).1
def pA (G : mq_G) : Prop := G.1.2.1 = [(gA G, .array .int)]
theorem pA.A {G : mq_G} (h : pA G) : (gA G, FieldType.array .int) ∈ (mq_tys G).1 := by
  show _ ∈ _ :: _ :: _ :: _ :: G.1.2.1
  rw [h]; simp
/-- the law's desk at x: its vault, script, draws, files, keys, contents -/
def ldI (M : mq_M) (x v b : Nat) (dr fl : Int) (ka ca : Nat) : Prop := M x = some (.inr (11, [.ref v, .ref b, .int (zI dr), .int (zI fl), .ref ka, .ref ca]))
/-! ===== a new vault ===== -/
def vk0 : vtD := (0, fun _ => 0, fun _ => [], fun _ => [], fun _ => 0)
def vr0 : vtR := (false, 0, 0, false, 0, [], fun _ => [], fun _ => 0, fun _ => 0, fun _ => 0, fun _ => false)
def vF (G : mq_G) (M : mq_M) (La : Nat → Nat) : Prop := vtI G M La [] vk0 (fun _ => false) (fun _ => []) vr0
theorem vI.k0 {G : mq_G} {M M' : mq_M} {La : Nat → Nat} {sh : List Nat} {k : vtD} {h : Nat → Bool} {d : Nat → List Nat} {r : vtR} (hv : vtI G M La sh k h d r) (hK : iq_Z M M') : vtI G M' La sh k h d r := by
  obtain ⟨h1, h2, h3, h4, ⟨ds, h5⟩, ⟨pf, h6, h61, ⟨f6, h62, h63⟩, h64⟩, ⟨pv, vd, ld, mb, nu, ho, h7, h71, ⟨f7, h72, h73⟩, ⟨f8, h74, h75⟩, ⟨f9, h76, h77⟩, h78⟩, ⟨mt, cho, ⟨h81, h82, f10, h83, h84⟩, h85⟩, ⟨h91, h92, ⟨f11, h93, h94⟩, h95⟩, h96⟩ := hv
  have e : ∀ {a : Nat} {x : va_E}, M a = some x → M' a = some x := fun hx => (hK _ (iq_some hx)).trans hx
  exact ⟨e h1, h2.k0 hK, h3.k0 hK, h4.k0 hK, ⟨ds, h5.k0 hK⟩, ⟨pf, h6, e h61, ⟨f6, e h62, h63⟩, fun i hi => dfI.k0 (h64 i hi) hK⟩, ⟨pv, vd, ld, mb, nu, ho, h7, e h71, ⟨f7, e h72, h73⟩, ⟨f8, e h74, h75⟩, ⟨f9, e h76, h77⟩, fun i hi => voI.k0 (h78 i hi) hK⟩, ⟨mt, cho, ⟨e h81, h82.k0 hK, f10, e h83, h84⟩, h85⟩, ⟨e h91, h92.k0 hK, ⟨f11, e h93, h94⟩, fun i hi => ffI.k0 (h95 i hi) hK⟩, h96⟩
/-- the vault as its constructor leaves it -/
theorem vF.mk {G : mq_G} {M2 : mq_M} {La : Nat → Nat} (h1 : vtO M2 La) (h2 : ckI G M2 (La 1) (La 2)) (h3 : fdI G M2 (La 3) (La 4) (La 5)) (h4 : bI G M2 (La 7) (La 8) 240 [] ∧ bI G M2 (La 9) (La 10) 4070 [] ∧ dkI G M2 La (fun i => i) 0 (fun _ => 0) (fun _ => []) (fun _ => []) (fun _ => 0)) (h5 : shI G M2 La (fun i => i) (fun _ => false) (fun _ => []) (fun _ => 0) 0 0 (fun _ => 0) (fun _ => 0)) (h6 : rcI G M2 La [] (fun _ => 0)) (h7 : rdI G M2 La false 0 0 false 0 [] (fun _ => []) (fun _ => 0) (fun _ => 0) (fun _ => 0) (fun _ => false)) : vF G M2 La :=
  ⟨h1, h2, h3, h4.1, ⟨[], h4.2.1⟩, ⟨fun i => i, ⟨fun _ h => h, fun _ _ _ _ h => h, Nat.zero_le _, fun i hi => absurd hi (Nat.not_lt_zero _), fun i j _ hj => absurd hj (Nat.not_lt_zero _)⟩, h4.2.2⟩, ⟨fun i => i, fun _ => 0, 0, 0, fun _ => 0, fun _ => 0, ⟨fun _ h => h, fun _ _ _ _ h => h, fun _ _ => Or.inl rfl⟩, h5⟩, ⟨[], fun _ => 0, h6, fun _ _ => (show (0 : Nat) < 100 by decide)⟩, h7, fun _ _ => ⟨(show (-10 : Int) ≤ 0 ∧ (0 : Int) < 1000000 by decide), (show (-10 : Int) ≤ 0 ∧ (0 : Int) < 1000000 by decide), (show (-10 : Int) ≤ 0 ∧ (0 : Int) < 1000000 by decide)⟩, by decide⟩
theorem php : ∀ (n : Nat) (f : Nat → Nat), (∀ i, i < n + 1 → f i < n) → ∃ i j, i < j ∧ j < n + 1 ∧ f i = f j
  | 0, f, h => absurd (h 0 (by omega)) (Nat.not_lt_zero _)
  | n + 1, f, h => by
    by_cases hd : ∃ i, i < n + 1 ∧ f i = f (n + 1)
    · obtain ⟨i, hi, e⟩ := hd
      exact ⟨i, n + 1, hi, by omega, e⟩
    · have hne : ∀ i, i < n + 1 → f i ≠ f (n + 1) := fun i hi e => hd ⟨i, hi, e⟩
      obtain ⟨i, j, hij, hj, e⟩ := php n (fun i => if f i = n then f (n + 1) else f i) (fun i hi => by
        have h1 := h i (by omega)
        have h2 := h (n + 1) (by omega)
        have h3 := hne i hi
        split <;> omega)
      refine ⟨i, j, hij, by omega, ?_⟩
      have a1 := hne i (by omega)
      have a2 := hne j (by omega)
      split at e <;> split at e <;> omega
theorem injS {n : Nat} {f : Nat → Nat} (h1 : ∀ i, i < n → f i < n) (h2 : ∀ i j, i < n → j < n → f i = f j → i = j) (j : Nat) (hj : j < n) : ∃ i, i < n ∧ f i = j := by
  by_cases hd : ∃ i, i < n ∧ f i = j
  · exact hd
  · exfalso
    obtain ⟨m, rfl⟩ : ∃ m, n = m + 1 := ⟨n - 1, by omega⟩
    have hne : ∀ i, i < m + 1 → f i ≠ j := fun i hi e => hd ⟨i, hi, e⟩
    obtain ⟨a, b, hab, hb, e⟩ := php m (fun i => if f i = m then j else f i) (fun i hi => by
      have h3 := h1 i hi
      have h4 := hne i hi
      split <;> omega)
    have a1 : f a ≠ f b := fun q => by have := h2 a b (by omega) hb q; omega
    have a2 := hne a (by omega)
    have a3 := hne b hb
    split at e <;> split at e <;> omega
/-- every cell of the vault is there -/
theorem vtI.nn {G : mq_G} {M : mq_M} {La : Nat → Nat} {sh : List Nat} {k : vtD} {h : Nat → Bool} {d : Nat → List Nat} {r : vtR} (hv : vtI G M La sh k h d r) : ∀ i, i < 275 → M (La i) ≠ none := by
  obtain ⟨h1, h2, h3, h4, ⟨ds, h5⟩, ⟨pf, h6, h61, ⟨f6, h62, h63⟩, h64⟩, ⟨pv, vd, ld, mb, nu, ho, h7, h71, ⟨f7, h72, h73⟩, ⟨f8, h74, h75⟩, ⟨f9, h76, h77⟩, h78⟩, ⟨mt, cho, ⟨h81, h82, f10, h83, h84⟩, h85⟩, ⟨h91, h92, ⟨f11, h93, h94⟩, h95⟩, h96⟩ := hv
  obtain ⟨g1, g2, f1, g3, -⟩ := h2
  obtain ⟨g4, -, -, -, ⟨f2, g5, -⟩, f3, g6, -⟩ := h3
  intro r hr
  by_cases c1 : r < 24
  · have hq : r = 0 ∨ r = 1 ∨ r = 2 ∨ r = 3 ∨ r = 4 ∨ r = 5 ∨ r = 6 ∨ r = 7 ∨ r = 8 ∨ r = 9 ∨ r = 10 ∨ r = 11 ∨ r = 12 ∨ r = 13 ∨ r = 14 ∨ r = 15 ∨ r = 16 ∨ r = 17 ∨ r = 18 ∨ r = 19 ∨ r = 20 ∨ r = 21 ∨ r = 22 ∨ r = 23 := by omega
    rcases hq with rfl | rfl | rfl | rfl | rfl | rfl | rfl | rfl | rfl | rfl | rfl | rfl | rfl | rfl | rfl | rfl | rfl | rfl | rfl | rfl | rfl | rfl | rfl | rfl
    · exact iq_some h1
    · exact iq_some g1
    · exact iq_some g3
    · exact iq_some g4
    · exact iq_some g5
    · exact iq_some g6
    · exact iq_some h61
    · exact h4.nn.1
    · exact h4.nn.2
    · exact h5.nn.1
    · exact h5.nn.2
    · exact iq_some h62
    · exact iq_some h71
    · exact iq_some h72
    · exact iq_some h74
    · exact iq_some h76
    · exact iq_some h81
    · exact h82.nn.1
    · exact h82.nn.2
    · exact iq_some h83
    · exact iq_some h91
    · exact h92.nn.1
    · exact h92.nn.2
    · exact iq_some h93
  by_cases c2 : r < 104
  · obtain ⟨i, hi, ei⟩ := injS h6.1 h6.2.1 ((r - 24) / 5) (by omega)
    obtain ⟨k1, k2, k3⟩ := h64 i hi
    rw [ei] at k1 k2 k3
    have hq : r = 24 + 5 * ((r - 24) / 5) ∨ r = 25 + 5 * ((r - 24) / 5) ∨ r = 26 + 5 * ((r - 24) / 5) ∨ r = 27 + 5 * ((r - 24) / 5) ∨ r = 28 + 5 * ((r - 24) / 5) := by omega
    rcases hq with e | e | e | e | e <;> rw [e]
    · exact iq_some k1
    · exact k2.nn.1
    · exact k2.nn.2
    · exact k3.nn.1
    · exact k3.nn.2
  by_cases c3 : r < 155
  · obtain ⟨i, hi, ei⟩ := injS h7.1 h7.2.1 ((r - 104) / 3) (by omega)
    obtain ⟨k1, k2⟩ := h78 i hi
    rw [ei] at k1 k2
    have hq : r = 104 + 3 * ((r - 104) / 3) ∨ r = 105 + 3 * ((r - 104) / 3) ∨ r = 106 + 3 * ((r - 104) / 3) := by omega
    rcases hq with e | e | e <;> rw [e]
    · exact iq_some k1
    · exact k2.nn.1
    · exact k2.nn.2
  · obtain ⟨k1, k2⟩ := h95 ((r - 155) / 3) (by omega)
    have hq : r = 155 + 3 * ((r - 155) / 3) ∨ r = 156 + 3 * ((r - 155) / 3) ∨ r = 157 + 3 * ((r - 155) / 3) := by omega
    rcases hq with e | e | e <;> rw [e]
    · exact iq_some k1
    · exact k2.nn.1
    · exact k2.nn.2
/-- the bytes of a place -/
theorem vtI.bt {G : mq_G} {M : mq_M} {La : Nat → Nat} {sh : List Nat} {k : vtD} {h : Nat → Bool} {d : Nat → List Nat} {r : vtR} (hv : vtI G M La sh k h d r) {i : Nat} (hi : i < 16) : (∀ x ∈ d i, x < 256) ∧ (d i).length ≤ 4080 := by
  obtain ⟨-, -, -, -, -, -, ⟨pv, vd, ld, mb, nu, ho, -, -, -, -, -, h78⟩, -⟩ := hv
  obtain ⟨-, -, -, a, -, b, -⟩ := h78 i (by omega)
  exact ⟨b, a⟩
/-- the bytes of the stream -/
theorem vtI.st {G : mq_G} {M : mq_M} {La : Nat → Nat} {sh : List Nat} {k : vtD} {h : Nat → Bool} {d : Nat → List Nat} {op : Bool} {da pa : Int} {ix : Bool} {n : Nat} {S : List Nat} {fc : Nat → List Nat} {fk fp ft : Nat → Int} {fg : Nat → Bool} (hv : vtI G M La sh k h d (op, da, pa, ix, n, S, fc, fk, fp, ft, fg)) : (∀ x ∈ S, x < 256) ∧ S.length ≤ 40700 := by
  obtain ⟨-, -, -, -, -, -, -, -, ⟨-, ⟨-, -, a, -, b, -⟩, -⟩, -⟩ := hv
  exact ⟨b, a⟩
/-- the bytes of a file that was found -/
theorem vtI.fc {G : mq_G} {M : mq_M} {La : Nat → Nat} {sh : List Nat} {k : vtD} {h : Nat → Bool} {d : Nat → List Nat} {op : Bool} {da pa : Int} {ix : Bool} {n : Nat} {S : List Nat} {fc : Nat → List Nat} {fk fp ft : Nat → Int} {fg : Nat → Bool} (hv : vtI G M La sh k h d (op, da, pa, ix, n, S, fc, fk, fp, ft, fg)) {i : Nat} (hi : i < 40) : (∀ x ∈ fc i, x < 256) ∧ (fc i).length ≤ 240 := by
  obtain ⟨-, -, -, -, -, -, -, -, ⟨-, -, -, h9⟩, -⟩ := hv
  obtain ⟨-, -, -, a, -, b, -⟩ := h9 i hi
  exact ⟨b, a⟩
/-- cells that are none of the vault's are written -/
theorem vI.fx {G : mq_G} {M M' : mq_M} {La : Nat → Nat} {sh : List Nat} {k : vtD} {h : Nat → Bool} {d : Nat → List Nat} {r : vtR} {S : List Nat} (hv : vtI G M La sh k h d r) (hF : mq_F S M M') (hS : ∀ r, r < 275 → La r ∉ S) : vtI G M' La sh k h d r := by
  obtain ⟨h1, h2, h3, h4, ⟨ds, h5⟩, ⟨pf, h6, h61, ⟨f6, h62, h63⟩, h64⟩, ⟨pv, vd, ld, mb, nu, ho, h7, h71, ⟨f7, h72, h73⟩, ⟨f8, h74, h75⟩, ⟨f9, h76, h77⟩, h78⟩, ⟨mt, cho, ⟨h81, h82, f10, h83, h84⟩, h85⟩, ⟨h91, h92, ⟨f11, h93, h94⟩, h95⟩, h96⟩ := hv
  have e : ∀ {r : Nat} {x : va_E}, r < 275 → M (La r) = some x → M' (La r) = some x := fun hr hx => (hF _ (hS _ hr)).trans hx
  exact ⟨e (by decide) h1, h2.fr hF (hS _ (by decide)) (hS _ (by decide)), h3.fr hF (hS _ (by decide)) (hS _ (by decide)) (hS _ (by decide)), h4.fr hF (hS _ (by decide)) (hS _ (by decide)), ⟨ds, h5.fr hF (hS _ (by decide)) (hS _ (by decide))⟩, ⟨pf, h6, e (by decide) h61, ⟨f6, e (by decide) h62, h63⟩, fun i hi => dfI.fr (h64 i hi) hF (hS _ (by have := h6.1 i hi; omega)) (hS _ (by have := h6.1 i hi; omega)) (hS _ (by have := h6.1 i hi; omega)) (hS _ (by have := h6.1 i hi; omega)) (hS _ (by have := h6.1 i hi; omega))⟩, ⟨pv, vd, ld, mb, nu, ho, h7, e (by decide) h71, ⟨f7, e (by decide) h72, h73⟩, ⟨f8, e (by decide) h74, h75⟩, ⟨f9, e (by decide) h76, h77⟩, fun i hi => voI.fr (h78 i hi) hF (hS _ (by have := h7.1 i hi; omega)) (hS _ (by have := h7.1 i hi; omega)) (hS _ (by have := h7.1 i hi; omega))⟩, ⟨mt, cho, ⟨e (by decide) h81, h82.fr hF (hS _ (by decide)) (hS _ (by decide)), f10, e (by decide) h83, h84⟩, h85⟩, ⟨e (by decide) h91, h92.fr hF (hS _ (by decide)) (hS _ (by decide)), ⟨f11, e (by decide) h93, h94⟩, fun i hi => ffI.fr (h95 i hi) hF (hS _ (by omega)) (hS _ (by omega)) (hS _ (by omega))⟩, h96⟩
/-- a cell that is none of the vault's is written -/
theorem vI.up {G : mq_G} {M M' : mq_M} {La : Nat → Nat} {sh : List Nat} {k : vtD} {h : Nat → Bool} {d : Nat → List Nat} {r : vtR} {x : Nat} {e : va_E} (hv : vtI G M La sh k h d r) (hM : M' = mq_up M x e) (hx : ∀ r, r < 275 → La r ≠ x) : vtI G M' La sh k h d r := vI.fx hv (mq_F.up hM List.mem_cons_self) (fun r hr hm => hx r hr (List.mem_singleton.mp hm))
