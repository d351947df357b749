/-! ===== p48: the law's desk and its vault ===== -/
/-- a row of ints that is none of the vault's -/
def cR (G : mq_G) (M : mq_M) (La : Nat → Nat) (q : Nat) : Prop := (∀ r, r < 275 → q ≠ La r) ∧ ∃ (n : Nat) (g : Nat → Int32), M q = some (.inl (G.2.1, n, .inl g))
def ldB (La : Nat → Nat) (x ka ca : Nat) : Prop := mq_inj La ∧ (∀ r, r < 275 → La r ≠ x ∧ La r ≠ ka ∧ La r ≠ ca) ∧ x ≠ ka ∧ x ≠ ca ∧ ka ≠ ca
def ldC (G : mq_G) (M : mq_M) (La : Nat → Nat) (x b ka ca : Nat) (sh : List Nat) (k : vtD) (h : Nat → Bool) (d : Nat → List Nat) (r : vtR) (dr : Int) (fl : Nat) (ky : Nat → Int32) (f : Nat → Option Nat) : Prop :=
  vtI G M La sh k h d r ∧ ldI M x (La 0) b dr (fl : Int) ka ca ∧ M ka = some (.inl (G.2.1, 17, .inl ky)) ∧ M ca = some (.inl (gA G, 17, .inr (.inr (.inr (.inr f))))) ∧ ∀ i q, f i = some q → cR G M La q
/-- the law's desk knows the keys of the vault's desk -/
def ldA (G : mq_G) (M : mq_M) (La : Nat → Nat) (x b ka ca : Nat) (sh : List Nat) (k : vtD) (h : Nat → Bool) (d : Nat → List Nat) (r : vtR) (dr : Int) : Prop :=
  ∃ (ky : Nat → Int32) (f : Nat → Option Nat), ldC G M La x b ka ca sh k h d r dr k.1 ky f ∧ ∀ i, i < k.1 → ky i = zI (k.2.1 i : Int)
section LDC
variable {G : mq_G} {M M2 : mq_M} {La : Nat → Nat} {x b ka ca q : Nat} {sh sh2 : List Nat} {k k2 : vtD} {h h2 : Nat → Bool} {d d2 : Nat → List Nat} {r r2 : vtR} {dr dr2 : Int} {fl fl2 : Nat} {ky ky2 : Nat → Int32} {f f2 : Nat → Option Nat}
theorem cR.mv (hc : cR G M La q) (hM : M2 q = M q ∨ ∃ (n : Nat) (g : Nat → Int32), M2 q = some (.inl (G.2.1, n, .inl g))) : cR G M2 La q := by
  obtain ⟨h1, n, g, h2⟩ := hc
  rcases hM with e | e
  · exact ⟨h1, n, g, e.trans h2⟩
  · exact ⟨h1, e⟩
theorem cR.nx {o : Nat × List Value} (hc : cR G M La q) (hx : M x = some (.inr o)) : q ≠ x := fun e => by
  obtain ⟨-, n, g, hp⟩ := hc
  rw [e, hx] at hp
  cases hp
theorem cR.nc {o : Nat → Option Nat} {cA : ClassId} {n : Nat} (hc : cR G M La q) (hx : M x = some (.inl (cA, n, .inr (.inr (.inr (.inr o)))))) : q ≠ x := fun e => by
  obtain ⟨-, n, g, hp⟩ := hc
  rw [e, hx] at hp
  cases hp
theorem ldC.fresh (hc : ldC G M La x b ka ca sh k h d r dr fl ky f) (hq : M q = none) : q ≠ x ∧ q ≠ ka ∧ q ≠ ca ∧ (∀ i, i < 275 → La i ≠ q) ∧ ∀ p, cR G M La p → p ≠ q := by
  obtain ⟨h1, h2, h3, h4, h5⟩ := hc
  refine ⟨fun e => ?_, fun e => ?_, fun e => ?_, fun i hi e => h1.nn i hi (by rw [e]; exact hq), fun p hp e => ?_⟩
  · unfold ldI at h2
    rw [e, h2] at hq; cases hq
  · rw [e, h3] at hq; cases hq
  · rw [e, h4] at hq; cases hq
  · obtain ⟨-, n, g, hp⟩ := hp
    rw [e, hq] at hp; cases hp
/-- the law's desk itself changes -/
theorem ldC.draw (hB : ldB La x ka ca) (hc : ldC G M La x b ka ca sh k h d r dr fl ky f) (hM : M2 = mq_up M x (.inr (11, [.ref (La 0), .ref b, .int (zI dr2), .int (zI (fl2 : Int)), .ref ka, .ref ca]))) : ldC G M2 La x b ka ca sh k h d r dr2 fl2 ky f := by
  obtain ⟨h1, h2, h3, h4, h5⟩ := hc
  obtain ⟨b1, b2, b3, b4, b5⟩ := hB
  exact ⟨vI.up h1 hM (fun r hr => (b2 r hr).1), by unfold ldI; rw [hM, mq_up_s], by rw [hM, mq_up_n (fun e => b3 e.symm)]; exact h3, by rw [hM, mq_up_n (fun e => b4 e.symm)]; exact h4, fun i p hp => (h5 i p hp).mv (Or.inl (by rw [hM, mq_up_n ((h5 i p hp).nx h2)]))⟩
/-- the vault changes -/
theorem ldC.vault (hB : ldB La x ka ca) (hc : ldC G M La x b ka ca sh k h d r dr fl ky f) (hV : vtI G M2 La sh2 k2 h2 d2 r2) (hF : mq_FR La vtA M M2) : ldC G M2 La x b ka ca sh2 k2 h2 d2 r2 dr fl ky f := by
  obtain ⟨h1, g2, h3, h4, h5⟩ := hc
  obtain ⟨b1, b2, b3, b4, b5⟩ := hB
  have e : ∀ z, (∀ r, r < 275 → La r ≠ z) → M2 z = M z := fun z hz => hF z (fun hm => by
    obtain ⟨r, hr, e⟩ := List.mem_map.mp hm
    exact hz r (List.mem_range.mp hr) e)
  exact ⟨hV, (e x (fun r hr => (b2 r hr).1)).trans g2, (e ka (fun r hr => (b2 r hr).2.1)).trans h3, (e ca (fun r hr => (b2 r hr).2.2)).trans h4, fun i p hp => (h5 i p hp).mv (Or.inl (e p (fun r hr g => (h5 i p hp).1 r hr g.symm)))⟩
/-- a key is put -/
theorem ldC.key (hB : ldB La x ka ca) (hc : ldC G M La x b ka ca sh k h d r dr fl ky f) (hM : M2 = mq_up M ka (.inl (G.2.1, 17, .inl ky2))) : ldC G M2 La x b ka ca sh k h d r dr fl ky2 f := by
  obtain ⟨h1, h2, h3, h4, h5⟩ := hc
  obtain ⟨b1, b2, b3, b4, b5⟩ := hB
  refine ⟨vI.up h1 hM (fun r hr => (b2 r hr).2.1), by unfold ldI; rw [hM, mq_up_n b3]; exact h2, by rw [hM, mq_up_s], by rw [hM, mq_up_n (fun e => b5 e.symm)]; exact h4, fun i p hp => (h5 i p hp).mv ?_⟩
  by_cases hpk : p = ka
  · exact Or.inr ⟨17, ky2, by rw [hM, hpk, mq_up_s]⟩
  · exact Or.inl (by rw [hM, mq_up_n hpk])
/-- a content is put -/
theorem ldC.cont (hB : ldB La x ka ca) (hc : ldC G M La x b ka ca sh k h d r dr fl ky f) (hM : M2 = mq_up M ca (.inl (gA G, 17, .inr (.inr (.inr (.inr f2)))))) (hf : ∀ i p, f2 i = some p → cR G M La p) : ldC G M2 La x b ka ca sh k h d r dr fl ky f2 := by
  obtain ⟨h1, h2, h3, h4, h5⟩ := hc
  obtain ⟨b1, b2, b3, b4, b5⟩ := hB
  exact ⟨vI.up h1 hM (fun r hr => (b2 r hr).2.2), by unfold ldI; rw [hM, mq_up_n b4]; exact h2, by rw [hM, mq_up_n b5]; exact h3, by rw [hM, mq_up_s], fun i p hp => (hf i p hp).mv (Or.inl (by rw [hM, mq_up_n ((hf i p hp).nc h4)]))⟩
/-- a cell is made -/
theorem ldC.new {e : va_E} (hc : ldC G M La x b ka ca sh k h d r dr fl ky f) (hq : M q = none) (hM : M2 = mq_up M q e) : ldC G M2 La x b ka ca sh k h d r dr fl ky f := by
  obtain ⟨a1, a2, a3, a4, a5⟩ := hc.fresh hq
  obtain ⟨h1, h2, h3, h4, h5⟩ := hc
  exact ⟨vI.up h1 hM a4, by unfold ldI; rw [hM, mq_up_n (fun e => a1 e.symm)]; exact h2, by rw [hM, mq_up_n (fun e => a2 e.symm)]; exact h3, by rw [hM, mq_up_n (fun e => a3 e.symm)]; exact h4, fun i p hp => (h5 i p hp).mv (Or.inl (by rw [hM, mq_up_n (a5 p (h5 i p hp))]))⟩
/-- a row of ints that is no one's is written -/
theorem ldC.row {n : Nat} {g : Nat → Int32} (hc : ldC G M La x b ka ca sh k h d r dr fl ky f) (hqx : q ≠ x) (hqk : q ≠ ka) (hqc : q ≠ ca) (hqL : ∀ i, i < 275 → La i ≠ q) (hM : M2 = mq_up M q (.inl (G.2.1, n, .inl g))) : ldC G M2 La x b ka ca sh k h d r dr fl ky f := by
  obtain ⟨h1, h2, h3, h4, h5⟩ := hc
  refine ⟨vI.up h1 hM hqL, by unfold ldI; rw [hM, mq_up_n (fun e => hqx e.symm)]; exact h2, by rw [hM, mq_up_n (fun e => hqk e.symm)]; exact h3, by rw [hM, mq_up_n (fun e => hqc e.symm)]; exact h4, fun i p hp => (h5 i p hp).mv ?_⟩
  by_cases hpq : p = q
  · exact Or.inr ⟨n, g, by rw [hM, hpq, mq_up_s]⟩
  · exact Or.inl (by rw [hM, mq_up_n hpq])
theorem ldA.draw (hB : ldB La x ka ca) (hc : ldA G M La x b ka ca sh k h d r dr) (hM : M2 = mq_up M x (.inr (11, [.ref (La 0), .ref b, .int (zI dr2), .int (zI (k.1 : Int)), .ref ka, .ref ca]))) : ldA G M2 La x b ka ca sh k h d r dr2 := by
  obtain ⟨ky, f, h1, h2⟩ := hc
  exact ⟨ky, f, h1.draw hB hM, h2⟩
theorem ldA.vault (hB : ldB La x ka ca) (hc : ldA G M La x b ka ca sh k h d r dr) (hV : vtI G M2 La sh2 k h2 d2 r2) (hF : mq_FR La vtA M M2) : ldA G M2 La x b ka ca sh2 k h2 d2 r2 dr := by
  obtain ⟨ky, f, h1, g2⟩ := hc
  exact ⟨ky, f, h1.vault hB hV hF, g2⟩
theorem ldA.new {e : va_E} (hc : ldA G M La x b ka ca sh k h d r dr) (hq : M q = none) (hM : M2 = mq_up M q e) : ldA G M2 La x b ka ca sh k h d r dr := by
  obtain ⟨ky, f, h1, h2⟩ := hc
  exact ⟨ky, f, h1.new hq hM, h2⟩
theorem ldA.row {n : Nat} {g : Nat → Int32} (hc : ldA G M La x b ka ca sh k h d r dr) (hqx : q ≠ x) (hqk : q ≠ ka) (hqc : q ≠ ca) (hqL : ∀ i, i < 275 → La i ≠ q) (hM : M2 = mq_up M q (.inl (G.2.1, n, .inl g))) : ldA G M2 La x b ka ca sh k h d r dr := by
  obtain ⟨ky, f, h1, h2⟩ := hc
  exact ⟨ky, f, h1.row hqx hqk hqc hqL hM, h2⟩
theorem ldA.fresh (hc : ldA G M La x b ka ca sh k h d r dr) (hq : M q = none) : q ≠ x ∧ q ≠ ka ∧ q ≠ ca ∧ (∀ i, i < 275 → La i ≠ q) := by
  obtain ⟨ky, f, h1, h2⟩ := hc
  obtain ⟨a1, a2, a3, a4, a5⟩ := h1.fresh hq
  exact ⟨a1, a2, a3, a4⟩
theorem ldA.V (hc : ldA G M La x b ka ca sh k h d r dr) : vtI G M La sh k h d r := by
  obtain ⟨ky, f, h1, h2⟩ := hc
  exact h1.1
theorem ldA.D (hc : ldA G M La x b ka ca sh k h d r dr) : ldI M x (La 0) b dr (k.1 : Int) ka ca := by
  obtain ⟨ky, f, h1, h2⟩ := hc
  exact h1.2.1
end LDC
/-- the desk's number of files and keys are in bounds -/
theorem vtK.rng {G : mq_G} {M : mq_M} {La : Nat → Nat} {k : vtD} (hk : vtK G M La k) : k.1 ≤ 16 ∧ (∀ i, i < k.1 → k.2.1 i < 65536) := by
  obtain ⟨pf, ⟨-, -, a, b, -⟩, -⟩ := hk
  exact ⟨a, fun i hi => (b i hi).1⟩
theorem vtI.K {G : mq_G} {M : mq_M} {La : Nat → Nat} {sh : List Nat} {k : vtD} {h : Nat → Bool} {d : Nat → List Nat} {r : vtR} (hv : vtI G M La sh k h d r) : k.1 ≤ 16 ∧ (∀ i, i < k.1 → k.2.1 i < 65536) := by
  obtain ⟨-, -, -, -, -, a, -⟩ := hv
  exact a.rng
