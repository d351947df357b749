/-! ===== the whole vault, by roles ===== -/
abbrev vtD : Type := Nat × (Nat → Nat) × (Nat → List Nat) × (Nat → List Nat) × (Nat → Nat)
abbrev vtR : Type := Bool × Int × Int × Bool × Nat × List Nat × (Nat → List Nat) × (Nat → Int) × (Nat → Int) × (Nat → Int) × (Nat → Bool)
/-- the desk: how many files, keys, contents, packed contents, checks -/
def vtK (G : mq_G) (M : mq_M) (La : Nat → Nat) (k : vtD) : Prop := ∃ pf : Nat → Nat, dkP pf k.1 k.2.1 k.2.2.1 k.2.2.2.2 ∧ dkI G M La pf k.1 k.2.1 k.2.2.1 k.2.2.2.1 k.2.2.2.2
/-- the shelf: by places, is a volume here, and its bytes -/
def vtS (G : mq_G) (M : mq_M) (La : Nat → Nat) (h : Nat → Bool) (d : Nat → List Nat) : Prop := ∃ (pv : Nat → Nat) (vd : Nat → Int) (ld mb : Int) (nu ho : Nat → Int), shP pv h d vd ∧ shI G M La pv h d vd ld mb nu ho
def vtC (G : mq_G) (M : mq_M) (La : Nat → Nat) : Prop := ∃ (mt : List Nat) (cho : Nat → Nat), rcI G M La mt cho ∧ ∀ i, i < 10 → cho i < 100
def vtG (G : mq_G) (M : mq_M) (La : Nat → Nat) (r : vtR) : Prop := rdI G M La r.1 r.2.1 r.2.2.1 r.2.2.2.1 r.2.2.2.2.1 r.2.2.2.2.2.1 r.2.2.2.2.2.2.1 r.2.2.2.2.2.2.2.1 r.2.2.2.2.2.2.2.2.1 r.2.2.2.2.2.2.2.2.2.1 r.2.2.2.2.2.2.2.2.2.2 ∧ rdR r.2.2.2.2.2.2.2.1 r.2.2.2.2.2.2.2.2.1 r.2.2.2.2.2.2.2.2.2.1 ∧ r.2.2.2.2.1 ≤ 40
def vtI (G : mq_G) (M : mq_M) (La : Nat → Nat) (sh : List Nat) (k : vtD) (h : Nat → Bool) (d : Nat → List Nat) (r : vtR) : Prop :=
  vtO M La ∧ ckI G M (La 1) (La 2) ∧ fdI G M (La 3) (La 4) (La 5) ∧ bI G M (La 7) (La 8) 240 sh ∧ (∃ ds : List Nat, bI G M (La 9) (La 10) 4070 ds) ∧ vtK G M La k ∧ vtS G M La h d ∧ vtC G M La ∧ vtG G M La r
theorem dkI.fr {G : mq_G} {M M' : mq_M} {La : Nat → Nat} {pf : Nat → Nat} {n : Nat} {ky : Nat → Nat} {c pk : Nat → List Nat} {ck : Nat → Nat} {S : List Nat} (hI : mq_inj La) (hS : dkI G M La pf n ky c pk ck) (hP : ∀ i, i < 16 → pf i < 16) (hF : mq_FR La S M M') (hT : ∀ r ∈ S, r < 275) (h1 : ∀ r, r = 6 ∨ r = 11 ∨ (24 ≤ r ∧ r < 104) → r ∉ S) : dkI G M' La pf n ky c pk ck := by
  obtain ⟨g1, ⟨f, g2, g3⟩, g4⟩ := hS
  exact ⟨(hF _ (mq_ni hI (by decide) hT (h1 _ (by omega)))).trans g1, ⟨f, (hF _ (mq_ni hI (by decide) hT (h1 _ (by omega)))).trans g2, g3⟩, fun i hi => (g4 i hi).fr hI hF (hP i hi) hT (fun r h2 h3 => h1 _ (by have := hP i hi; omega))⟩
theorem rdI.fr {G : mq_G} {M M' : mq_M} {La : Nat → Nat} {op : Bool} {da pa : Int} {ix : Bool} {n : Nat} {S : List Nat} {fc : Nat → List Nat} {fk fp ft : Nat → Int} {fg : Nat → Bool} {T : List Nat} (hI : mq_inj La) (hS : rdI G M La op da pa ix n S fc fk fp ft fg) (hF : mq_FR La T M M') (hT : ∀ r ∈ T, r < 275) (h1 : ∀ r, (20 ≤ r ∧ r < 24) ∨ (155 ≤ r ∧ r < 275) → r ∉ T) : rdI G M' La op da pa ix n S fc fk fp ft fg := by
  obtain ⟨g1, g2, ⟨f, g3, g4⟩, g5⟩ := hS
  exact ⟨(hF _ (mq_ni hI (by decide) hT (h1 _ (by omega)))).trans g1, g2.fr hF (mq_ni hI (by decide) hT (h1 _ (by omega))) (mq_ni hI (by decide) hT (h1 _ (by omega))), ⟨f, (hF _ (mq_ni hI (by decide) hT (h1 _ (by omega)))).trans g3, g4⟩, fun k hk => (g5 k hk).fr hI hF hk hT (fun r h2 h3 => h1 _ (by omega))⟩
section VTF
variable {G : mq_G} {M M' : mq_M} {La : Nat → Nat} {S : List Nat}
theorem vtO.fr (hI : mq_inj La) (h : vtO M La) (hF : mq_FR La S M M') (hT : ∀ r ∈ S, r < 275) (h1 : 0 ∉ S) : vtO M' La := (hF _ (mq_ni hI (by decide) hT h1)).trans h
theorem vtK.fr {k : vtD} (hI : mq_inj La) (h : vtK G M La k) (hF : mq_FR La S M M') (hT : ∀ r ∈ S, r < 275) (h1 : ∀ r, r = 6 ∨ r = 11 ∨ (24 ≤ r ∧ r < 104) → r ∉ S) : vtK G M' La k := by
  obtain ⟨pf, hP, hD⟩ := h
  exact ⟨pf, hP, hD.fr hI hP.1 hF hT h1⟩
theorem vtS.fr {hh : Nat → Bool} {d : Nat → List Nat} (hI : mq_inj La) (h : vtS G M La hh d) (hF : mq_FR La S M M') (hT : ∀ r ∈ S, r < 275) (h1 : ∀ r, (12 ≤ r ∧ r ≤ 15) ∨ (104 ≤ r ∧ r < 155) → r ∉ S) : vtS G M' La hh d := by
  obtain ⟨pv, vd, ld, mb, nu, ho, hP, hD⟩ := h
  exact ⟨pv, vd, ld, mb, nu, ho, hP, hD.fr hI hP.1 hF hT h1⟩
theorem vtC.fr (hI : mq_inj La) (h : vtC G M La) (hF : mq_FR La S M M') (hT : ∀ r ∈ S, r < 275) (h1 : ∀ r, 16 ≤ r ∧ r < 20 → r ∉ S) : vtC G M' La := by
  obtain ⟨mt, cho, h2, h3⟩ := h
  exact ⟨mt, cho, h2.fr hI hF hT (h1 _ (by omega)) (h1 _ (by omega)) (h1 _ (by omega)) (h1 _ (by omega)), h3⟩
theorem vtG.fr {r : vtR} (hI : mq_inj La) (h : vtG G M La r) (hF : mq_FR La S M M') (hT : ∀ r ∈ S, r < 275) (h1 : ∀ r, (20 ≤ r ∧ r < 24) ∨ (155 ≤ r ∧ r < 275) → r ∉ S) : vtG G M' La r := ⟨h.1.fr hI hF hT h1, h.2⟩
theorem ckI.fR (hI : mq_inj La) (h : ckI G M (La 1) (La 2)) (hF : mq_FR La S M M') (hT : ∀ r ∈ S, r < 275) (h1 : 1 ∉ S) (h2 : 2 ∉ S) : ckI G M' (La 1) (La 2) := h.fr hF (mq_ni hI (by decide) hT h1) (mq_ni hI (by decide) hT h2)
theorem fdI.fR (hI : mq_inj La) (h : fdI G M (La 3) (La 4) (La 5)) (hF : mq_FR La S M M') (hT : ∀ r ∈ S, r < 275) (h1 : 3 ∉ S) (h2 : 4 ∉ S) (h3 : 5 ∉ S) : fdI G M' (La 3) (La 4) (La 5) := h.fr hF (mq_ni hI (by decide) hT h1) (mq_ni hI (by decide) hT h2) (mq_ni hI (by decide) hT h3)
theorem bI.fR {r n : Nat} {d : List Nat} (hI : mq_inj La) (h : bI G M (La r) (La (r + 1)) n d) (hr : r < 274) (hF : mq_FR La S M M') (hT : ∀ r ∈ S, r < 275) (h1 : r ∉ S) (h2 : r + 1 ∉ S) : bI G M' (La r) (La (r + 1)) n d := h.fr hF (mq_ni hI (by omega) hT h1) (mq_ni hI (by omega) hT h2)
variable {sh : List Nat} {k : vtD} {h : Nat → Bool} {d : Nat → List Nat} {r : vtR}
/-- only the shelf changed -/
theorem vtI.shelf (hI : mq_inj La) (hV : vtI G M La sh k h d r) (hF : mq_FR La S M M') (hs : ∀ q ∈ S, (12 ≤ q ∧ q ≤ 15) ∨ (104 ≤ q ∧ q < 155)) {h2 : Nat → Bool} {d2 : Nat → List Nat} (hN : vtS G M' La h2 d2) : vtI G M' La sh k h2 d2 r := by
  obtain ⟨v1, v2, v3, v4, ⟨ds, v5⟩, v6, v7, v8, v9⟩ := hV
  have hT : ∀ q ∈ S, q < 275 := fun q hq => by have := hs q hq; omega
  have hn : ∀ q, (¬ ((12 ≤ q ∧ q ≤ 15) ∨ (104 ≤ q ∧ q < 155))) → q ∉ S := fun q hq hm => hq (hs q hm)
  exact ⟨v1.fr hI hF hT (hn _ (by omega)), v2.fR hI hF hT (hn _ (by omega)) (hn _ (by omega)), v3.fR hI hF hT (hn _ (by omega)) (hn _ (by omega)) (hn _ (by omega)), v4.fR hI (by decide) hF hT (hn _ (by omega)) (hn _ (by omega)), ⟨ds, v5.fR hI (by decide) hF hT (hn _ (by omega)) (hn _ (by omega))⟩, v6.fr hI hF hT (fun q h1 => hn _ (by omega)), hN, v8.fr hI hF hT (fun q h1 => hn _ (by omega)), v9.fr hI hF hT (fun q h1 => hn _ (by omega))⟩
/-- only the reading changed -/
theorem vtI.read (hI : mq_inj La) (hV : vtI G M La sh k h d r) (hF : mq_FR La S M M') (hs : ∀ q ∈ S, (20 ≤ q ∧ q < 24) ∨ (155 ≤ q ∧ q < 275)) {r2 : vtR} (hN : vtG G M' La r2) : vtI G M' La sh k h d r2 := by
  obtain ⟨v1, v2, v3, v4, ⟨ds, v5⟩, v6, v7, v8, v9⟩ := hV
  have hT : ∀ q ∈ S, q < 275 := fun q hq => by have := hs q hq; omega
  have hn : ∀ q, (¬ ((20 ≤ q ∧ q < 24) ∨ (155 ≤ q ∧ q < 275))) → q ∉ S := fun q hq hm => hq (hs q hm)
  exact ⟨v1.fr hI hF hT (hn _ (by omega)), v2.fR hI hF hT (hn _ (by omega)) (hn _ (by omega)), v3.fR hI hF hT (hn _ (by omega)) (hn _ (by omega)) (hn _ (by omega)), v4.fR hI (by decide) hF hT (hn _ (by omega)) (hn _ (by omega)), ⟨ds, v5.fR hI (by decide) hF hT (hn _ (by omega)) (hn _ (by omega))⟩, v6.fr hI hF hT (fun q h1 => hn _ (by omega)), v7.fr hI hF hT (fun q h1 => hn _ (by omega)), v8.fr hI hF hT (fun q h1 => hn _ (by omega)), hN⟩
/-- the reading and the recovery changed -/
theorem vtI.reco (hI : mq_inj La) (hV : vtI G M La sh k h d r) (hF : mq_FR La S M M') (hs : ∀ q ∈ S, (16 ≤ q ∧ q < 24) ∨ (155 ≤ q ∧ q < 275)) {r2 : vtR} (hC : vtC G M' La) (hN : vtG G M' La r2) : vtI G M' La sh k h d r2 := by
  obtain ⟨v1, v2, v3, v4, ⟨ds, v5⟩, v6, v7, v8, v9⟩ := hV
  have hT : ∀ q ∈ S, q < 275 := fun q hq => by have := hs q hq; omega
  have hn : ∀ q, (¬ ((16 ≤ q ∧ q < 24) ∨ (155 ≤ q ∧ q < 275))) → q ∉ S := fun q hq hm => hq (hs q hm)
  exact ⟨v1.fr hI hF hT (hn _ (by omega)), v2.fR hI hF hT (hn _ (by omega)) (hn _ (by omega)), v3.fR hI hF hT (hn _ (by omega)) (hn _ (by omega)) (hn _ (by omega)), v4.fR hI (by decide) hF hT (hn _ (by omega)) (hn _ (by omega)), ⟨ds, v5.fR hI (by decide) hF hT (hn _ (by omega)) (hn _ (by omega))⟩, v6.fr hI hF hT (fun q h1 => hn _ (by omega)), v7.fr hI hF hT (fun q h1 => hn _ (by omega)), hC, hN⟩
/-- only the desk, its sheet and its stream changed -/
theorem vtI.desk (hI : mq_inj La) (hV : vtI G M La sh k h d r) (hF : mq_FR La S M M') (hs : ∀ q ∈ S, (6 ≤ q ∧ q < 12) ∨ (24 ≤ q ∧ q < 104)) {sh2 : List Nat} {k2 : vtD} (hB : bI G M' (La 7) (La 8) 240 sh2) (hE : ∃ ds : List Nat, bI G M' (La 9) (La 10) 4070 ds) (hK : vtK G M' La k2) : vtI G M' La sh2 k2 h d r := by
  obtain ⟨v1, v2, v3, v4, ⟨ds, v5⟩, v6, v7, v8, v9⟩ := hV
  have hT : ∀ q ∈ S, q < 275 := fun q hq => by have := hs q hq; omega
  have hn : ∀ q, (¬ ((6 ≤ q ∧ q < 12) ∨ (24 ≤ q ∧ q < 104))) → q ∉ S := fun q hq hm => hq (hs q hm)
  exact ⟨v1.fr hI hF hT (hn _ (by omega)), v2.fR hI hF hT (hn _ (by omega)) (hn _ (by omega)), v3.fR hI hF hT (hn _ (by omega)) (hn _ (by omega)) (hn _ (by omega)), hB, hE, hK, v7.fr hI hF hT (fun q h1 => hn _ (by omega)), v8.fr hI hF hT (fun q h1 => hn _ (by omega)), v9.fr hI hF hT (fun q h1 => hn _ (by omega))⟩
end VTF
