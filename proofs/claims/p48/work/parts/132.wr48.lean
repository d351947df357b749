/-! ===== p48: what stands while a content is written ===== -/
theorem vtA_l : ∀ r ∈ vtA, r < 275 := fun r hr => List.mem_range.mp hr
/-- the vault's sheet has size bytes, its desk is k; the law's desk at x; the row at q; all else is as in M0 -/
def wrI (G : mq_G) (M0 M : mq_M) (La : Nat → Nat) (x b : Nat) (fl : Int) (ka ca : Nat) (k : vtD) (h : Nat → Bool) (d : Nat → List Nat) (r : vtR) (q size : Nat) (dr : Int) (f : Nat → Int32) : Prop :=
  (∃ sh : List Nat, sh.length = size ∧ vtI G M La sh k h d r) ∧ ldI M x (La 0) b dr fl ka ca ∧ M q = some (.inl (G.2.1, 240, .inl f)) ∧ ∀ z, M0 z ≠ none → z ≠ x → (∀ r, r < 275 → z ≠ La r) → M z = M0 z
section WRI
variable {G : mq_G} {M0 M M2 : mq_M} {La : Nat → Nat} {x b ka ca q size : Nat} {fl dr : Int} {k : vtD} {h : Nat → Bool} {d : Nat → List Nat} {r : vtR} {f : Nat → Int32}
theorem wrI.draw {dr2 : Int} (hx : ∀ r, r < 275 → La r ≠ x) (hqx : q ≠ x) (hw : wrI G M0 M La x b fl ka ca k h d r q size dr f) (hM : M2 = mq_up M x (.inr (11, [.ref (La 0), .ref b, .int (zI dr2), .int (zI fl), .ref ka, .ref ca]))) : wrI G M0 M2 La x b fl ka ca k h d r q size dr2 f := by
  obtain ⟨⟨sh, h1, h2⟩, h3, h4, h5⟩ := hw
  exact ⟨⟨sh, h1, vI.up h2 hM hx⟩, by unfold ldI; rw [hM, mq_up_s], by rw [hM, mq_up_n hqx]; exact h4, fun z hz hzx hzL => by rw [hM, mq_up_n hzx]; exact h5 z hz hzx hzL⟩
theorem wrI.vault {k2 : vtD} {size2 : Nat} (hx : ∀ r, r < 275 → La r ≠ x) (hq : ∀ r, r < 275 → La r ≠ q) (hw : wrI G M0 M La x b fl ka ca k h d r q size dr f) (hV : ∃ sh2 : List Nat, sh2.length = size2 ∧ vtI G M2 La sh2 k2 h d r) (hF : mq_FR La vtA M M2) : wrI G M0 M2 La x b fl ka ca k2 h d r q size2 dr f := by
  have e : ∀ z, (∀ r, r < 275 → z ≠ La r) → M2 z = M z := fun z hz => hF z (fun hm => by
    obtain ⟨r, hr, e⟩ := List.mem_map.mp hm
    exact hz r (vtA_l r hr) e.symm)
  exact ⟨hV, (e x (fun r hr => (hx r hr).symm)).trans hw.2.1, (e q (fun r hr => (hq r hr).symm)).trans hw.2.2.1, fun z hz hzx hzL => (e z hzL).trans (hw.2.2.2 z hz hzx hzL)⟩
theorem wrI.made {f2 : Nat → Int32} (hqx : q ≠ x) (hq : ∀ r, r < 275 → La r ≠ q) (h0 : M0 q = none) (hw : wrI G M0 M La x b fl ka ca k h d r q size dr f) (hM : M2 = mq_up M q (.inl (G.2.1, 240, .inl f2))) : wrI G M0 M2 La x b fl ka ca k h d r q size dr f2 := by
  obtain ⟨⟨sh, h1, h2⟩, h3, h4, h5⟩ := hw
  exact ⟨⟨sh, h1, vI.up h2 hM hq⟩, by unfold ldI; rw [hM, mq_up_n (fun e => hqx e.symm)]; exact h3, by rw [hM, mq_up_s], fun z hz hzx hzL => by rw [hM, mq_up_n (fun e => hz (by rw [e]; exact h0))]; exact h5 z hz hzx hzL⟩
end WRI
