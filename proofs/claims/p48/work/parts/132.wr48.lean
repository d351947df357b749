/-! ===== p48: what stands while a content is written ===== -/
/-- the vault's sheet has size bytes; the row that is made at q -/
def wrI (G : mq_G) (M : mq_M) (La : Nat → Nat) (x b ka ca : Nat) (k : vtD) (h : Nat → Bool) (d : Nat → List Nat) (r : vtR) (q size : Nat) (dr : Int) (f : Nat → Int32) : Prop :=
  (∃ sh : List Nat, sh.length = size ∧ ldA G M La x b ka ca sh k h d r dr) ∧ M q = some (.inl (G.2.1, 240, .inl f))
section WRI
variable {G : mq_G} {M M2 : mq_M} {La : Nat → Nat} {x b ka ca q size : Nat} {dr : Int} {k : vtD} {h : Nat → Bool} {d : Nat → List Nat} {r : vtR} {f : Nat → Int32}
theorem wrI.D (hw : wrI G M La x b ka ca k h d r q size dr f) : ldI M x (La 0) b dr (k.1 : Int) ka ca := by
  obtain ⟨⟨sh, h1, h2⟩, h3⟩ := hw
  exact h2.D
theorem wrI.draw {dr2 : Int} (hB : ldB La x ka ca) (hqx : q ≠ x) (hw : wrI G M La x b ka ca k h d r q size dr f) (hM : M2 = mq_up M x (.inr (11, [.ref (La 0), .ref b, .int (zI dr2), .int (zI (k.1 : Int)), .ref ka, .ref ca]))) : wrI G M2 La x b ka ca k h d r q size dr2 f := by
  obtain ⟨⟨sh, h1, h2⟩, h3⟩ := hw
  exact ⟨⟨sh, h1, h2.draw hB hM⟩, by rw [hM, mq_up_n hqx]; exact h3⟩
theorem wrI.vault {size2 : Nat} (hB : ldB La x ka ca) (hqL : ∀ i, i < 275 → La i ≠ q) (hw : wrI G M La x b ka ca k h d r q size dr f) (hV : ∃ sh2 : List Nat, sh2.length = size2 ∧ vtI G M2 La sh2 k h d r) (hF : mq_FR La vtA M M2) : wrI G M2 La x b ka ca k h d r q size2 dr f := by
  obtain ⟨⟨sh, h1, h2⟩, h3⟩ := hw
  obtain ⟨sh2, v1, v2⟩ := hV
  exact ⟨⟨sh2, v1, h2.vault hB v2 hF⟩, (hF q (fun hm => by
    obtain ⟨i, hi, e⟩ := List.mem_map.mp hm
    exact hqL i (List.mem_range.mp hi) e)).trans h3⟩
theorem wrI.made {f2 : Nat → Int32} (hqx : q ≠ x) (hqk : q ≠ ka) (hqc : q ≠ ca) (hqL : ∀ i, i < 275 → La i ≠ q) (hw : wrI G M La x b ka ca k h d r q size dr f) (hM : M2 = mq_up M q (.inl (G.2.1, 240, .inl f2))) : wrI G M2 La x b ka ca k h d r q size dr f2 := by
  obtain ⟨⟨sh, h1, h2⟩, h3⟩ := hw
  exact ⟨⟨sh, h1, h2.row hqx hqk hqc hqL hM⟩, by rw [hM, mq_up_s]⟩
end WRI
