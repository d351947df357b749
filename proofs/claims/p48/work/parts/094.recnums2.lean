theorem rcI.ch {G : mq_G} {M M' : mq_M} {La : Nat → Nat} {mt : List Nat} {cho : Nat → Nat} {f : Nat → Int32} {i v : Nat} (hI : mq_inj La) (hS : rcI G M La mt cho) (hf : M (La 19) = some (.inl (G.2.1, 10, .inl f))) (h : M' = mq_up M (La 19) (.inl (G.2.1, 10, .inl (upd f i (zI (v : Int)))))) : rcI G M' La mt (fnU cho i v) := by
  obtain ⟨g1, g2, f0, g3, g4⟩ := hS
  have hF : mq_FR La [19] M M' := mq_F.up h (by simp)
  have hT : ∀ r ∈ [19], r < 275 := by decide
  have e0 : f0 = f := by
    have := g3.symm.trans hf
    simpa using this
  subst e0
  refine ⟨(hF _ (mq_ni hI (by decide) hT (by decide))).trans g1, g2.fr hF (mq_ni hI (by decide) hT (by decide)) (mq_ni hI (by decide) hT (by decide)), upd f0 i (zI (v : Int)), by rw [h, mq_up_s], fun j hj => ?_⟩
  unfold upd fnU
  split
  · rfl
  · exact g4 j hj
