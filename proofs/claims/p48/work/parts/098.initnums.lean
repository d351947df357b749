/-! ===== constructors: what is there stays ===== -/
/-- nothing that is there changes, but x -/
def iq_K (x : Nat) (M M' : mq_M) : Prop := ∀ z, M z ≠ none → z ≠ x → M' z = M z
def iq_Z (M M' : mq_M) : Prop := ∀ z, M z ≠ none → M' z = M z
theorem iq_Z.rf {M : mq_M} : iq_Z M M := fun _ _ => rfl
theorem iq_Z.tr {M M1 M2 : mq_M} (h1 : iq_Z M M1) (h2 : iq_Z M1 M2) : iq_Z M M2 := fun z hz => (h2 z (by rw [h1 z hz]; exact hz)).trans (h1 z hz)
theorem iq_Z.K {M M1 : mq_M} (x : Nat) (h : iq_Z M M1) : iq_K x M M1 := fun z hz _ => h z hz
theorem iq_K.tr0 {x : Nat} {M M1 M2 : mq_M} (h1 : iq_K x M M1) (h2 : iq_Z M1 M2) : iq_K x M M2 := fun z hz hx => (h2 z (by rw [h1 z hz hx]; exact hz)).trans (h1 z hz hx)
theorem iq_K.up {x : Nat} {M M1 M2 : mq_M} {e : va_E} (h1 : iq_K x M M1) (h : M2 = mq_up M1 x e) : iq_K x M M2 := fun z hz hx => by rw [h, mq_up_n hx]; exact h1 z hz hx
theorem iq_K.new {x q : Nat} {M M1 M2 : mq_M} {e : va_E} (h1 : iq_K x M M1) (hq : M1 q = none) (h : M2 = mq_up M1 q e) : iq_K x M M2 := fun z hz hx => by
  rw [h, mq_up_n (fun hc => by
    have := h1 z hz hx
    rw [hc, hq] at this
    rw [hc] at hz
    exact hz this.symm)]
  exact h1 z hz hx
theorem iq_K.own {x q : Nat} {M M1 M2 : mq_M} {e : va_E} (h1 : iq_K x M M1) (hq : M q = none) (h : M2 = mq_up M1 q e) : iq_K x M M2 := fun z hz hx => by
  rw [h, mq_up_n (fun hc => hz (by rw [hc]; exact hq))]
  exact h1 z hz hx
theorem iq_Z.new {q : Nat} {M M1 M2 : mq_M} {e : va_E} (h1 : iq_Z M M1) (hq : M1 q = none) (h : M2 = mq_up M1 q e) : iq_Z M M2 := fun z hz => by
  rw [h, mq_up_n (fun hc => by
    have := h1 z hz
    rw [hc, hq] at this
    rw [hc] at hz
    exact hz this.symm)]
  exact h1 z hz
/-- a new object q, and its constructor -/
theorem iq_Z.obj {q : Nat} {M M1 M2 : mq_M} {e : va_E} (hq : M q = none) (h : M1 = mq_up M q e) (hK : iq_K q M1 M2) : iq_Z M M2 := fun z hz => by
  have n1 : z ≠ q := fun hc => hz (by rw [hc]; exact hq)
  have e1 : M1 z = M z := by rw [h, mq_up_n n1]
  exact (hK z (by rw [e1]; exact hz) n1).trans e1
theorem iq_Z.back {q b : Nat} {M M1 : mq_M} {e : va_E} (h : M1 = mq_up M q e) (hb : M1 b = none) : M b = none ∧ b ≠ q := by
  have n1 : b ≠ q := fun hc => by rw [hc, h, mq_up_s] at hb; cases hb
  exact ⟨by rw [h, mq_up_n n1] at hb; exact hb, n1⟩
theorem iq_K.nil {x b : Nat} {M M1 : mq_M} (h : iq_K x M M1) (hx : M1 x ≠ none) (hb : M1 b = none) : M b = none := by
  cases hm : M b with
  | none => rfl
  | some v =>
    have n1 : b ≠ x := fun hc => hx (by rw [← hc]; exact hb)
    have := h b (by rw [hm]; simp) n1
    rw [hb, hm] at this
    cases this
theorem iq_Z.bytes {q a : Nat} {M M1 M2 : mq_M} {e : va_E} (hq : M q = none) (h : M1 = mq_up M q e) (ha : M1 a = none) (hF : mq_F [q, a] M1 M2) : iq_Z M M2 ∧ M a = none ∧ a ≠ q := by
  obtain ⟨h1, h2⟩ := iq_Z.back h ha
  refine ⟨fun z hz => ?_, h1, h2⟩
  have n1 : z ≠ q := fun hc => hz (by rw [hc]; exact hq)
  have n2 : z ≠ a := fun hc => hz (by rw [hc]; exact h1)
  rw [hF z (by simp [n1, n2]), h, mq_up_n n1]
theorem iq_some {M : mq_M} {x : Nat} {e : va_E} (h : M x = some e) : M x ≠ none := by rw [h]; simp
theorem iq_nx {M : mq_M} {x q : Nat} (h : M x ≠ none) (hq : M q = none) : x ≠ q := fun hc => h (by rw [hc]; exact hq)
theorem iq_upnn {M M1 : mq_M} {x z : Nat} {e : va_E} (h : M1 = mq_up M x e) (hz : M z ≠ none) : M1 z ≠ none := by
  by_cases hc : z = x
  · rw [h, hc, mq_up_s]; simp
  · rw [h, mq_up_n hc]; exact hz
theorem bI.nn {G : mq_G} {M : mq_M} {b a n : Nat} {d : List Nat} (h : bI G M b a n d) : M b ≠ none ∧ M a ≠ none := by
  obtain ⟨h1, h2, h3, h4, h5, f, h6, h7⟩ := h
  exact ⟨by rw [h1]; simp, by rw [h6]; simp⟩
theorem bI.eq {G : mq_G} {M M' : mq_M} {b a n : Nat} {d : List Nat} (h : bI G M b a n d) (hb : M' b = M b) (ha : M' a = M a) : bI G M' b a n d := by
  obtain ⟨h1, h2, h3, h4, h5, f, h6, h7⟩ := h
  exact ⟨hb.trans h1, h2, h3, h4, h5, f, ha.trans h6, h7⟩
theorem bI.k0 {G : mq_G} {M M' : mq_M} {b a n : Nat} {d : List Nat} (h : bI G M b a n d) (hK : iq_Z M M') : bI G M' b a n d := h.eq (hK _ h.nn.1) (hK _ h.nn.2)
theorem bI.kx {G : mq_G} {M M' : mq_M} {b a n x : Nat} {d : List Nat} (h : bI G M b a n d) (hK : iq_K x M M') (h1 : b ≠ x) (h2 : a ≠ x) : bI G M' b a n d := h.eq (hK _ h.nn.1 h1) (hK _ h.nn.2 h2)
theorem iq_K.one {x : Nat} {M M1 : mq_M} {e : va_E} (h : M1 = mq_up M x e) : iq_K x M M1 := fun z _ hx => by rw [h, mq_up_n hx]
theorem voI.k0 {G : mq_G} {M M' : mq_M} {x ch b a : Nat} {h : Bool} {d : List Nat} {vd : Int} (hv : voI G M x ch b a h d vd) (hK : iq_Z M M') : voI G M' x ch b a h d vd := ⟨(hK _ (iq_some hv.1)).trans hv.1, hv.2.k0 hK⟩
theorem dfI.k0 {G : mq_G} {M M' : mq_M} {x b a b2 a2 key : Nat} {c pk : List Nat} {ck : Nat} (hv : dfI G M x b a b2 a2 key c pk ck) (hK : iq_Z M M') : dfI G M' x b a b2 a2 key c pk ck := ⟨(hK _ (iq_some hv.1)).trans hv.1, hv.2.1.k0 hK, hv.2.2.k0 hK⟩
theorem ffI.k0 {G : mq_G} {M M' : mq_M} {x b a : Nat} {c : List Nat} {key pl tl : Int} {gd : Bool} (hv : ffI G M x b a c key pl tl gd) (hK : iq_Z M M') : ffI G M' x b a c key pl tl gd := ⟨(hK _ (iq_some hv.1)).trans hv.1, hv.2.k0 hK⟩
theorem ckI.k0 {G : mq_G} {M M' : mq_M} {x a : Nat} (h : ckI G M x a) (hK : iq_Z M M') : ckI G M' x a := by
  obtain ⟨h1, h2, f, h3, h4⟩ := h
  exact ⟨(hK _ (iq_some h1)).trans h1, h2, f, (hK _ (iq_some h3)).trans h3, h4⟩
theorem fdI.k0 {G : mq_G} {M M' : mq_M} {x u v : Nat} (h : fdI G M x u v) (hK : iq_Z M M') : fdI G M' x u v := by
  obtain ⟨h1, h2, h3, h4, ⟨f, h5, h6⟩, g, h7, h8⟩ := h
  exact ⟨(hK _ (iq_some h1)).trans h1, h2, h3, h4, ⟨f, (hK _ (iq_some h5)).trans h5, h6⟩, g, (hK _ (iq_some h7)).trans h7, h8⟩
/-- n addresses g: not there in M, there in M3, each once, none of B -/
def iq_g (M M3 : mq_M) (g : Nat → Nat) (n : Nat) : Prop := (∀ r, r < n → M (g r) = none ∧ M3 (g r) ≠ none) ∧ ∀ r t, r < n → t < n → g r = g t → r = t
theorem iq_g.z {M M3 : mq_M} {g : Nat → Nat} : iq_g M M3 g 0 := ⟨fun r h => absurd h (Nat.not_lt_zero r), fun r _ h => absurd h (Nat.not_lt_zero r)⟩
def iq_gl (g : Nat → Nat) (n : Nat) (qs : List Nat) : Nat → Nat := fun r => if r < n then g r else qs.getD (r - n) 0
theorem iq_gl_lt {g : Nat → Nat} {n r : Nat} {qs : List Nat} (h : r < n) : iq_gl g n qs r = g r := if_pos h
theorem iq_gl_ge {g : Nat → Nat} {n : Nat} {qs : List Nat} (k : Nat) : iq_gl g n qs (n + k) = qs.getD k 0 := by
  unfold iq_gl
  rw [if_neg (by omega), Nat.add_sub_cancel_left]
theorem iq_g.add {x : Nat} {M M3 M4 : mq_M} {g : Nat → Nat} {n k m : Nat} {qs : List Nat} (h : iq_g M M3 g n) (hK : iq_K x M M3) (hx : M3 x ≠ none) (hq : ∀ q ∈ qs, M3 q = none ∧ M4 q ≠ none) (hN : qs.Nodup) (hk : qs.length = k) (h4 : ∀ z, M3 z ≠ none → M4 z ≠ none) (hm : m = n + k) : iq_g M M4 (iq_gl g n qs) m := by
  subst hm
  have hgd : ∀ t, t < k → qs.getD t 0 ∈ qs := fun t ht => by
    rw [List.getD_eq_getElem?_getD, List.getElem?_eq_getElem (by omega)]
    exact List.getElem_mem _
  constructor
  · intro r hr
    by_cases h1 : r < n
    · rw [iq_gl_lt h1]
      exact ⟨(h.1 r h1).1, h4 _ (h.1 r h1).2⟩
    · obtain ⟨t, rfl⟩ : ∃ t, r = n + t := ⟨r - n, by omega⟩
      rw [iq_gl_ge]
      have := hq _ (hgd t (by omega))
      exact ⟨hK.nil hx this.1, this.2⟩
  · intro r t hr ht he
    by_cases h1 : r < n
    · by_cases h2 : t < n
      · rw [iq_gl_lt h1, iq_gl_lt h2] at he
        exact h.2 r t h1 h2 he
      · obtain ⟨t2, rfl⟩ : ∃ t2, t = n + t2 := ⟨t - n, by omega⟩
        rw [iq_gl_lt h1, iq_gl_ge] at he
        exact absurd he (iq_nx (h.1 r h1).2 (hq _ (hgd t2 (by omega))).1)
    · obtain ⟨r2, rfl⟩ : ∃ r2, r = n + r2 := ⟨r - n, by omega⟩
      by_cases h2 : t < n
      · rw [iq_gl_lt h2, iq_gl_ge] at he
        exact absurd he.symm (iq_nx (h.1 t h2).2 (hq _ (hgd r2 (by omega))).1)
      · obtain ⟨t2, rfl⟩ : ∃ t2, t = n + t2 := ⟨t - n, by omega⟩
        rw [iq_gl_ge, iq_gl_ge] at he
        by_cases h5 : r2 = t2
        · omega
        · exact absurd he (mq_nd hN r2 t2 (by simp; omega))
theorem bI.up {G : mq_G} {M M1 : mq_M} {b a n x : Nat} {d : List Nat} {e : va_E} (hB : bI G M b a n d) (h : M1 = mq_up M x e) (h1 : x ≠ b) (h2 : x ≠ a) : bI G M1 b a n d := hB.eq (by rw [h, mq_up_n (Ne.symm h1)]) (by rw [h, mq_up_n (Ne.symm h2)])
section MQI
variable {p : Program} {l : Launch} {e : Env} {R : Room} {s : State} {m : MethodId} {args : Array Value} {below : List Frame} {meth : Method} {c : Code} {Q : State → Prop}
variable {nL : Nat} {D : va_G} {z : Nat} {H0 : Heap} {pc : Nat}
/-- a loop that makes objects: its cells and slots by its state -/
theorem mq_loopK {σ : Type} (I : σ → Prop) (μ : σ → Nat) (fc fn : σ → Nat) (fM : σ → mq_M) (fL : σ → List (Option Value)) (fs : σ → List Value)
    (hs : ∀ x, I x → (∀ y, I y → μ y < μ x → mq_X p l e R s m args below meth c Q nL D z H0 (fc y) (fn y) (fM y) pc (fL y) (fs y)) → mq_X p l e R s m args below meth c Q nL D z H0 (fc x) (fn x) (fM x) pc (fL x) (fs x)) :
    ∀ x, I x → mq_X p l e R s m args below meth c Q nL D z H0 (fc x) (fn x) (fM x) pc (fL x) (fs x) := by
  intro x
  generalize hn : μ x = n
  induction n using Nat.strongRecOn generalizing x with
  | ind n ih => exact fun hI => hs x hI (fun y hy hlt => ih (μ y) (hn ▸ hlt) y rfl hy)
end MQI
theorem dfI.up {G : mq_G} {M M1 : mq_M} {x b a b2 a2 key t : Nat} {c pk : List Nat} {ck : Nat} {e : va_E} (hv : dfI G M x b a b2 a2 key c pk ck) (h : M1 = mq_up M t e) (hn : ∀ z ∈ [x, b, a, b2, a2], z ≠ t) : dfI G M1 x b a b2 a2 key c pk ck := by
  simp only [List.mem_cons, List.not_mem_nil, or_false, forall_eq_or_imp, forall_eq] at hn
  exact ⟨by rw [h, mq_up_n hn.1]; exact hv.1, hv.2.1.up h (Ne.symm hn.2.1) (Ne.symm hn.2.2.1), hv.2.2.up h (Ne.symm hn.2.2.2.1) (Ne.symm hn.2.2.2.2)⟩
theorem voI.up {G : mq_G} {M M1 : mq_M} {x ch b a t : Nat} {h : Bool} {d : List Nat} {vd : Int} {e : va_E} (hv : voI G M x ch b a h d vd) (h1 : M1 = mq_up M t e) (hn : ∀ z ∈ [x, b, a], z ≠ t) : voI G M1 x ch b a h d vd := by
  simp only [List.mem_cons, List.not_mem_nil, or_false, forall_eq_or_imp, forall_eq] at hn
  exact ⟨by rw [h1, mq_up_n hn.1]; exact hv.1, hv.2.up h1 (Ne.symm hn.2.1) (Ne.symm hn.2.2)⟩
theorem ffI.up {G : mq_G} {M M1 : mq_M} {x b a t : Nat} {c : List Nat} {key pl tl : Int} {gd : Bool} {e : va_E} (hv : ffI G M x b a c key pl tl gd) (h1 : M1 = mq_up M t e) (hn : ∀ z ∈ [x, b, a], z ≠ t) : ffI G M1 x b a c key pl tl gd := by
  simp only [List.mem_cons, List.not_mem_nil, or_false, forall_eq_or_imp, forall_eq] at hn
  exact ⟨by rw [h1, mq_up_n hn.1]; exact hv.1, hv.2.up h1 (Ne.symm hn.2.1) (Ne.symm hn.2.2)⟩
theorem iq_g.base {x : Nat} {M M2 : mq_M} {qs : List Nat} (hx : M x ≠ none) (h : ∀ q ∈ qs, M q = none ∧ M2 q ≠ none) (hN : qs.Nodup) (h4 : ∀ z, M z ≠ none → M2 z ≠ none) : iq_g M M2 (iq_gl (fun _ => 0) 0 qs) qs.length := (iq_g.z (M := M) (M3 := M)).add (x := x) (fun _ _ _ => rfl) hx h hN rfl h4 (by omega)
theorem iq_K.nn {x : Nat} {M M1 : mq_M} (h : iq_K x M M1) (hx : M1 x ≠ none) {z : Nat} (hz : M z ≠ none) : M1 z ≠ none := by
  by_cases hc : z = x
  · rw [hc]; exact hx
  · rw [h z hz hc]; exact hz
theorem iq_Z.nn {M M1 : mq_M} (h : iq_Z M M1) {z : Nat} (hz : M z ≠ none) : M1 z ≠ none := by rw [h z hz]; exact hz
theorem iq_g.ne {M M1 : mq_M} {g : Nat → Nat} {n r t : Nat} (h : iq_g M M1 g n) (hr : r < n) (ht : t < n) (hne : r ≠ t) : g r ≠ g t := fun hc => hne (h.2 r t hr ht hc)
theorem iq_g.nx {M M1 : mq_M} {g : Nat → Nat} {n r x : Nat} (h : iq_g M M1 g n) (hr : r < n) (hx : M x ≠ none) : g r ≠ x := fun hc => hx (by rw [← hc]; exact (h.1 r hr).1)
