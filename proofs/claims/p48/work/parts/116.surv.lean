/-! ===== what a survey finds ===== -/
def svK (nu : Nat → Int) : Nat → Int
  | 0 => 0
  | v + 1 => svK nu v + (if 0 ≤ nu v then 1 else 0)
theorem svK_eq {nu nu2 : Nat → Int} : ∀ i, (∀ v, v < i → nu v = nu2 v) → svK nu i = svK nu2 i
  | 0, _ => rfl
  | i + 1, hh => by
    unfold svK
    rw [svK_eq i (fun v hv => hh v (by omega)), hh i (by omega)]
theorem svU_s {f : Nat → Int} {k : Nat} {v : Int} : svU f k v k = v := by simp [svU]
theorem svU_n {f : Nat → Int} {k j : Nat} {v : Int} (h : j ≠ k) : svU f k v j = f j := by simp [svU, h]
def svP (h : Nat → Bool) (d : Nat → List Nat) (i : Nat) (s : svT) : Prop :=
  (∀ v, 0 ≤ s.2.2.1 v → v < i ∧ vWhl (h v) (d v) = true ∧ s.2.2.1 v = (mq_gd (d v) 1 : Int) ∧ s.2.2.2 (mq_gd (d v) 1) = (v : Int) ∧ 0 ≤ s.1 ∧ vOne (d v) (d s.1.toNat) = true) ∧
  (∀ q, 0 ≤ s.2.2.2 q → s.2.2.1 (s.2.2.2 q).toNat = (q : Int)) ∧
  s.2.1 = svK s.2.2.1 i ∧
  ((0 ≤ s.1 → s.1 < (i : Int) ∧ vWhl (h s.1.toNat) (d s.1.toNat) = true ∧ ∀ v : Nat, (v : Int) < s.1 → vWhl (h v) (d v) = false) ∧ (s.1 < 0 → s.1 = -1 ∧ ∀ v, v < i → vWhl (h v) (d v) = false))
theorem svP_see {h : Nat → Bool} {d : Nat → List Nat} {i : Nat} {s : svT} (hs : svP h d i s) (hw : vWhl (h i) (d i) = true) : svP h d (i + 1) (svSee d i s) := by
  obtain ⟨p1, p2, p3, p4, p5⟩ := hs
  obtain ⟨ld, mb, nu, ho⟩ := s
  dsimp only at p1 p2 p3 p4 p5
  -- the leader behind it
  obtain ⟨k, hk⟩ : ∃ k : Nat, (if ld < 0 then (i : Int) else ld) = (k : Int) := by
    by_cases h0 : ld < 0
    · exact ⟨i, if_pos h0⟩
    · exact ⟨ld.toNat, by rw [if_neg h0]; omega⟩
  have hkl : 0 ≤ ld → ld = (k : Int) := fun h0 => by rw [if_neg (by omega)] at hk; exact hk
  have q4 : ((k : Int) < ((i + 1 : Nat) : Int) ∧ vWhl (h k) (d k) = true ∧ ∀ v : Nat, (v : Int) < (k : Int) → vWhl (h v) (d v) = false) := by
    by_cases h0 : ld < 0
    · rw [if_pos h0] at hk
      have hik : i = k := by omega
      subst hik
      exact ⟨by omega, hw, fun v hv => (p5 h0).2 v (by omega)⟩
    · have h1 := p4 (by omega)
      have h2 := hkl (by omega)
      rw [h2, Int.toNat_natCast] at h1
      exact ⟨by omega, h1.2.1, h1.2.2⟩
  have hni : nu i < 0 := by
    by_cases hc : 0 ≤ nu i
    · have := (p1 i hc).1; omega
    · omega
  by_cases hc : vOne (d i) (d k) = true ∧ ho (mq_gd (d i) 1) < 0
  · rw [svSee_yes (s := (ld, mb, nu, ho)) hk hc]
    refine ⟨fun v hv => ?_, fun q hq => ?_, ?_, fun _ => ?_, fun hq => ?_⟩
    · dsimp only at hv ⊢
      by_cases hvi : v = i
      · subst hvi
        rw [svU_s, svU_s]
        exact ⟨by omega, hw, rfl, rfl, by omega, by rw [Int.toNat_natCast]; exact hc.1⟩
      · rw [svU_n hvi] at hv ⊢
        obtain ⟨a1, a2, a3, a4, a5, a6⟩ := p1 v hv
        refine ⟨by omega, a2, a3, ?_, by omega, ?_⟩
        · rw [svU_n (fun he => by rw [he] at a4; have := hc.2; omega)]; exact a4
        · rw [hkl a5] at a6; exact a6
    · dsimp only at hq ⊢
      by_cases hqi : q = mq_gd (d i) 1
      · subst hqi
        rw [svU_s, Int.toNat_natCast, svU_s]
      · rw [svU_n hqi] at hq ⊢
        have := p2 q hq
        rw [svU_n (fun he => by rw [he] at this; omega)]
        exact this
    · dsimp only
      unfold svK
      rw [svU_s, if_pos (by omega), p3, svK_eq i (fun v hv => (svU_n (show v ≠ i by omega)).symm)]
    · dsimp only at *
      rw [Int.toNat_natCast]; exact q4
    · dsimp only at hq; omega
  · rw [svSee_no (s := (ld, mb, nu, ho)) hk hc]
    refine ⟨fun v hv => ?_, p2, ?_, fun _ => ?_, fun hq => ?_⟩
    · dsimp only at hv ⊢
      obtain ⟨a1, a2, a3, a4, a5, a6⟩ := p1 v hv
      rw [hkl a5] at a6
      exact ⟨by omega, a2, a3, a4, by omega, a6⟩
    · dsimp only
      unfold svK
      rw [if_neg (by omega), p3]; omega
    · dsimp only
      rw [Int.toNat_natCast]; exact q4
    · dsimp only at hq; omega
theorem svP_S (h : Nat → Bool) (d : Nat → List Nat) : ∀ i, svP h d i (svS h d i)
  | 0 => by
    refine ⟨fun v hv => ?_, fun q hq => ?_, rfl, fun hq => ?_, fun _ => ⟨rfl, fun v hv => by omega⟩⟩
    · change (0 : Int) ≤ -1 at hv; omega
    · change (0 : Int) ≤ -1 at hq; omega
    · change (0 : Int) ≤ -1 at hq; omega
  | i + 1 => by
    have ih := svP_S h d i
    have e1 : svS h d (i + 1) = if vWhl (h i) (d i) = true then svSee d i (svS h d i) else svS h d i := rfl
    rw [e1]
    by_cases hw : vWhl (h i) (d i) = true
    · rw [if_pos hw]; exact svP_see ih hw
    · rw [if_neg hw]
      obtain ⟨p1, p2, p3, p4, p5⟩ := ih
      refine ⟨fun v hv => ?_, p2, ?_, fun hq => ?_, fun hq => ?_⟩
      · have := p1 v hv
        exact ⟨by omega, this.2⟩
      · rw [p3]
        show svK (svS h d i).2.2.1 i = svK (svS h d i).2.2.1 i + (if 0 ≤ (svS h d i).2.2.1 i then 1 else 0)
        rw [if_neg (fun hc => by have := (p1 i hc).1; omega)]; omega
      · have := p4 hq
        exact ⟨by omega, this.2⟩
      · have := p5 hq
        refine ⟨this.1, fun v hv => ?_⟩
        by_cases hvi : v = i
        · rw [hvi]; exact Bool.eq_false_iff.mpr hw
        · exact this.2 v (by omega)
