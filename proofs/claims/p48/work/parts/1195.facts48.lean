/-! ===== p48: bits of ints ===== -/
theorem zI_s31 : ∀ q : Nat, q < 32 → ((zI (q : Int) &&& 31).toBitVec.smod 32).toNat = q := by decide +kernel
theorem zI_shrN {a q : Nat} (ha : a < 2147483648) (hq : q < 32) : zI (a : Int) >>> (zI (q : Int) &&& 31) = zI ((a / 2 ^ q : Nat) : Int) := pk_shrN (n := a) (by omega) (zI (q : Int) &&& 31) q (zI_s31 q hq)
theorem zI_shlN {a q : Nat} (hq : q < 32) (ha : a * 2 ^ q < 4294967296) : zI (a : Int) <<< (zI (q : Int) &&& 31) = zI ((a * 2 ^ q : Nat) : Int) := pk_shlN (n := a) (zI (q : Int) &&& 31) q (zI_s31 q hq) ha
theorem zI_orN {a b : Nat} (ha : a < 2147483648) (hb : b < 2147483648) : zI (a : Int) ||| zI (b : Int) = zI ((a ||| b : Nat) : Int) := by
  have h1 : a ||| b < 2 ^ 31 := Nat.or_lt_two_pow (by omega) (by omega)
  refine Int32.toBitVec_inj.mp (BitVec.eq_of_toNat_eq ?_)
  rw [Int32.toBitVec_or, BitVec.toNat_or, zI_tn ⟨by omega, by omega⟩, zI_tn ⟨by omega, by omega⟩, zI_tn ⟨by omega, by omega⟩]
  rfl
theorem zI_and1 {a : Nat} (ha : a < 2147483648) : zI (a : Int) &&& zI 1 = zI ((a % 2 : Nat) : Int) := by
  rw [zI_and ⟨by omega, by omega⟩ (by decide)]
  exact congrArg (fun k : Nat => zI (k : Int)) (Nat.and_two_pow_sub_one_eq_mod a 1)
/-! ===== p48: what the law counts over the places, from the last down ===== -/
theorem lv_bit {met q : Nat} : met / 2 ^ q % 2 = 1 ↔ met.testBit q = true := by
  rw [Nat.testBit_eq_decide_div_mod_eq, decide_eq_true_eq]
def lvM (nu : Nat → Int) (i met : Nat) : Prop := met < 65536 ∧ ∀ q, q < 16 → (met.testBit q = true ↔ ∃ j, i ≤ j ∧ j < 16 ∧ nu j = (q : Int))
theorem lvM.z {nu : Nat → Int} : lvM nu 16 0 := ⟨by decide, fun q _ => ⟨fun h => by simp at h, fun ⟨j, h1, h2, _⟩ => by omega⟩⟩
theorem lvM.no {nu : Nat → Int} {i met : Nat} (h : lvM nu (i + 1) met) (hn : nu i < 0) : lvM nu i met := by
  refine ⟨h.1, fun q hq => (h.2 q hq).trans ⟨fun ⟨j, a, b, c⟩ => ⟨j, by omega, b, c⟩, fun ⟨j, a, b, c⟩ => ⟨j, ?_, b, c⟩⟩⟩
  by_cases hj : j = i
  · rw [hj] at c; omega
  · omega
theorem lvM.yes {nu : Nat → Int} {i met q : Nat} (h : lvM nu (i + 1) met) (hi : i < 16) (hn : nu i = (q : Int)) (hq : q < 16) : lvM nu i (met ||| 2 ^ q) := by
  refine ⟨Nat.or_lt_two_pow (n := 16) h.1 (Nat.pow_lt_pow_right (by decide) hq), fun t ht => ?_⟩
  rw [Nat.testBit_or, Nat.testBit_two_pow, Bool.or_eq_true, decide_eq_true_eq, h.2 t ht]
  constructor
  · rintro (⟨j, a, b, c⟩ | e)
    · exact ⟨j, by omega, b, c⟩
    · exact ⟨i, Nat.le_refl _, hi, by rw [hn, e]⟩
  · rintro ⟨j, a, b, c⟩
    by_cases hj : j = i
    · rw [hj] at c
      exact Or.inr (by omega)
    · exact Or.inl ⟨j, by omega, b, c⟩
theorem lv_nodup {h : Nat → Bool} {d : Nat → List Nat} {s : svT} {i met q : Nat} (hS : svP h d 16 s) (hm : lvM s.2.2.1 (i + 1) met) (hq : q < 16) (hn : s.2.2.1 i = (q : Int)) : met / 2 ^ q % 2 = 0 := by
  have h2 : ¬ met / 2 ^ q % 2 = 1 := by
    rw [lv_bit, hm.2 q hq]
    rintro ⟨j, a, b, c⟩
    obtain ⟨-, -, e1, e2, -⟩ := hS.1 i (by rw [hn]; omega)
    obtain ⟨-, -, f1, f2, -⟩ := hS.1 j (by rw [c]; omega)
    have g1 : mq_gd (d i) 1 = q := by omega
    have g2 : mq_gd (d j) 1 = q := by omega
    rw [g1] at e2
    rw [g2] at f2
    omega
  omega
theorem lv_ho {h : Nat → Bool} {d : Nat → List Nat} {s : svT} {met q : Nat} (hS : svP h d 16 s) (hm : lvM s.2.2.1 0 met) (hq : q < 16) : met / 2 ^ q % 2 = 1 ↔ 0 ≤ s.2.2.2 q := by
  rw [lv_bit, hm.2 q hq]
  constructor
  · rintro ⟨j, -, b, c⟩
    obtain ⟨-, -, e1, e2, -⟩ := hS.1 j (by rw [c]; omega)
    have g1 : mq_gd (d j) 1 = q := by omega
    rw [g1] at e2
    omega
  · intro h0
    have e := hS.2.1 q h0
    exact ⟨(s.2.2.2 q).toNat, Nat.zero_le _, (hS.1 _ (by rw [e]; omega)).1, e⟩
/-- the first that is sound, of the places from i on -/
def lvF (h : Nat → Bool) (d : Nat → List Nat) (i : Nat) (f : Int) : Prop := (f = -1 ∧ ∀ j, i ≤ j → j < 16 → vWhl (h j) (d j) = false) ∨ ∃ k : Nat, f = (k : Int) ∧ i ≤ k ∧ k < 16 ∧ vWhl (h k) (d k) = true ∧ ∀ j, i ≤ j → j < k → vWhl (h j) (d j) = false
theorem lvF.z {h : Nat → Bool} {d : Nat → List Nat} : lvF h d 16 (-1) := Or.inl ⟨rfl, fun j a b => by omega⟩
theorem lvF.yes {h : Nat → Bool} {d : Nat → List Nat} {i : Nat} (hi : i < 16) (hw : vWhl (h i) (d i) = true) : lvF h d i (i : Int) := Or.inr ⟨i, rfl, Nat.le_refl _, hi, hw, fun j a b => by omega⟩
theorem lvF.no {h : Nat → Bool} {d : Nat → List Nat} {i : Nat} {f : Int} (hf : lvF h d (i + 1) f) (hw : vWhl (h i) (d i) = false) : lvF h d i f := by
  have go : ∀ j, i ≤ j → (i + 1 ≤ j → vWhl (h j) (d j) = false) → vWhl (h j) (d j) = false := fun j a b => by
    by_cases hj : j = i
    · rw [hj]; exact hw
    · exact b (by omega)
  rcases hf with ⟨e, ha⟩ | ⟨k, e, hk, hk2, hw2, hb⟩
  · exact Or.inl ⟨e, fun j a b => go j a (fun c => ha j c b)⟩
  · exact Or.inr ⟨k, e, by omega, hk2, hw2, fun j a b => go j a (fun c => hb j c b)⟩
theorem lvF.fin {h : Nat → Bool} {d : Nat → List Nat} {f : Int} {s : svT} (hf : lvF h d 0 f) (hS : svP h d 16 s) : s.1 = f := by
  obtain ⟨-, -, -, p4, p5⟩ := hS
  rcases hf with ⟨rfl, ha⟩ | ⟨k, rfl, -, hk, hw, hb⟩
  · by_cases h0 : 0 ≤ s.1
    · obtain ⟨a, b, c⟩ := p4 h0
      have e := ha s.1.toNat (Nat.zero_le _) (by omega)
      rw [b] at e; cases e
    · exact (p5 (by omega)).1
  · by_cases h0 : 0 ≤ s.1
    · obtain ⟨a, b, c⟩ := p4 h0
      by_cases h1 : (k : Int) < s.1
      · have e := c k h1
        rw [hw] at e; cases e
      · by_cases h2 : s.1 < (k : Int)
        · have e := hb s.1.toNat (Nat.zero_le _) (by omega)
          rw [b] at e; cases e
        · omega
    · have e := (p5 (by omega)).2 k hk
      rw [hw] at e; cases e
theorem vOne_by {a b : List Nat} (h : vOne a b = true) (ha : ∀ x ∈ a, x < 256) (hb : ∀ x ∈ b, x < 256) (k : Nat) (h0 : 2 ≤ k) (h1 : k < 8) : mq_gd a (k : Int) = mq_gd b (k : Int) := by
  unfold vOne at h
  rw [decide_eq_true_eq] at h
  obtain ⟨h2, h3, h4, h6⟩ := h
  have e4 : mq_gd a 4 * 256 + mq_gd a 5 = mq_gd b 4 * 256 + mq_gd b 5 := h4
  have e6 : mq_gd a 6 * 256 + mq_gd a 7 = mq_gd b 6 * 256 + mq_gd b 7 := h6
  have a5 := mq_gd_lt ha 5
  have b5 := mq_gd_lt hb 5
  have a7 := mq_gd_lt ha 7
  have b7 := mq_gd_lt hb 7
  rcases (show k = 2 ∨ k = 3 ∨ k = 4 ∨ k = 5 ∨ k = 6 ∨ k = 7 by omega) with rfl | rfl | rfl | rfl | rfl | rfl
  · exact h2
  · exact h3
  · exact (show mq_gd a 4 = mq_gd b 4 by omega)
  · exact (show mq_gd a 5 = mq_gd b 5 by omega)
  · exact (show mq_gd a 6 = mq_gd b 6 by omega)
  · exact (show mq_gd a 7 = mq_gd b 7 by omega)
theorem vWhl_nums {h : Bool} {d : List Nat} (hw : vWhl h d = true) : h = true ∧ 10 ≤ d.length ∧ (1 ≤ mq_gd d 2 ∧ mq_gd d 2 ≤ 10 ∧ mq_gd d 3 ≤ 6) ∧ mq_gd d 1 < 16 ∧ d.length = 10 + bdS (mq_wd d 6) (mq_gd d 2) := by
  unfold vWhl vFits at hw
  simp only [Bool.and_eq_true, decide_eq_true_eq] at hw
  obtain ⟨⟨h1, h2, -, h4, h5, h6, h7, h8, h9⟩, -⟩ := hw
  exact ⟨h1, h2, ⟨h4, h5, h6⟩, by omega, by rw [← h9]; exact h8⟩
theorem rdG_some {S : List Nat} {k : Nat} {c : List Nat} (h : rdG S k = some c) : 0 ≤ rdP S k ∧ rdP S k + 8 ≤ (S.length : Int) ∧ mq_gd S (rdP S k) = 69 ∧ (mq_wd S (rdP S k + 2) : Int) = rdK S k ∧ crF 65535 c = mq_wd S (rdP S k + 6) := by
  unfold rdG rdW at h
  split at h
  · rename_i hc
    obtain ⟨h1, h2⟩ := hc
    unfold rdLies at h1
    rw [decide_eq_true_eq] at h1
    cases hC : rdC S (rdP S k) with
    | none =>
      rw [hC] at h
      exact absurd h (by simp)
    | some c2 =>
      rw [hC, Option.bind_some] at h
      split at h
      · rename_i h3
        cases h
        exact ⟨h1.1, h1.2.1, h1.2.2.1, h2, h3.2⟩
      · cases h
  · cases h
/-- how many of the first files are good -/
def lgC (fg : Nat → Bool) : Nat → Nat
  | 0 => 0
  | i + 1 => lgC fg i + (if fg i = true then 1 else 0)
theorem lgC_le (fg : Nat → Bool) : ∀ i, lgC fg i ≤ i
  | 0 => Nat.le_refl _
  | i + 1 => by
    have := lgC_le fg i
    unfold lgC
    split <;> omega
theorem lgC_eq {fg fg2 : Nat → Bool} : ∀ i, (∀ j, j < i → fg j = fg2 j) → lgC fg i = lgC fg2 i
  | 0, _ => rfl
  | i + 1, h => by
    unfold lgC
    rw [lgC_eq i (fun j hj => h j (by omega)), h i (by omega)]
theorem svK_rng (nu : Nat → Int) : ∀ i, 0 ≤ svK nu i ∧ svK nu i ≤ (i : Int)
  | 0 => by unfold svK; omega
  | i + 1 => by
    have := svK_rng nu i
    unfold svK
    split <;> omega
