/-! ===== p1: the reference: its cells, its numbers ===== -/
theorem zI_shl1 {a : Nat} (h : a < 1000000) : zI (a : Int) <<< (zI 1 &&& 31) = zI ((a * 2 : Nat) : Int) := by
  rw [zI_nat, zI_nat, pk_shlN (n := a) (zI 1 &&& 31) 1 (by decide +kernel) (by omega)]
theorem zI_shl8 {a : Nat} (h : a < 1000000) : zI (a : Int) <<< (zI 8 &&& 31) = zI ((a * 256 : Nat) : Int) := by
  rw [zI_nat, zI_nat, pk_shlN (n := a) (zI 8 &&& 31) 8 (by decide +kernel) (by omega)]
theorem zI_shr1 {a : Nat} (h : a < 1000000) : zI (a : Int) >>> (zI 1 &&& 31) = zI ((a / 2 : Nat) : Int) := by
  rw [zI_nat, zI_nat, pk_shrN (n := a) (by omega) (zI 1 &&& 31) 1 (by decide +kernel)]
theorem zI_shr8 {a : Nat} (h : a < 1000000) : zI (a : Int) >>> (zI 8 &&& 31) = zI ((a / 256 : Nat) : Int) := by
  rw [zI_nat, zI_nat, pk_shrN (n := a) (by omega) (zI 8 &&& 31) 8 (by decide +kernel)]
theorem zI_and1 {a : Nat} (ha : a < 2147483648) : zI (a : Int) &&& zI 1 = zI ((a % 2 : Nat) : Int) := by
  rw [zI_and ⟨by omega, by omega⟩ (by decide)]
  congr 1
  show ((a &&& 1 : Nat) : Int) = _
  rw [Nat.and_one_is_mod]
/-- products by shifts -/
def tmG : Nat → Nat → Nat → Nat → Nat
  | 0, s, _, _ => s
  | f + 1, s, sh, r => if r = 0 then s else tmG f (if r % 2 = 1 then s ^^^ sh else s) (fe2 sh) (r / 2)
theorem tmG_0 : ∀ (n s sh : Nat), tmG n s sh 0 = s
  | 0, _, _ => rfl
  | _ + 1, _, _ => rfl
def tmF (a b : Nat) : Nat := tmG 8 0 a b
theorem fe2_lt {x : Nat} (h : x < 256) : fe2 x < 256 := by
  have : ∀ x, x < 256 → fe2 x < 256 := by decide +kernel
  exact this x h
theorem tm_one : ∀ b, b < 256 → tmF 1 b = b := by decide +kernel
theorem tm_zero : ∀ b, b < 256 → tmF 0 b = 0 := by decide +kernel
theorem fe2_xor {x y : Nat} (hx : x < 256) (hy : y < 256) : fe2 (x ^^^ y) = fe2 x ^^^ fe2 y := by
  have hf : ∀ x, x < 256 → fe2 x = (x <<< 1) ^^^ (if x.testBit 7 then 285 else 0) := by decide +kernel
  rw [hf _ (Nat.xor_lt_two_pow (n := 8) hx hy), hf x hx, hf y hy, Nat.shiftLeft_xor_distrib, Nat.testBit_xor]
  generalize x <<< 1 = a
  generalize y <<< 1 = b
  cases x.testBit 7 <;> cases y.testBit 7
  · simp
  · show a ^^^ b ^^^ 285 = a ^^^ 0 ^^^ (b ^^^ 285)
    rw [Nat.xor_zero, Nat.xor_assoc]
  · show a ^^^ b ^^^ 285 = a ^^^ 285 ^^^ (b ^^^ 0)
    rw [Nat.xor_zero, Nat.xor_assoc, Nat.xor_assoc, Nat.xor_comm b]
  · show a ^^^ b ^^^ 0 = a ^^^ 285 ^^^ (b ^^^ 285)
    rw [Nat.xor_zero, Nat.xor_comm b 285, Nat.xor_assoc a, ← Nat.xor_assoc 285, Nat.xor_self, Nat.zero_xor]
theorem tm_lin : ∀ (f s sh r : Nat), s < 256 → sh < 256 → fe2 (tmG f s sh r) = tmG f (fe2 s) (fe2 sh) r
  | 0, _, _, _, _, _ => rfl
  | f + 1, s, sh, r, hs, hh => by
    unfold tmG
    by_cases h : r = 0
    · rw [if_pos h, if_pos h]
    · rw [if_neg h, if_neg h]
      have hs' : (if r % 2 = 1 then s ^^^ sh else s) < 256 := by
        split
        · exact Nat.xor_lt_two_pow (n := 8) hs hh
        · exact hs
      rw [tm_lin f _ _ _ hs' (fe2_lt hh)]
      congr 1
      split
      · exact fe2_xor hs hh
      · rfl
theorem tm_fe2 (a : Nat) (ha : a < 256) (b : Nat) (_ : b < 256) : tmF (fe2 a) b = fe2 (tmF a b) := (tm_lin 8 0 a b (by decide) ha).symm
theorem tm_fE (j : Nat) (hj : j < 255) : ∀ i, i < 255 → tmF (fE i) (fE j) = fE ((i + j) % 255)
  | 0, _ => by
    rw [show fE 0 = 1 from rfl, tm_one _ (fE_lt j hj), Nat.zero_add, Nat.mod_eq_of_lt hj]
  | i + 1, hi => by
    show tmF (fe2 (fE i)) (fE j) = _
    rw [tm_fe2 _ (fE_lt i (by omega)) _ (fE_lt j hj), tm_fE j hj i (by omega), fE_next, show i + j + 1 = i + 1 + j by omega]
theorem tm_gf {a b : Nat} (ha : a < 256) (hb : b < 256) : tmF a b = gfM a b := by
  unfold gfM
  by_cases h0 : a = 0
  · rw [if_pos (Or.inl h0), h0]; exact tm_zero b hb
  · by_cases h1 : b = 0
    · rw [if_pos (Or.inr h1), h1]
      have : ∀ a, a < 256 → tmF a 0 = 0 := by decide +kernel
      exact this a ha
    · rw [if_neg (by omega)]
      have e := tm_fE (fL b) (fL_lt b hb) (fL a) (fL_lt a ha)
      rw [fE_fL a ha h0, fE_fL b hb h1] at e
      exact e
theorem gfI_prod : ∀ a, a < 256 → a ≠ 0 → gfI a ≠ 0 ∧ gfM a (gfI a) = 1 := by decide +kernel
theorem gfI_first : ∀ a, a < 256 → a ≠ 0 → ∀ b, b < 256 → gfM a b = 1 → b = gfI a := by
  intro a ha h0 b hb h
  have hb0 : b ≠ 0 := fun e => by rw [e] at h; simp [gfM] at h
  unfold gfM at h
  rw [if_neg (by omega)] at h
  have h2 : ∀ k, k < 255 → fE k = 1 → k = 0 := by decide +kernel
  have h3 := h2 _ (Nat.mod_lt _ (by decide)) h
  have la := fL_lt a ha
  have lb := fL_lt b hb
  unfold gfI
  rw [if_neg h0, show (255 - fL a) % 255 = fL b by omega, fE_fL b hb hb0]
/-- a power by multiplying -/
def pwF (a : Nat) : Nat → Nat
  | 0 => 1
  | n + 1 => gfM (pwF a n) a
theorem pwF_lt (a : Nat) (n : Nat) : pwF a n < 256 := by
  cases n with
  | zero => show 1 < 256; decide
  | succ n => exact gfM_lt _ _
theorem pwF_gf {a : Nat} (ha : a < 256) : ∀ n, pwF a n = gfR a n
  | 0 => rfl
  | n + 1 => by
    show gfM (pwF a n) a = _
    rw [pwF_gf ha n]
    unfold gfR gfM
    rw [if_neg (show ¬ n + 1 = 0 by omega)]
    by_cases h0 : a = 0
    · rw [if_pos (Or.inr h0), if_pos h0]
    · rw [if_neg h0]
      by_cases hn : n = 0
      · subst hn
        rw [if_pos rfl]
        have h1 : fL 1 = 0 := by decide +kernel
        rw [if_neg (by omega), h1, Nat.zero_add, Nat.mul_one, if_neg h0]
      · rw [if_neg hn, if_neg h0]
        have hk : fL a * n % 255 < 255 := Nat.mod_lt _ (by decide)
        have hne := fE_ne _ hk
        rw [if_neg (by omega), fL_fE _ hk, Nat.mul_succ]
        congr 1
        omega
/-- the fields of the reference on a new object, but the first -/
def mYt (Mb : Nat → Nat) : List Value := [.ref (Mb 1), .int (zI 0), .int (zI 0), .ref (Mb 2), .ref (Mb 3), .ref (Mb 4), .ref (Mb 5), .ref (Mb 6), .int (zI 0), .int (zI 0), .int (zI 0), .ref (Mb 7), .int (zI 0), .int (zI 0), .ref (Mb 8), .ref (Mb 9), .ref (Mb 10), .ref (Mb 11), .ref (Mb 12), .ref (Mb 13), .ref (Mb 14), .ref (Mb 15), .int (zI 0), .int (zI 0)]
/-- the places that have a cell -/
def mbU (i : Nat) : Bool := decide (i < 16) || (i == 20 || i == 39)
def mb_inj (Mb : Nat → Nat) : Prop := ∀ i j : Nat, mbU i = true → mbU j = true → Mb i = Mb j → i = j
theorem mb_ne {Mb : Nat → Nat} (h : mb_inj Mb) {i j : Nat} (hi : mbU i = true) (hj : mbU j = true) (hij : i ≠ j) : Mb i ≠ Mb j := fun e => hij (h i j hi hj e)
/-- the reference on a new object; 'thrown' is t; at Mb 39 something else of the law's -/
def mdI (G : mq_G) (M : mq_M) (Mb : Nat → Nat) (t : Int) : Prop :=
  M (Mb 0) = some (.inr (11, .int (zI t) :: mYt Mb)) ∧
  (∃ f : Nat → Int32, M (Mb 1) = some (.inl (G.2.1, 240, .inl f))) ∧ (∃ f : Nat → Int32, M (Mb 2) = some (.inl (G.2.1, 17, .inl f))) ∧ (∃ f : Nat → Int32, M (Mb 3) = some (.inl (G.2.1, 17, .inl f))) ∧
  (∃ f : Nat → Option Nat, M (Mb 4) = some (.inl (gA G, 17, .inr (.inr (.inr (.inr f))))) ∧ f 0 = some (Mb 20)) ∧
  (∃ f : Nat → Option Nat, M (Mb 5) = some (.inl (gA G, 16, .inr (.inr (.inr (.inr f))))) ∧ ∀ i, i < 16 → f i = none) ∧
  (∃ f : Nat → Int32, M (Mb 6) = some (.inl (G.2.1, 16, .inl f)) ∧ ∀ i, i < 16 → f i = zI (-1)) ∧
  (∃ f : Nat → Int32, M (Mb 14) = some (.inl (gZ G, 16, .inl f))) ∧ (∃ f : Nat → Int32, M (Mb 15) = some (.inl (G.2.1, 16, .inl f))) ∧ ∃ f : Nat → Int32, M (Mb 20) = some (.inl (G.2.1, 240, .inl f))
theorem mdI.fr {G : mq_G} {M M' : mq_M} {Mb : Nat → Nat} {t : Int} (h : mdI G M Mb t) (hF : ∀ i, i < 21 → M' (Mb i) = M (Mb i)) : mdI G M' Mb t := by
  unfold mdI
  rw [hF 0 (by decide), hF 1 (by decide), hF 2 (by decide), hF 3 (by decide), hF 4 (by decide), hF 5 (by decide), hF 6 (by decide), hF 14 (by decide), hF 15 (by decide), hF 20 (by decide)]
  exact h
theorem mdI.th {G : mq_G} {M M' : mq_M} {Mb : Nat → Nat} {t k : Int} (hb : mb_inj Mb) (h : mdI G M Mb t) (hM : M' = mq_up M (Mb 0) (.inr (11, .int (zI k) :: mYt Mb))) : mdI G M' Mb k := by
  obtain ⟨h0, h1⟩ := h
  have e : ∀ i, mbU i = true → i ≠ 0 → M' (Mb i) = M (Mb i) := fun i hi h9 => by rw [hM, mq_up_n (mb_ne hb hi (by decide) h9)]
  unfold mdI
  rw [e 1 (by decide) (by decide), e 2 (by decide) (by decide), e 3 (by decide) (by decide), e 4 (by decide) (by decide), e 5 (by decide) (by decide), e 6 (by decide) (by decide), e 14 (by decide) (by decide), e 15 (by decide) (by decide), e 20 (by decide) (by decide)]
  exact ⟨by rw [hM, mq_up_s], h1⟩
/-- behind a call: 'thrown' is t, what is the law's stands -/
def mdQ (M M2 : mq_M) (Mb : Nat → Nat) (t : Int) : Prop := (∃ vs, M2 (Mb 0) = some (.inr (11, .int (zI t) :: vs))) ∧ M2 (Mb 39) = M (Mb 39)
theorem mdQ.of {G : mq_G} {M M2 : mq_M} {Mb : Nat → Nat} {t : Int} (h : mdI G M2 Mb t) (h2 : M2 (Mb 39) = M (Mb 39)) : mdQ M M2 Mb t := ⟨⟨_, h.1⟩, h2⟩
/-- a contract's end: k tells what is thrown, v what is answered -/
def mdR (M : mq_M) (Mb : Nat → Nat) (k v : Int) : Option Value → mq_M → Prop := mq_pi (fun r M2 => (k = 0 → r = v) ∧ mdQ M M2 Mb k)
