/-! ===== bits, the check's arithmetic ===== -/
theorem zI_tn {a : Int} (h : 0 ≤ a ∧ a < 2147483648) : (zI a).toBitVec.toNat = a.toNat := by
  obtain ⟨x, rfl⟩ := Int.eq_ofNat_of_zero_le h.1
  exact pk_tn (by omega)
theorem zI_xor {a b : Int} (ha : 0 ≤ a ∧ a < 2147483648) (hb : 0 ≤ b ∧ b < 2147483648) : zI a ^^^ zI b = zI ((a.toNat ^^^ b.toNat : Nat) : Int) := by
  have h1 : a.toNat ^^^ b.toNat < 2 ^ 31 := Nat.xor_lt_two_pow (by omega) (by omega)
  refine Int32.toBitVec_inj.mp (BitVec.eq_of_toNat_eq ?_)
  rw [Int32.toBitVec_xor, BitVec.toNat_xor, zI_tn ha, zI_tn hb, zI_tn ⟨by omega, by omega⟩]
  rfl
theorem zI_and {a b : Int} (ha : 0 ≤ a ∧ a < 2147483648) (hb : 0 ≤ b ∧ b < 2147483648) : zI a &&& zI b = zI ((a.toNat &&& b.toNat : Nat) : Int) := by
  have h1 : a.toNat &&& b.toNat ≤ a.toNat := Nat.and_le_left
  refine Int32.toBitVec_inj.mp (BitVec.eq_of_toNat_eq ?_)
  rw [Int32.toBitVec_and, BitVec.toNat_and, zI_tn ha, zI_tn hb, zI_tn ⟨by omega, by omega⟩]
  rfl
theorem zI_and255 {a : Nat} (ha : a < 2147483648) : zI (a : Int) &&& zI 255 = zI ((a % 256 : Nat) : Int) := by
  rw [zI_and ⟨by omega, by omega⟩ (by decide)]
  exact congrArg (fun k : Nat => zI (k : Int)) (Nat.and_two_pow_sub_one_eq_mod a 8)
theorem zI_and65535 {a : Nat} (ha : a < 2147483648) : zI (a : Int) &&& zI 65535 = zI ((a % 65536 : Nat) : Int) := by
  rw [zI_and ⟨by omega, by omega⟩ (by decide)]
  exact congrArg (fun k : Nat => zI (k : Int)) (Nat.and_two_pow_sub_one_eq_mod a 16)
theorem zI_xorN {a b : Nat} (ha : a < 2147483648) (hb : b < 2147483648) : zI (a : Int) ^^^ zI (b : Int) = zI ((a ^^^ b : Nat) : Int) := zI_xor ⟨by omega, by omega⟩ ⟨by omega, by omega⟩
def cr1 (c : Nat) : Nat := if c * 2 < 65536 then c * 2 else (c * 2 - 65536) ^^^ 4129
theorem cr1_lt {c : Nat} (h : c < 65536) : cr1 c < 65536 := by
  unfold cr1
  split
  · assumption
  · exact Nat.xor_lt_two_pow (n := 16) (by omega) (by decide)
theorem cr1_hi {c : Nat} (h : c < 65536) (h2 : (65536 : Int) ≤ (c : Int) * 2) : zI ((c : Int) * 2 - 65536) ^^^ zI 4129 = zI (cr1 c : Int) := by
  rw [zI_xor ⟨by omega, by omega⟩ (by decide)]
  unfold cr1
  rw [if_neg (by omega), show ((c : Int) * 2 - 65536).toNat = c * 2 - 65536 by omega]
  rfl
theorem cr1_lo {c : Nat} (h2 : (c : Int) * 2 < 65536) : (c : Int) * 2 = (cr1 c : Int) := by
  unfold cr1
  rw [if_pos (by omega)]
  omega
def crI : Nat → Nat → Nat
  | 0, c => c
  | n + 1, c => crI n (cr1 c)
theorem crI_lt : ∀ (n : Nat) {c : Nat}, c < 65536 → crI n c < 65536
  | 0, _, h => h
  | n + 1, _, h => crI_lt n (cr1_lt h)
def crS (c b : Nat) : Nat := c * 256 % 65536 ^^^ crI 8 ((c / 256 ^^^ b) % 256 * 256)
theorem crS_lt (c b : Nat) : crS c b < 65536 := by
  have h1 : (c / 256 ^^^ b) % 256 * 256 < 65536 := by omega
  exact Nat.xor_lt_two_pow (n := 16) (Nat.mod_lt _ (by decide)) (crI_lt 8 h1)
/-- the check goes on from c over the bytes l -/
def crF (c : Nat) (l : List Nat) : Nat := l.foldl crS c
theorem crF_lt {c : Nat} (h : c < 65536) (l : List Nat) : crF c l < 65536 := by
  induction l generalizing c with
  | nil => exact h
  | cons b l ih => exact ih (crS_lt c b)
theorem crF_s (c : Nat) (l : List Nat) (b : Nat) : crF c (l ++ [b]) = crS (crF c l) b := by simp [crF, List.foldl_append]
/-- a Check at x, its table at a -/
def ckI (G : mq_G) (M : mq_M) (x a : Nat) : Prop := M x = some (.inr (1, [.ref a])) ∧ x ≠ a ∧ ∃ f : Nat → Int32, M a = some (.inl (G.2.1, 256, .inl f)) ∧ ∀ i : Nat, i < 256 → f i = zI (crI 8 (i * 256) : Int)
theorem ckI.fr {G : mq_G} {M M' : mq_M} {x a : Nat} {S : List Nat} (h : ckI G M x a) (hF : mq_F S M M') (hx : x ∉ S) (ha : a ∉ S) : ckI G M' x a := by
  obtain ⟨h1, h2, f, h3, h4⟩ := h
  exact ⟨(hF x hx).trans h1, h2, f, (hF a ha).trans h3, h4⟩
