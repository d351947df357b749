/-! ===== the check bit by bit from the highest on is the check by bytes ===== -/
theorem nx_mul (a b n : Nat) : (a ^^^ b) * 2 ^ n = a * 2 ^ n ^^^ b * 2 ^ n := by
  rw [← Nat.shiftLeft_eq, ← Nat.shiftLeft_eq, ← Nat.shiftLeft_eq, Nat.shiftLeft_xor_distrib]
theorem nx_bit (a b : Nat) (ha : a < 2) (hb : b < 2) : (a ^^^ b) * 4129 = a * 4129 ^^^ b * 4129 := by
  rcases (show a = 0 ∨ a = 1 by omega) with rfl | rfl <;> rcases (show b = 0 ∨ b = 1 by omega) with rfl | rfl <;> decide
theorem nx_lt2 {a b : Nat} (ha : a < 2) (hb : b < 2) : a ^^^ b < 2 := Nat.xor_lt_two_pow (n := 1) ha hb
/-- one bit: the rest c, the bit x -/
def lbS (c x : Nat) : Nat := c * 2 % 65536 ^^^ ((c / 32768 ^^^ x) * 4129)
theorem lbS_lt (c x : Nat) (hc : c < 65536) (hx : x < 2) : lbS c x < 65536 := by
  have h1 : c / 32768 < 2 := by omega
  have h2 := nx_lt2 h1 hx
  exact Nat.xor_lt_two_pow (n := 16) (Nat.mod_lt _ (by decide)) (by omega)
theorem lbS_x (c c2 x x2 : Nat) (hc : c < 65536) (hc2 : c2 < 65536) (hx : x < 2) (hx2 : x2 < 2) : lbS (c ^^^ c2) (x ^^^ x2) = lbS c x ^^^ lbS c2 x2 := by
  unfold lbS
  have h1 : c / 32768 < 2 := by omega
  have h2 : c2 / 32768 < 2 := by omega
  have e1 : (c ^^^ c2) * 2 % 65536 = c * 2 % 65536 ^^^ c2 * 2 % 65536 := by
    have := nx_mul c c2 1
    rw [show (2 : Nat) ^ 1 = 2 from rfl] at this
    rw [this]
    exact Nat.xor_mod_two_pow (n := 16)
  have e2 : (c ^^^ c2) / 32768 = c / 32768 ^^^ c2 / 32768 := Nat.xor_div_two_pow (n := 15)
  rw [e1, e2, show (c / 32768 ^^^ c2 / 32768) ^^^ (x ^^^ x2) = (c / 32768 ^^^ x) ^^^ (c2 / 32768 ^^^ x2) by ac_rfl, nx_bit _ _ (nx_lt2 h1 hx) (nx_lt2 h2 hx2)]
  ac_rfl
/-- the bits of b from the highest on, n of them left -/
def lbF (b : Nat) : Nat → Nat → Nat
  | 0, c => c
  | n + 1, c => lbF b n (lbS c (b / 2 ^ n % 2))
theorem lbF_x (b b2 : Nat) : ∀ n c c2, c < 65536 → c2 < 65536 → lbF (b ^^^ b2) n (c ^^^ c2) = lbF b n c ^^^ lbF b2 n c2
  | 0, _, _, _, _ => rfl
  | n + 1, c, c2, hc, hc2 => by
    show lbF (b ^^^ b2) n (lbS (c ^^^ c2) ((b ^^^ b2) / 2 ^ n % 2)) = lbF b n (lbS c (b / 2 ^ n % 2)) ^^^ lbF b2 n (lbS c2 (b2 / 2 ^ n % 2))
    have e1 : (b ^^^ b2) / 2 ^ n % 2 = (b / 2 ^ n % 2) ^^^ (b2 / 2 ^ n % 2) := by
      rw [Nat.xor_div_two_pow]
      exact Nat.xor_mod_two_pow (n := 1)
    rw [e1, lbS_x _ _ _ _ hc hc2 (Nat.mod_lt _ (by decide)) (Nat.mod_lt _ (by decide))]
    exact lbF_x b b2 n _ _ (lbS_lt _ _ hc (Nat.mod_lt _ (by decide))) (lbS_lt _ _ hc2 (Nat.mod_lt _ (by decide)))
theorem lbF_1 : ∀ b, b < 256 → lbF b 8 (b * 256) = 0 := by decide +kernel
theorem lbF_2 : ∀ b, b < 256 → lbF 0 8 b = b * 256 := by decide +kernel
theorem lbF_3 : ∀ b, b < 256 → lbF 0 8 (b * 256) = crI 8 (b * 256) := by decide +kernel
theorem nx_split (hi lo : Nat) (hl : lo < 256) : hi * 256 + lo = hi * 256 ^^^ lo := by
  have h1 : (hi * 256 ^^^ lo) / 256 = hi := by
    rw [show (256 : Nat) = 2 ^ 8 from rfl, Nat.xor_div_two_pow, Nat.mul_div_cancel _ (by decide), Nat.div_eq_of_lt hl, Nat.xor_zero]
  have h2 : (hi * 256 ^^^ lo) % 256 = lo := by
    rw [show (256 : Nat) = 2 ^ 8 from rfl, Nat.xor_mod_two_pow, Nat.mul_mod_left, Nat.mod_eq_of_lt hl, Nat.zero_xor]
  have h3 := Nat.div_add_mod (hi * 256 ^^^ lo) 256
  rw [h1, h2] at h3
  omega
theorem lbF_crS (c b : Nat) (hc : c < 65536) (hb : b < 256) : lbF b 8 c = crS c b := by
  obtain ⟨hi, hhi⟩ : ∃ hi, hi = c / 256 := ⟨_, rfl⟩
  obtain ⟨lo, hlo⟩ : ∃ lo, lo = c % 256 := ⟨_, rfl⟩
  have h1 : hi < 256 := by omega
  have h2 : lo < 256 := by omega
  have hy : hi ^^^ b < 256 := Nat.xor_lt_two_pow (n := 8) h1 hb
  have e1 : c = ((hi ^^^ b) * 256 ^^^ b * 256) ^^^ lo := by
    have := nx_mul (hi ^^^ b) b 8
    rw [Nat.xor_assoc, Nat.xor_self, Nat.xor_zero, show (2 : Nat) ^ 8 = 256 from rfl] at this
    rw [← this, ← nx_split hi lo h2]
    omega
  have e2 : lbF b 8 c = lbF 0 8 ((hi ^^^ b) * 256) ^^^ lbF b 8 (b * 256) ^^^ lbF 0 8 lo := by
    rw [← lbF_x 0 b 8 _ _ (by omega) (by omega), ← lbF_x (0 ^^^ b) 0 8 _ _ (Nat.xor_lt_two_pow (n := 16) (by omega) (by omega)) (by omega), ← e1, Nat.zero_xor, Nat.xor_zero]
  rw [e2, lbF_1 b hb, lbF_2 lo h2, lbF_3 _ hy, Nat.xor_zero]
  unfold crS
  rw [← hhi, Nat.mod_eq_of_lt hy, show c * 256 % 65536 = lo * 256 by omega, Nat.xor_comm]
