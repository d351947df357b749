/-! ===== the field's tables ===== -/
def fe2 (x : Nat) : Nat := if x * 2 < 256 then x * 2 else (x * 2) ^^^ 285
def fE : Nat → Nat
  | 0 => 1
  | i + 1 => fe2 (fE i)
def fL (x : Nat) : Nat := ((List.range 255).find? (fun j => fE j == x)).getD 0
theorem fE_lt : ∀ j, j < 255 → fE j < 256 := by decide +kernel
theorem fE_ne : ∀ j, j < 255 → fE j ≠ 0 := by decide +kernel
theorem fE_255 : fE 255 = 1 := by decide +kernel
theorem fL_lt : ∀ x, x < 256 → fL x < 255 := by decide +kernel
theorem fE_fL : ∀ x, x < 256 → x ≠ 0 → fE (fL x) = x := by decide +kernel
theorem fL_fE : ∀ j, j < 255 → fL (fE j) = j := by decide +kernel
/-- the product by the tables -/
def gfM (a b : Nat) : Nat := if a = 0 ∨ b = 0 then 0 else fE ((fL a + fL b) % 255)
def gfI (a : Nat) : Nat := if a = 0 then 0 else fE ((255 - fL a) % 255)
theorem gfM_lt (a b : Nat) : gfM a b < 256 := by
  unfold gfM
  split
  · decide
  · exact fE_lt _ (Nat.mod_lt _ (by decide))
theorem gfI_lt (a : Nat) : gfI a < 256 := by
  unfold gfI
  split
  · decide
  · exact fE_lt _ (Nat.mod_lt _ (by decide))
theorem gfM_one : ∀ b, b < 256 → gfM 1 b = b := by decide +kernel
theorem fe2_hi {x : Nat} (h : x < 256) (h2 : (256 : Int) ≤ (x : Int) * 2) : zI ((x : Int) * 2) ^^^ zI 285 = zI (fe2 x : Int) := by
  rw [zI_xor ⟨by omega, by omega⟩ (by decide)]
  unfold fe2
  rw [if_neg (by omega), show ((x : Int) * 2).toNat = x * 2 by omega]
  rfl
theorem fe2_lo {x : Nat} (h2 : (x : Int) * 2 < 256) : (x : Int) * 2 = (fe2 x : Int) := by
  unfold fe2
  rw [if_pos (by omega)]
  omega
/-- a Field at x, its tables at u (powers) and v (logarithms) -/
def fdI (G : mq_G) (M : mq_M) (x u v : Nat) : Prop := M x = some (.inr (4, [.ref u, .ref v])) ∧ x ≠ u ∧ x ≠ v ∧ u ≠ v ∧ (∃ f : Nat → Int32, M u = some (.inl (G.2.1, 510, .inl f)) ∧ ∀ i : Nat, i < 510 → f i = zI (fE (i % 255) : Int)) ∧ ∃ g : Nat → Int32, M v = some (.inl (G.2.1, 256, .inl g)) ∧ ∀ i : Nat, i < 256 → i ≠ 0 → g i = zI (fL i : Int)
theorem fdI.fr {G : mq_G} {M M' : mq_M} {x u v : Nat} {S : List Nat} (h : fdI G M x u v) (hF : mq_F S M M') (hx : x ∉ S) (hu : u ∉ S) (hv : v ∉ S) : fdI G M' x u v := by
  obtain ⟨h1, h2, h3, h4, ⟨f, h5, h6⟩, g, h7, h8⟩ := h
  exact ⟨(hF x hx).trans h1, h2, h3, h4, ⟨f, (hF u hu).trans h5, h6⟩, g, (hF v hv).trans h7, h8⟩
/-- products added to a row, step by step -/
def gfA (d : List Nat) (pl : Int) (fa : Nat) (d2 : List Nat) (fr : Int) : Nat → List Nat
  | 0 => d
  | i + 1 => mq_put (gfA d pl fa d2 fr i) (pl + (i : Int)) (mq_gd (gfA d pl fa d2 fr i) (pl + (i : Int)) ^^^ gfM fa (mq_gd d2 (fr + (i : Int))))
theorem gfA_len (d : List Nat) (pl : Int) (fa : Nat) (d2 : List Nat) (fr : Int) : ∀ i, (gfA d pl fa d2 fr i).length = d.length
  | 0 => rfl
  | i + 1 => by
    unfold gfA
    rw [mq_put_len]
    exact gfA_len d pl fa d2 fr i
def gfP (d : List Nat) (pl : Int) (fa : Nat) (d2 : List Nat) (fr : Int) (t : Nat) : List Nat := if fa = 0 then d else gfA d pl fa d2 fr t
/-- with which factor a data volume goes into a volume -/
def gfW (q d dn : Nat) : Nat := if q < dn then (if q = d then 1 else 0) else gfI ((128 + (q - dn)) ^^^ d)
theorem gfW_lt (q d dn : Nat) : gfW q d dn < 256 := by
  unfold gfW
  split
  · split <;> decide
  · exact gfI_lt _
/-- the powers come round -/
theorem fE_next (i : Nat) : fe2 (fE (i % 255)) = fE ((i + 1) % 255) := by
  by_cases h : i % 255 = 254
  · rw [h, show (i + 1) % 255 = 0 by omega]
    decide +kernel
  · rw [show (i + 1) % 255 = i % 255 + 1 by omega]
    rfl
/-- a power by the tables -/
def gfR (a n : Nat) : Nat := if n = 0 then 1 else if a = 0 then 0 else fE (fL a * n % 255)
