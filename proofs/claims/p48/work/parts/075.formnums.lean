def vHd (nb dn pn bd sb : Nat) : List Nat := [86, nb, dn, pn, bd / 256, bd % 256, sb / 256, sb % 256, 0, 0]
def vLp (S : List Nat) (nb dn bd : Nat) (b0 : List Nat) : Nat → List Nat
  | 0 => b0
  | i + 1 => gfP (vLp S nb dn bd b0 i) 10 (gfW nb i dn) S ((i * bd : Nat) : Int) bd
def vRw (S : List Nat) (nb dn pn : Nat) : List Nat := vLp S nb dn (bdS S.length dn) (vHd nb dn pn (bdS S.length dn) S.length ++ List.replicate (bdS S.length dn) 0) dn
/-- the volume with the number nb of the stream S -/
def vFm (S : List Nat) (nb dn pn : Nat) : List Nat := ((vRw S nb dn pn).set 8 (vChk (vRw S nb dn pn) / 256)).set 9 (vChk (vRw S nb dn pn) % 256)
theorem gfP_len (d : List Nat) (pl : Int) (fa : Nat) (d2 : List Nat) (fr : Int) (t : Nat) : (gfP d pl fa d2 fr t).length = d.length := by
  unfold gfP
  split
  · rfl
  · exact gfA_len _ _ _ _ _ _
theorem vLp_len (S : List Nat) (nb dn bd : Nat) (b0 : List Nat) : ∀ i, (vLp S nb dn bd b0 i).length = b0.length
  | 0 => rfl
  | i + 1 => by
    unfold vLp
    rw [gfP_len]
    exact vLp_len S nb dn bd b0 i
theorem vRw_len (S : List Nat) (nb dn pn : Nat) : (vRw S nb dn pn).length = 10 + bdS S.length dn := by
  unfold vRw
  rw [vLp_len]
  simp [vHd]
  omega
theorem vFm_len (S : List Nat) (nb dn pn : Nat) : (vFm S nb dn pn).length = 10 + bdS S.length dn := by
  unfold vFm
  rw [List.length_set, List.length_set, vRw_len]
