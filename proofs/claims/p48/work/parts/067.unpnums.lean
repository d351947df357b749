/-! ===== unpacking, as a function ===== -/
def upm (hd : Nat) : Nat := if 128 ≤ hd then hd - 126 else hd + 1
def upb (hd : Nat) : Nat := if 128 ≤ hd then 1 else hd + 1
def upc (d : List Nat) (pl : Int) (hd : Nat) : List Nat := if 128 ≤ hd then List.replicate (upm hd) (mq_gd d (pl + 1)) else mq_part d (pl + 1) (upm hd)
def upk (d : List Nat) (e : Int) : Nat → Int → List Nat → Option (List Nat)
  | 0, _, acc => some acc
  | f + 1, pl, acc => if pl < e then
      (if e < pl + 1 + (upb (mq_gd d pl) : Int) ∨ 240 < acc.length + upm (mq_gd d pl) then none
       else upk d e f (pl + 1 + (upb (mq_gd d pl) : Int)) (acc ++ upc d pl (mq_gd d pl)))
    else some acc
theorem upc_len (d : List Nat) (pl : Int) (hd : Nat) : (upc d pl hd).length = upm hd := by
  unfold upc
  split
  · simp
  · exact mq_part_len _ _ _
