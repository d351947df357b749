/-! ===== the checksum of the whole state ===== -/
def dgT (x v : Int64) : Int64 := x * 31 + v
def dgZ (v : Int) : Int64 := (zI v).toInt64
def dgO (b : Bool) : Int64 := if b = true then 1 else 0
def dgK (k : vtD) (x : Int64) : Nat → Int64
  | 0 => dgT (dgT x (dgZ (k.1 : Int))) (dgZ (dkSz k.2.2.1 k.2.2.2.1 k.1 : Int))
  | i + 1 => dgT (dgT (dgT (dgT (dgK k x i) (dgZ (k.2.1 i : Int))) (dgZ ((k.2.2.1 i).length : Int))) (dgZ (k.2.2.2.2 i : Int))) (dgZ ((k.2.2.2.1 i).length : Int))
def dgB (d : List Nat) (x : Int64) : Nat → Int64
  | 0 => x
  | j + 1 => dgT (dgB d x j) (dgZ (mq_gd d (j : Int) : Int))
def dgS (h : Nat → Bool) (d : Nat → List Nat) (nu : Nat → Int) (x : Int64) : Nat → Int64
  | 0 => x
  | i + 1 => dgB (d i) (dgT (dgT (dgT (dgS h d nu x i) (dgZ (vsz (h i) (d i)))) (dgO (vWhl (h i) (d i)))) (dgZ (nu i))) (d i).length
def dgR (S : List Nat) (ix : Bool) (n : Nat) (fc : Nat → List Nat) (fk fp : Nat → Int) (fg : Nat → Bool) (x : Int64) : Nat → Int64
  | 0 => dgT (dgT (dgT (dgT x 1) (dgZ (S.length : Int))) (dgO ix)) (dgZ (n : Int))
  | i + 1 => dgT (dgT (dgT (dgT (dgR S ix n fc fk fp fg x i) (dgZ (fk i))) (dgZ (fp i))) (dgO (fg i))) (dgZ (vsz (fg i) (fc i)))
def dgF (r : vtR) (x : Int64) : Int64 := if r.1 = true then dgR r.2.2.2.2.2.1 r.2.2.2.1 r.2.2.2.2.1 r.2.2.2.2.2.2.1 r.2.2.2.2.2.2.2.1 r.2.2.2.2.2.2.2.2.1 r.2.2.2.2.2.2.2.2.2.2 x r.2.2.2.2.1 else dgT x 0
def dgA (k : vtD) (h : Nat → Bool) (d : Nat → List Nat) (r : vtR) : Int64 := dgF r (dgT (dgT (dgT (dgS h d (svS h d 16).2.2.1 (dgK k 2473 k.1) 16) (dgZ (svS h d 16).1)) (dgZ (svS h d 16).2.1)) (dgZ (spF h d)))
