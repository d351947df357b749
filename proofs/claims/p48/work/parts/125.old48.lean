/-! ===== p48: what stands of the old part; the law's desk ===== -/
def pq_old (b n : Nat) (xs : Nat → Int32) (z : Nat) (U : State) (H : Heap) : Prop := mq_sc b n xs z U H ∧ mq_AA .int U
def qG (G : mq_G) (b n : Nat) (xs : Nat → Int32) : Prop := G.1.2.2 = pq_old b n xs
theorem qG.old {p : Program} {m : MethodId} {c : Code} {cc : ByteArray} {nL : Nat} {s : State} {args : Array Value} {Ts : List Cond} {own : String} {G : mq_G} {z : Nat} {b n : Nat} {xs : Nat → Int32} (hG : qG G b n xs) (C : mq_C p m c cc nL s args Ts own G.1.1 (mq_tys G) z) : pq_old b n xs z s s.heap := by
  have h := C.old
  have e : (mq_tys G).2 = pq_old b n xs := hG
  rw [e] at h
  exact h
/-- the class of rows of rows of ints -/
def gA (G : mq_G) : ClassId := (G.1.2.1.getD 0 (0, .int)).1
def pA (G : mq_G) : Prop := G.1.2.1 = [(gA G, .array .int)]
theorem pA.A {G : mq_G} (h : pA G) : (gA G, FieldType.array .int) ∈ (mq_tys G).1 := by
  show _ ∈ _ :: _ :: _ :: _ :: G.1.2.1
  rw [h]; simp
/-- the law's desk at x: its vault, script, draws, files, keys, contents -/
def ldI (M : mq_M) (x v b : Nat) (dr fl : Int) (ka ca : Nat) : Prop := M x = some (.inr (11, [.ref v, .ref b, .int (zI dr), .int (zI fl), .ref ka, .ref ca]))
