/-! ===== p1: more rows ===== -/
/-- the class of rows of rows of ints, of rows of longs, of booleans -/
def gA (G : mq_G) : ClassId := (G.1.2.1.getD 0 (0, .int)).1
def gJ (G : mq_G) : ClassId := (G.1.2.1.getD 1 (0, .int)).1
def gZ (G : mq_G) : ClassId := (G.1.2.1.getD 2 (0, .int)).1
def pA (G : mq_G) : Prop := G.1.2.1 = [(gA G, .array .int), (gJ G, .long), (gZ G, .boolean)]
theorem pA.A {G : mq_G} (h : pA G) : (gA G, FieldType.array .int) ∈ (mq_tys G).1 := by
  show _ ∈ _ :: _ :: _ :: _ :: G.1.2.1
  rw [h]; simp
theorem pA.J {G : mq_G} (h : pA G) : (gJ G, FieldType.long) ∈ (mq_tys G).1 := by
  show _ ∈ _ :: _ :: _ :: _ :: G.1.2.1
  rw [h]; simp
theorem pA.Z {G : mq_G} (h : pA G) : (gZ G, FieldType.boolean) ∈ (mq_tys G).1 := by
  show _ ∈ _ :: _ :: _ :: _ :: G.1.2.1
  rw [h]; simp
def mq_pd (P : UInt64 → mq_M → Prop) : Option Value → mq_M → Prop := fun v M' => ∃ k : UInt64, v = some (.double k) ∧ P k M'
section MQ3
variable {p : Program} {l : Launch} {e : Env} {R : Room} {s : State} {m : MethodId} {args : Array Value} {below : List Frame} {meth : Method} {c : Code} {Q : State → Prop}
variable {cc : ByteArray} {nL : Nat} {Ts : List Cond} {own : String} {D : va_G} {tys : mq_Y} {z : Nat} {H0 : Heap} {cells slots : Nat} {M : mq_M} {pc : Nat} {L : List (Option Value)} {st : List Value}
theorem xr_dconst0 (C : mq_C p m c cc nL s args Ts own D tys z) (d : decode cc pc = .ok (.dconst 0, 1))
    (k : mq_X p l e R s m args below meth c Q nL D z H0 cells slots M (pc + 1) L (.double FP.dconst0 :: st)) : mq_X p l e R s m args below meth c Q nL D z H0 cells slots M pc L st :=
  fun H locs la ws h1 h2 h3 h4 h5 h6 => lv_dconst0 C.1.1 C.1.2.1 d (k H locs la ws h1 h2 h3 h4 h5 h6)
theorem xr_dload (C : mq_C p m c cc nL s args Ts own D tys z) {i : Nat} {x : UInt64} (d : decode cc pc = .ok (.dload i, 2)) (hL : L[i]? = some (some (.double x)))
    (k : mq_X p l e R s m args below meth c Q nL D z H0 cells slots M (pc + 2) L (.double x :: st)) : mq_X p l e R s m args below meth c Q nL D z H0 cells slots M pc L st :=
  fun H locs la ws h1 h2 h3 h4 h5 h6 => lv_dload C.1.1 C.1.2.1 d (h1.2.2.2 _ _ hL) (k H locs la ws h1 h2 h3 h4 h5 h6)
theorem xr_dstore (C : mq_C p m c cc nL s args Ts own D tys z) {i : Nat} {x : UInt64} (d : decode cc pc = .ok (.dstore i, 2)) (hi : i + 1 < nL) (h2 : mq_no2 L i = true)
    (k : mq_X p l e R s m args below meth c Q nL D z H0 cells slots M (pc + 2) ((L.set i (some (.double x))).set (i + 1) none) st) : mq_X p l e R s m args below meth c Q nL D z H0 cells slots M pc L (.double x :: st) :=
  fun H locs la ws h1 g2 h3 h4 h5 h6 => lv_dstore C.1.1 C.1.2.1 d h1.has hi rfl (fun la2 h => k H locs la2 ws (h1.set2 hi h2 h) g2 h3 h4 h5 h6)
theorem xr_dcmp (C : mq_C p m c cc nL s args Ts own D tys z) {x y : UInt64} {op : CmpOp} {w : Int} (d : decode cc pc = .ok (.dcmp op, 1)) (hw : Op.cmpValue (FP.dcmp x y) op = zI w)
    (k : mq_X p l e R s m args below meth c Q nL D z H0 cells slots M (pc + 1) L (.int (zI w) :: st)) : mq_X p l e R s m args below meth c Q nL D z H0 cells slots M pc L (.double y :: .double x :: st) :=
  fun H locs la ws h1 h2 h3 h4 h5 h6 => lv_dcmp C.1.1 C.1.2.1 d (by rw [hw]; exact k H locs la ws h1 h2 h3 h4 h5 h6)
theorem xr_dret (C : mq_C p m c cc nL s args Ts own D tys z) {v : UInt64} {post : Option Value → mq_M → Prop} {mc ms : Nat} (hr : meth.sig.returnType = some .double) (hlk : meth.locks = false) (hp : post (some (.double v)) M) (hc : cells ≤ mc) (hs : slots ≤ ms) (d : decode cc pc = .ok (.dreturn, 1)) :
    mq_X p l e R s m args below meth c (MQ below (mq_Qc D z post) args s mc ms (fun q => z ≤ q)) nL D z s.heap cells slots M pc L [.double v] :=
  fun H locs la ws h1 h2 h3 h4 h5 h6 => W.widen hc hs (W.dret C.1.1 C.1.2.1 hr (fun t ht _ => ⟨⟨_, M, rfl, hp, ws, by rw [ht]; exact h2, h3, h4⟩, h5.F ht⟩) h5.2.2 d (hlocks := hlk))
theorem xr_callV0d (C : mq_C p m c cc nL s args Ts own D tys z) {y : MethodName} {bytes : ByteArray} {maxL index mc ms b ci : Nat} {ret : Option FieldType} {ws0 : List Cond} {rm : Room} {Cn : String} {T : u_T} {N : Nat} {fs : List Value} {P : UInt64 → mq_M → Prop}
    (hM : mq_Met l y ws0 rm D tys [.ref b] M (mq_pd P) mc ms) (cw : CallW R s args own Cn index y bytes maxL ret ws0 rm mc ms 0) (hb : M b = some (.inr (ci, fs))) (hc : vwCl[ci]? = some (Cn, T, N)) (hst : (st.map fun v => v.category).sum ≤ 8) (hf : cells + mc ≤ R.cells ∧ slots + ms ≤ R.slots) (d : decode cc pc = .ok (.invokevirtual index, 3))
    (k : ∀ (r : UInt64) (M2 : mq_M), P r M2 → mq_X p l e R s m args below meth c Q nL D z H0 (cells + mc) (slots + ms) M2 (pc + 3) L (.double r :: st)) : mq_X p l e R s m args below meth c Q nL D z H0 cells slots M pc L (.ref b :: st) :=
  fun H locs la ws h1 h2 h3 h4 h5 h6 => by
    obtain ⟨q, hq⟩ := h4.at hb
    exact mq_call h1 h5 h6 (va_runV (As := []) (rest := st) C.1 (hM z) cw ⟨mq_blind, va_recv C.2.1 h2 hc hq, mq_pre C h2 h3 h4 h5 h6⟩ rfl rfl h1.1 rfl (lv_room hst) d hf) (fun v M2 hp => by
      obtain ⟨r, rfl, hp⟩ := hp
      exact k r M2 hp)
theorem xr_newJ (C : mq_C p m c cc nL s args Ts own D tys z) {k0 : Int} {cA : ClassId} (harr : (Cond.arrayClass .long).before args s = true) (ht : (cA, FieldType.long) ∈ tys.1) (hk : 0 ≤ k0 ∧ k0 < 10000000) (hc : cells + 1 ≤ R.cells) (hs : slots + k0.toNat ≤ R.slots) (d : decode cc pc = .ok (.newarray .long, 2))
    (k : ∀ q : Nat, M q = none → mq_X p l e R s m args below meth c Q nL D z H0 (cells + 1) (slots + k0.toNat) (mq_up M q (.inl (cA, k0.toNat, .inr (.inl (fun _ => 0))))) (pc + 2) L (.ref q :: st)) : mq_X p l e R s m args below meth c Q nL D z H0 cells slots M pc L (.int (zI k0) :: st) :=
  fun H locs la ws h1 h2 h3 h4 h5 h6 => by
    refine va_newa (atype := .long) (ty := .long) (N' := k0.toNat) (a0 := (k0.toNat, .inr (.inl (fun _ => 0)))) C.1.1 C.1.2.1 harr rfl C.2.1 h2 h3 h5 (fun q hq => Nat.le_trans h6.1 hq) (fun _ => rfl) (by rw [← zI_0, zI_lt ⟨by omega, by omega⟩ (by decide)]; omega) (zI_clamp ⟨by omega, by omega⟩) (by show k0.toNat * 8 ≤ _; omega) hc hs d (fun q cB H2 gK g2 g3 g5 => ?_)
    have e1 := mq_tyK ht C.2.1 gK
    subst e1
    obtain ⟨hn, hI⟩ := h4.push g3
    exact k q hn H2 locs la _ h1 g2 g3 hI g5 h6
theorem xr_newZ (C : mq_C p m c cc nL s args Ts own D tys z) {k0 : Int} {cA : ClassId} (harr : (Cond.arrayClass .boolean).before args s = true) (ht : (cA, FieldType.boolean) ∈ tys.1) (hk : 0 ≤ k0 ∧ k0 < 10000000) (hc : cells + 1 ≤ R.cells) (hs : slots + k0.toNat ≤ R.slots) (d : decode cc pc = .ok (.newarray .boolean, 2))
    (k : ∀ q : Nat, M q = none → mq_X p l e R s m args below meth c Q nL D z H0 (cells + 1) (slots + k0.toNat) (mq_up M q (.inl (cA, k0.toNat, .inl (fun _ => 0)))) (pc + 2) L (.ref q :: st)) : mq_X p l e R s m args below meth c Q nL D z H0 cells slots M pc L (.int (zI k0) :: st) :=
  fun H locs la ws h1 h2 h3 h4 h5 h6 => by
    refine va_newa (atype := .boolean) (ty := .boolean) (N' := k0.toNat) (a0 := (k0.toNat, .inl (fun _ => 0))) C.1.1 C.1.2.1 harr rfl C.2.1 h2 h3 h5 (fun q hq => Nat.le_trans h6.1 hq) (fun _ => rfl) (by rw [← zI_0, zI_lt ⟨by omega, by omega⟩ (by decide)]; omega) (zI_clamp ⟨by omega, by omega⟩) (by show k0.toNat * 1 ≤ _; omega) hc hs d (fun q cB H2 gK g2 g3 g5 => ?_)
    have e1 := mq_tyK ht C.2.1 gK
    subst e1
    obtain ⟨hn, hI⟩ := h4.push g3
    exact k q hn H2 locs la _ h1 g2 g3 hI g5 h6
theorem xr_lald (C : mq_C p m c cc nL s args Ts own D tys z) {cA : ClassId} {n a : Nat} {f : Nat → Int64} {i : Int} (hM : M a = some (.inl (cA, n, .inr (.inl f)))) (ht : (cA, FieldType.long) ∈ tys.1) (hi0 : 0 ≤ i) (hi1 : i < n) (hn : n < 2147483648) (d : decode cc pc = .ok (.laload, 1))
    (k : mq_X p l e R s m args below meth c Q nL D z H0 cells slots M (pc + 1) L (.long (f i.toNat) :: st)) : mq_X p l e R s m args below meth c Q nL D z H0 cells slots M pc L (.int (zI i) :: .ref a :: st) :=
  fun H locs la ws h1 h2 h3 h4 h5 h6 => by
    obtain ⟨q, hq⟩ := h4.at hM
    obtain ⟨t0, ht0⟩ := List.getElem?_of_mem ht
    refine va_lald C.1.1 C.1.2.1 C.2.1 h2 q t0 hq ht0 (zI_in hi0 hi1 hn) d ?_
    rw [zI_clamp ⟨hi0, by omega⟩]
    exact k H locs la ws h1 h2 h3 h4 h5 h6
theorem xr_last (C : mq_C p m c cc nL s args Ts own D tys z) {cA : ClassId} {n a : Nat} {f : Nat → Int64} {i : Int} {x : Int64} (hM : M a = some (.inl (cA, n, .inr (.inl f)))) (ht : (cA, FieldType.long) ∈ tys.1) (hi0 : 0 ≤ i) (hi1 : i < n) (hn : n < 2147483648) (d : decode cc pc = .ok (.lastore, 1))
    (k : mq_X p l e R s m args below meth c Q nL D z H0 cells slots (mq_up M a (.inl (cA, n, .inr (.inl (vp_updL f i.toNat x))))) (pc + 1) L st) : mq_X p l e R s m args below meth c Q nL D z H0 cells slots M pc L (.long x :: .int (zI i) :: .ref a :: st) :=
  fun H locs la ws h1 h2 h3 h4 h5 h6 => by
    obtain ⟨q, hq⟩ := h4.at hM
    obtain ⟨t0, ht0⟩ := List.getElem?_of_mem ht
    refine va_last C.1.1 C.1.2.1 C.2.1 h2 h3 h5 q t0 hq ht0 (zI_in hi0 hi1 hn) d (fun H2 locs2 g2 g3 g5 => ?_)
    rw [zI_clamp ⟨hi0, by omega⟩] at g2 g3
    exact k H2 locs2 la _ h1 g2 g3 (h4.set h3 hq) g5 h6
theorem xr_zald (C : mq_C p m c cc nL s args Ts own D tys z) {cA : ClassId} {n a : Nat} {f : Nat → Int32} {i : Int} (hM : M a = some (.inl (cA, n, .inl f))) (ht : (cA, FieldType.boolean) ∈ tys.1) (hi0 : 0 ≤ i) (hi1 : i < n) (hn : n < 2147483648) (d : decode cc pc = .ok (.baload, 1))
    (k : mq_X p l e R s m args below meth c Q nL D z H0 cells slots M (pc + 1) L (.int (f i.toNat) :: st)) : mq_X p l e R s m args below meth c Q nL D z H0 cells slots M pc L (.int (zI i) :: .ref a :: st) :=
  fun H locs la ws h1 h2 h3 h4 h5 h6 => by
    obtain ⟨q, hq⟩ := h4.at hM
    obtain ⟨t0, ht0⟩ := List.getElem?_of_mem ht
    refine va_zald C.1.1 C.1.2.1 C.2.1 h2 q t0 hq ht0 (zI_in hi0 hi1 hn) d ?_
    rw [zI_clamp ⟨hi0, by omega⟩]
    exact k H locs la ws h1 h2 h3 h4 h5 h6
theorem xr_zast (C : mq_C p m c cc nL s args Ts own D tys z) {cA : ClassId} {n a : Nat} {f : Nat → Int32} {i : Int} {x : Int32} (hM : M a = some (.inl (cA, n, .inl f))) (ht : (cA, FieldType.boolean) ∈ tys.1) (hx : vp_nar .boolean x = x) (hi0 : 0 ≤ i) (hi1 : i < n) (hn : n < 2147483648) (d : decode cc pc = .ok (.bastore, 1))
    (k : mq_X p l e R s m args below meth c Q nL D z H0 cells slots (mq_up M a (.inl (cA, n, .inl (upd f i.toNat x)))) (pc + 1) L st) : mq_X p l e R s m args below meth c Q nL D z H0 cells slots M pc L (.int x :: .int (zI i) :: .ref a :: st) :=
  fun H locs la ws h1 h2 h3 h4 h5 h6 => by
    obtain ⟨q, hq⟩ := h4.at hM
    obtain ⟨t0, ht0⟩ := List.getElem?_of_mem ht
    refine va_zast C.1.1 C.1.2.1 C.2.1 h2 h3 h5 q t0 hq ht0 (zI_in hi0 hi1 hn) d (fun H2 locs2 g2 g3 g5 => ?_)
    rw [zI_clamp ⟨hi0, by omega⟩, hx] at g2 g3
    exact k H2 locs2 la _ h1 g2 g3 (h4.set h3 hq) g5 h6
theorem xr_dup2 (C : mq_C p m c cc nL s args Ts own D tys z) {v w : Value} (d : decode cc pc = .ok (.dup2, 1)) (hv : v.category = 1) (hw : w.category = 1)
    (k : mq_X p l e R s m args below meth c Q nL D z H0 cells slots M (pc + 1) L (v :: w :: v :: w :: st)) : mq_X p l e R s m args below meth c Q nL D z H0 cells slots M pc L (v :: w :: st) :=
  fun H locs la ws h1 h2 h3 h4 h5 h6 => lv_dup2_11 C.1.1 C.1.2.1 d hv hw (k H locs la ws h1 h2 h3 h4 h5 h6)
theorem xr_tableIn (C : mq_C p m c cc nL s args Ts own D tys z) {dflt lo hi : Int} {offs : Array Int} {len : Nat} {x : Int32} {off : Int} {tgt : Nat} (d : decode cc pc = .ok (.tableswitch dflt lo hi offs, len)) (e1 : ¬ x.toInt < lo) (e2 : ¬ hi < x.toInt) (ho : offs[(x.toInt - lo).toNat]? = some off) (ht : (pc : Int) + off = (tgt : Int))
    (k : mq_X p l e R s m args below meth c Q nL D z H0 cells slots M tgt L st) : mq_X p l e R s m args below meth c Q nL D z H0 cells slots M pc L (.int x :: st) :=
  fun H locs la ws h1 h2 h3 h4 h5 h6 => lv_tableIn C.1.1 C.1.2.1 d e1 e2 ho ht (k H locs la ws h1 h2 h3 h4 h5 h6)
theorem xr_tableOut (C : mq_C p m c cc nL s args Ts own D tys z) {dflt lo hi : Int} {offs : Array Int} {len : Nat} {x : Int32} {tgt : Nat} (d : decode cc pc = .ok (.tableswitch dflt lo hi offs, len)) (e1 : x.toInt < lo ∨ hi < x.toInt) (ht : (pc : Int) + dflt = (tgt : Int))
    (k : mq_X p l e R s m args below meth c Q nL D z H0 cells slots M tgt L st) : mq_X p l e R s m args below meth c Q nL D z H0 cells slots M pc L (.int x :: st) :=
  fun H locs la ws h1 h2 h3 h4 h5 h6 => lv_tableOut C.1.1 C.1.2.1 d e1 ht (k H locs la ws h1 h2 h3 h4 h5 h6)
end MQ3
