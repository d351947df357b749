/-! ===== more rows: the script, arrays of rows, longs, shifts ===== -/
theorem arrayOverA_moved {t : FieldType} {u U : State} (hvm : u.vm.Alike U.vm) (h : (Cond.arrayOver (.array t)).before #[] u = true) : (Cond.arrayOver (.array t)).before #[] U = true := by
  obtain ⟨comp, c, k, h1, h2, h3, h4, h5⟩ := arrayOverA_spec h
  obtain ⟨k', hk', he⟩ := hvm.2.2 _ _ h3
  have hi : (U.vm.classes.findIdx? fun (x : Class) => match x.kind with | .array component _ => component == comp | _ => false) = some c := by
    rw [hvm.findIdx?_eq _ (fun _ => rfl)]
    exact h2
  have hkind : k'.kind = .array comp (.array t) := by rw [he]; exact h4
  have f1 : U.vm.findClass (FieldType.array t).toString = some comp := by rw [hvm.findClass]; exact h1
  have f2 : U.vm.findClass ("[" ++ (FieldType.array t).toString) = some c := by rw [hvm.findClass]; exact h5
  unfold Cond.before Cond.holds
  simp only [Cond.value]
  rw [f1, Option.bind_some]
  refine (congrArg (fun o : Option Nat => (o.bind (fun c => (U.vm.classes[c]?).map fun (k : Class) => match k.kind with | .array _ ty => decide (ty = FieldType.array t) && decide (U.vm.findClass ("[" ++ (FieldType.array t).toString) = some c) | _ => false) == some true)) hi).trans ?_
  simp [hk', hkind, f2]
/-- the tables know the class of rows of rows of t -/
def mq_AA (t : FieldType) (U : State) : Prop := (Cond.arrayOver (.array t)).before #[] U = true
theorem mq_AA.moved {t : FieldType} {u U : State} (hvm : u.vm.Alike U.vm) (h : mq_AA t u) : mq_AA t U := arrayOverA_moved hvm h
/-- the script at b -/
def mq_sc (b n : Nat) (xs : Nat → Int32) (z : Nat) (U : State) (H : Heap) : Prop := b < z ∧ va_X b n xs U H
section MQ2
variable {p : Program} {l : Launch} {e : Env} {R : Room} {s : State} {m : MethodId} {args : Array Value} {below : List Frame} {meth : Method} {c : Code} {Q : State → Prop}
variable {cc : ByteArray} {nL : Nat} {Ts : List Cond} {own : String} {D : va_G} {tys : mq_Y} {z : Nat} {H0 : Heap} {cells slots : Nat} {M : mq_M} {pc : Nat} {L : List (Option Value)} {st : List Value}
/-- what stands of the old part, here -/
theorem mq_C.old (C : mq_C p m c cc nL s args Ts own D tys z) : tys.2 z s s.heap := C.2.2.2.2.2 s s.heap (State.WarmedH.refl s) (fun _ _ => rfl)
theorem xr_slen (C : mq_C p m c cc nL s args Ts own D tys z) {b n : Nat} {xs : Nat → Int32} (hX : mq_sc b n xs z s s.heap) (d : decode cc pc = .ok (.arraylength, 1))
    (k : mq_X p l e R s m args below meth c Q nL D z H0 cells slots M (pc + 1) L (.int (zI (n : Int)) :: st)) : mq_X p l e R s m args below meth c Q nL D z H0 cells slots M pc L (.ref b :: st) :=
  fun H locs la ws h1 h2 h3 h4 h5 h6 => by
    obtain ⟨e1, e2⟩ := h6
    subst e2
    exact va_slen C.1.1 C.1.2.1 hX.2 (Nat.lt_of_lt_of_le hX.1 e1) (Nat.not_le.mpr hX.1) h5 d (k H locs la ws h1 h2 h3 h4 h5 ⟨e1, rfl⟩)
theorem xr_sld (C : mq_C p m c cc nL s args Ts own D tys z) {b n : Nat} {xs : Nat → Int32} {i : Int} (hX : mq_sc b n xs z s s.heap) (hi0 : 0 ≤ i) (hi1 : i < n) (hn : n < 2147483648) (d : decode cc pc = .ok (.iaload, 1))
    (k : mq_X p l e R s m args below meth c Q nL D z H0 cells slots M (pc + 1) L (.int (xs i.toNat) :: st)) : mq_X p l e R s m args below meth c Q nL D z H0 cells slots M pc L (.int (zI i) :: .ref b :: st) :=
  fun H locs la ws h1 h2 h3 h4 h5 h6 => by
    obtain ⟨e1, e2⟩ := h6
    subst e2
    refine va_sld C.1.1 C.1.2.1 hX.2 (Nat.lt_of_lt_of_le hX.1 e1) (Nat.not_le.mpr hX.1) h5 (zI_in hi0 hi1 hn) d ?_
    rw [zI_clamp ⟨hi0, by omega⟩]
    exact k H locs la ws h1 h2 h3 h4 h5 ⟨e1, rfl⟩
theorem xr_aaldA (C : mq_C p m c cc nL s args Ts own D tys z) {cA : ClassId} {t : FieldType} {n a : Nat} {f : Nat → Option Nat} {i : Int} (hM : M a = some (.inl (cA, n, .inr (.inr (.inr (.inr f)))))) (ht : (cA, FieldType.array t) ∈ tys.1) (hi0 : 0 ≤ i) (hi1 : i < n) (hn : n < 2147483648) (d : decode cc pc = .ok (.aaload, 1))
    (k : mq_X p l e R s m args below meth c Q nL D z H0 cells slots M (pc + 1) L (va_rf (f i.toNat) :: st)) : mq_X p l e R s m args below meth c Q nL D z H0 cells slots M pc L (.int (zI i) :: .ref a :: st) :=
  fun H locs la ws h1 h2 h3 h4 h5 h6 => by
    obtain ⟨q, hq⟩ := h4.at hM
    obtain ⟨t0, ht0⟩ := List.getElem?_of_mem ht
    have hlt : (zI i).toNatClampNeg < n := by rw [zI_clamp ⟨hi0, by omega⟩]; omega
    refine W.aald (v := va_rf (f (zI i).toNatClampNeg)) (ty := .array t) C.1.1 C.1.2.1 (h2 q _ hq) ((C.2.1.2 t0 _ ht0).1 n (fun j => va_rf (f j))) rfl (fun q => by cases q) (by show ¬ (_ < 0 ∨ (arrV _ _ _).slots.size ≤ _); rw [arrV_size]; exact zI_in hi0 hi1 hn) (by show (arrV _ _ _).slots[_]? = _; rw [arrV_read _ _ hlt]) rfl rfl d ?_
    rw [zI_clamp ⟨hi0, by omega⟩]
    exact k H locs la ws h1 h2 h3 h4 h5 h6
theorem mq_arrK (C : mq_C p m c cc nL s args Ts own D tys z) {cA : ClassId} {t : FieldType} (ht : (cA, FieldType.array t) ∈ tys.1) (hA : mq_AA t s) : ∃ (kA : Class) (comp : ClassId), s.vm.classes[cA]? = some kA ∧ kA.kind = .array comp (.array t) ∧ s.vm.findClass (FieldType.array t).toString = some comp := by
  obtain ⟨t0, ht0⟩ := List.getElem?_of_mem ht
  obtain ⟨comp, c2, k2, g1, -, g3, g4, g5⟩ := arrayOverA_spec hA
  have e1 : s.vm.findClass ("[" ++ (FieldType.array t).toString) = some cA := (C.2.1.2 t0 _ ht0).2
  have e2 : cA = c2 := Option.some.inj (e1.symm.trans g5)
  subst e2
  exact ⟨k2, comp, g3, g4, g1⟩
theorem mq_assA {cI : ClassId} {t : FieldType} (h : ArrOfT s cI t) : (∃ kI, s.vm.classes[cI]? = some kI) ∧ s.vm.assignable cI cI = true := by
  obtain ⟨-, kI, hkI, comp, hkind⟩ := h 0 (fun _ => .null)
  exact ⟨⟨kI, hkI⟩, by
    unfold Vm.assignable
    show (cI == cI || _) = true
    simp⟩
theorem xr_aastA (C : mq_C p m c cc nL s args Ts own D tys z) {cA cI : ClassId} {n n2 a v : Nat} {f : Nat → Option Nat} {g : Nat → Int32} {i : Int} (hM : M a = some (.inl (cA, n, .inr (.inr (.inr (.inr f)))))) (ht : (cA, FieldType.array .int) ∈ tys.1) (hA : mq_AA .int s) (hv : M v = some (.inl (cI, n2, .inl g))) (hI : (cI, FieldType.int) ∈ tys.1) (hi0 : 0 ≤ i) (hi1 : i < n) (hn : n < 2147483648) (d : decode cc pc = .ok (.aastore, 1))
    (k : mq_X p l e R s m args below meth c Q nL D z H0 cells slots (mq_up M a (.inl (cA, n, .inr (.inr (.inr (.inr (va_up f i.toNat (some v)))))))) (pc + 1) L st) : mq_X p l e R s m args below meth c Q nL D z H0 cells slots M pc L (.ref v :: .int (zI i) :: .ref a :: st) :=
  fun H locs la ws h1 h2 h3 h4 h5 h6 => by
    obtain ⟨q, hq⟩ := h4.at hM
    obtain ⟨qv, hqv⟩ := h4.at hv
    obtain ⟨t1, ht1⟩ := List.getElem?_of_mem hI
    obtain ⟨kA, comp, k1, k2, k3⟩ := mq_arrK C ht hA
    obtain ⟨a1, a2⟩ := C.2.1.2 t1 _ ht1
    have hcomp : comp = cI := Option.some.inj (k3.symm.trans (a2 : s.vm.findClass ("[" ++ (FieldType.int).toString) = some cI))
    subst hcomp
    obtain ⟨⟨kI, hkI⟩, hass⟩ := mq_assA a1
    have ec : (zI i).toNatClampNeg = i.toNat := zI_clamp ⟨hi0, by omega⟩
    have hlt : i.toNat < n := by omega
    refine W.aast C.1.1 C.1.2.1 (h2 q _ hq) (fun q h => by cases h) (fun h => by cases h) k1 k2 rfl hkI ⟨by rw [← zI_0, zI_lt ⟨by omega, by omega⟩ (by decide)]; omega, by show _ < (arrV _ _ _).slots.size; rw [arrV_size, ec]; exact hlt⟩ (h2 qv _ hqv) (fun q h => by cases h) hkI hass rfl rfl d fun H1 e z oq => ?_
    refine k H1 _ la _ h1 (h2.set h3 hq ?_ oq) (h3.set hq) (h4.set h3 hq) (h5.put z oq (h3.2 q _ hq)) h6
    show H1[a]? = some (vp_cell _ _)
    rw [e, ec]
    rw [vp_cell_q, vp_cell_q, arrV_store]
    congr 2
    funext q
    by_cases hq : q = i.toNat
    · subst hq
      simp [updV, va_up, va_rf]
    · simp [updV, va_up, hq]
theorem mq_Waast0 (hexec : p.tables.exec = Jvm.exec) (hb : c.code = cc) {H : Heap} {locs : List Loc} {a : Addr} {cell : Cell} {ty : FieldType} {j : Int32} (hty : ty.isReference = true) (hcell : H[a]? = some cell) (harr : s.isArrayOf cell ty) (hknown : cell.vm ≠ .unknown) (hin : ¬ (j < 0 ∨ cell.slots.size ≤ j.toNatClampNeg))
    {g : JFrame} (hg : g.method = m) {rest : List Value} (hstack : g.stack = .null :: .int j :: .ref a :: rest) (hdg : decode cc g.pc = .ok (.aastore, 1))
    (kk : ∀ H' : Heap, H'[a]? = some (cell.setSlot j.toNatClampNeg .null) → H'.size = H.size → (∀ q, q ≠ a → H'[q]? = H[q]?) → W p l e R s m args below meth c H' (locs ++ [⟨a, j.toNatClampNeg⟩]) cells slots Q { g with pc := g.pc + 1, stack := rest }) :
    W p l e R s m args below meth c H locs cells slots Q g := by
  intro T hT X
  have hT' : T.heap[a]? = some cell := by rw [hT]; exact hcell
  have hTy := State.isArrayOf_alike X.warmed.alike harr
  have hnull : fits ty .null = true := by cases ty <;> simp [FieldType.isReference] at hty <;> rfl
  obtain ⟨hobj, k, hk, comp, hkind⟩ := hTy
  have hfit : T.fitsSlot cell.cls cell.vm j.toNatClampNeg .null = true := by
    cases hvm : cell.vm <;> first | exact absurd hvm (hobj _) | simp [State.fitsSlot, State.slotType?, hk, hkind, hnull]
  have X' := X.stored hT' j.toNatClampNeg .null
  have hlt : a < T.heap.size := (Array.getElem?_eq_some_iff.mp hT').1
  obtain ⟨t', a1, b1⟩ := kk _ (heapAt_setCell_self _ hlt) (by rw [size_setCell, hT]) (fun q hq => by rw [heapAt_setCell_ne _ (Ne.symm hq), hT]) (T.setCell a (cell.setSlot j.toNatClampNeg .null)) rfl X'
  refine ⟨t', ?_, b1⟩
  subst hg
  jvm_step X.here [hexec, hb, hdg, aastore.wp_null (e := e) (s := T) (f := g) X.here.top hstack hT' hobj hknown hk hkind (fun q => hin (Or.inl q)) (Nat.not_le.mp fun q => hin (Or.inr q))]
  exact ⟨hfit, a1⟩
theorem xr_aastN (C : mq_C p m c cc nL s args Ts own D tys z) {cA : ClassId} {t : FieldType} {n a : Nat} {f : Nat → Option Nat} {i : Int} (hM : M a = some (.inl (cA, n, .inr (.inr (.inr (.inr f)))))) (ht : (cA, t) ∈ tys.1) (hty : t.isReference = true) (hi0 : 0 ≤ i) (hi1 : i < n) (hn : n < 2147483648) (d : decode cc pc = .ok (.aastore, 1))
    (k : mq_X p l e R s m args below meth c Q nL D z H0 cells slots (mq_up M a (.inl (cA, n, .inr (.inr (.inr (.inr (va_up f i.toNat none))))))) (pc + 1) L st) : mq_X p l e R s m args below meth c Q nL D z H0 cells slots M pc L (.null :: .int (zI i) :: .ref a :: st) :=
  fun H locs la ws h1 h2 h3 h4 h5 h6 => by
    obtain ⟨q, hq⟩ := h4.at hM
    obtain ⟨t0, ht0⟩ := List.getElem?_of_mem ht
    have ec : (zI i).toNatClampNeg = i.toNat := zI_clamp ⟨hi0, by omega⟩
    refine mq_Waast0 (ty := t) C.1.1 C.1.2.1 hty (h2 q _ hq) ((C.2.1.2 t0 _ ht0).1 n (fun j => va_rf (f j))) (fun h => by cases h) (by show ¬ (_ < 0 ∨ (arrV _ _ _).slots.size ≤ _); rw [arrV_size]; exact zI_in hi0 hi1 hn) rfl rfl d fun H1 e z oq => ?_
    refine k H1 _ la _ h1 (h2.set h3 hq ?_ oq) (h3.set hq) (h4.set h3 hq) (h5.put z oq (h3.2 q _ hq)) h6
    show H1[a]? = some (vp_cell _ _)
    rw [e, ec]
    rw [vp_cell_q, vp_cell_q, arrV_store]
    congr 2
    funext q
    by_cases hq : q = i.toNat
    · subst hq
      simp [updV, va_up, va_rf]
    · simp [updV, va_up, hq]
theorem xr_newA (C : mq_C p m c cc nL s args Ts own D tys z) {k0 : Int} {cA : ClassId} {t : FieldType} {index : Nat} (hcl : (Cond.classLink own index (FieldType.array t).toString).before args s = true) (hA : mq_AA t s) (ht : (cA, FieldType.array t) ∈ tys.1) (hk : 0 ≤ k0 ∧ k0 < 100000000) (hc : cells + 1 ≤ R.cells) (hs : slots + k0.toNat ≤ R.slots) (d : decode cc pc = .ok (.anewarray index, 3))
    (k : ∀ q : Nat, M q = none → mq_X p l e R s m args below meth c Q nL D z H0 (cells + 1) (slots + k0.toNat) (mq_up M q (.inl (cA, k0.toNat, .inr (.inr (.inr (.inr (fun _ => none))))))) (pc + 3) L (.ref q :: st)) : mq_X p l e R s m args below meth c Q nL D z H0 cells slots M pc L (.int (zI k0) :: st) :=
  fun H locs la ws h1 h2 h3 h4 h5 h6 => by
    obtain ⟨t0, ht0⟩ := List.getElem?_of_mem ht
    have ec : (zI k0).toNatClampNeg = k0.toNat := zI_clamp ⟨by omega, by omega⟩
    refine W.anewA (t := t) C.1.1 C.1.2.1 C.1.2.2.2.1 hcl hA rfl d rfl (by rw [← zI_0, zI_lt ⟨by omega, by omega⟩ (by decide)]; omega) (by rw [ec]; omega) hc (by rw [ec]; exact hs) fun cB kA comp f1 f2 f3 f4 => ?_
    have e1 : cA = cB := Option.some.inj (((C.2.1.2 t0 _ ht0).2 : s.vm.findClass ("[" ++ (FieldType.array t).toString) = some cA).symm.trans f1)
    subst e1
    rw [ec]
    generalize hH1 : H.push ({ cls := cA, slots := Array.replicate k0.toNat .null, vm := .none } : Cell) = H1
    have z1 : H1.size = H.size + 1 := by rw [← hH1, Array.size_push]
    have e1 : H1[H.size]? = some (arrV cA k0.toNat (fun _ => .null)) := by rw [← hH1, Array.getElem?_push_size, ← arrV_new]
    have o1 : ∀ q : Nat, q < H.size → H1[q]? = H[q]? := fun q hq => by rw [← hH1, Array.getElem?_push, if_neg (Nat.ne_of_lt hq)]
    have hk9 : ∀ (k : Nat) (x : Nat × va_E), ws[k]? = some x → H1[x.1]? = H[x.1]? := fun k x hx => o1 x.1 ((h2 k x hx).lt)
    have g3 : va_D (fun q => z ≤ q) (ws ++ [(H.size, .inl (cA, k0.toNat, .inr (.inr (.inr (.inr (fun _ => none))))))]) := h3.push h2 rfl (Nat.le_trans h6.1 h5.1)
    obtain ⟨hn, hI⟩ := h4.push g3
    refine k H.size hn H1 locs la _ h1 ((h2.kept hk9).app (fun k x hx => ?_)) g3 hI ⟨Nat.le_trans h5.1 (by omega), fun x h1 h2 => (o1 x (Nat.lt_of_lt_of_le h1 h5.1)).trans (h5.2.1 x h1 h2), h5.2.2⟩ h6
    have hz : k < 1 := (List.getElem?_eq_some_iff.mp hx).1
    rw [show k = 0 by omega] at hx
    cases hx
    show H1[H.size]? = some (vp_cell _ _)
    rw [vp_cell_q]
    exact e1
theorem xr_lrem (C : mq_C p m c cc nL s args Ts own D tys z) {x y : Int64} (d : decode cc pc = .ok (.lrem, 1)) (hne : ¬ y = 0)
    (k : mq_X p l e R s m args below meth c Q nL D z H0 cells slots M (pc + 1) L (.long (x - x / y * y) :: st)) : mq_X p l e R s m args below meth c Q nL D z H0 cells slots M pc L (.long y :: .long x :: st) :=
  fun H locs la ws h1 h2 h3 h4 h5 h6 => lv_lrem C.1.1 C.1.2.1 d hne (k H locs la ws h1 h2 h3 h4 h5 h6)
theorem xr_l2i (C : mq_C p m c cc nL s args Ts own D tys z) {x : Int64} {w : Int} (d : decode cc pc = .ok (.l2i, 1)) (hv : x.toInt32 = zI w)
    (k : mq_X p l e R s m args below meth c Q nL D z H0 cells slots M (pc + 1) L (.int (zI w) :: st)) : mq_X p l e R s m args below meth c Q nL D z H0 cells slots M pc L (.long x :: st) :=
  fun H locs la ws h1 h2 h3 h4 h5 h6 => lv_l2i C.1.1 C.1.2.1 d hv (k H locs la ws h1 h2 h3 h4 h5 h6)
theorem xr_lcmp (C : mq_C p m c cc nL s args Ts own D tys z) {x y : Int64} {w : Int} (d : decode cc pc = .ok (.lcmp, 1)) (hw : lg_cmp x y = zI w)
    (k : mq_X p l e R s m args below meth c Q nL D z H0 cells slots M (pc + 1) L (.int (zI w) :: st)) : mq_X p l e R s m args below meth c Q nL D z H0 cells slots M pc L (.long y :: .long x :: st) :=
  fun H locs la ws h1 h2 h3 h4 h5 h6 => W.lcmp C.1.1 C.1.2.1 d (by rw [hw]; exact k H locs la ws h1 h2 h3 h4 h5 h6)
theorem xr_ishr (C : mq_C p m c cc nL s args Ts own D tys z) {x y : Int32} {w : Int} (d : decode cc pc = .ok (.ishr, 1)) (hw : x >>> (y &&& 31) = zI w)
    (k : mq_X p l e R s m args below meth c Q nL D z H0 cells slots M (pc + 1) L (.int (zI w) :: st)) : mq_X p l e R s m args below meth c Q nL D z H0 cells slots M pc L (.int y :: .int x :: st) :=
  fun H locs la ws h1 h2 h3 h4 h5 h6 => lv_ishr C.1.1 C.1.2.1 d (by rw [hw]; exact k H locs la ws h1 h2 h3 h4 h5 h6)
theorem xr_ishl (C : mq_C p m c cc nL s args Ts own D tys z) {x y : Int32} {w : Int} (d : decode cc pc = .ok (.ishl, 1)) (hw : x <<< (y &&& 31) = zI w)
    (k : mq_X p l e R s m args below meth c Q nL D z H0 cells slots M (pc + 1) L (.int (zI w) :: st)) : mq_X p l e R s m args below meth c Q nL D z H0 cells slots M pc L (.int y :: .int x :: st) :=
  fun H locs la ws h1 h2 h3 h4 h5 h6 => lv_ishl C.1.1 C.1.2.1 d (by rw [hw]; exact k H locs la ws h1 h2 h3 h4 h5 h6)
theorem xr_ireml (C : mq_C p m c cc nL s args Ts own D tys z) {x y : Int32} {w : Int} (d : decode cc pc = .ok (.irem, 1)) (hy : ¬ y = 0) (hw : x - x / y * y = zI w)
    (k : mq_X p l e R s m args below meth c Q nL D z H0 cells slots M (pc + 1) L (.int (zI w) :: st)) : mq_X p l e R s m args below meth c Q nL D z H0 cells slots M pc L (.int y :: .int x :: st) :=
  fun H locs la ws h1 h2 h3 h4 h5 h6 => lv_irem C.1.1 C.1.2.1 d hy (by rw [hw]; exact k H locs la ws h1 h2 h3 h4 h5 h6)
theorem xr_copyI (C : mq_C p m c cc nL s args Ts own D tys z) {index a0 a1 n0 n1 : Nat} {c0 c1 : ClassId} {f g : Nat → Int32} {sp dp k0 : Nat} (hlink : (Cond.methodLink own index arraycopyName).before args s = true) (hnat : (Cond.native arraycopyName).before args s = true) (hstat : (Cond.static arraycopyName).before args s = true) (hini : (Cond.initialized "java/lang/System").before args s = true)
    (hM0 : M a0 = some (.inl (c0, n0, .inl f))) (hM1 : M a1 = some (.inl (c1, n1, .inl g))) (ht0 : (c0, FieldType.int) ∈ tys.1) (ht1 : (c1, FieldType.int) ∈ tys.1) (hb0 : sp + k0 ≤ n0) (hb1 : dp + k0 ≤ n1) (hbb : sp < 2147483648 ∧ dp < 2147483648 ∧ k0 < 2147483648) (hf : 1 ≤ R.frames) (hl : (st.map fun v => v.category).sum + (nativeFrameWords "java/lang/System" "arraycopy" 5 + 11) ≤ R.locals) (d : decode cc pc = .ok (.invokestatic index, 3))
    (k : mq_X p l e R s m args below meth c Q nL D z H0 cells slots (mq_up M a1 (.inl (c1, n1, .inl (va_cpy f g sp dp k0)))) (pc + 3) L st) : mq_X p l e R s m args below meth c Q nL D z H0 cells slots M pc L (.int (zI (k0 : Int)) :: .int (zI (dp : Int)) :: .ref a1 :: .int (zI (sp : Int)) :: .ref a0 :: st) :=
  fun H locs la ws h1 h2 h3 h4 h5 h6 => by
    obtain ⟨q0, hq0⟩ := h4.at hM0
    obtain ⟨q1, hq1⟩ := h4.at hM1
    obtain ⟨t0, ht0⟩ := List.getElem?_of_mem ht0
    obtain ⟨t1, ht1⟩ := List.getElem?_of_mem ht1
    have e0 : (zI (sp : Int)).toNatClampNeg = sp := by rw [zI_clamp ⟨by omega, by omega⟩]; omega
    have e1 : (zI (dp : Int)).toNatClampNeg = dp := by rw [zI_clamp ⟨by omega, by omega⟩]; omega
    have e2 : (zI (k0 : Int)).toNatClampNeg = k0 := by rw [zI_clamp ⟨by omega, by omega⟩]; omega
    have n0 : ∀ j : Nat, j < 2147483648 → ¬ zI (j : Int) < 0 := fun j hj => by rw [← zI_0, zI_lt ⟨by omega, by omega⟩ (by decide)]; omega
    refine va_copyi C.1.1 C.1.2.1 (by rw [C.1.2.2.1]; exact h1.1.symm) C.1.2.2.2.1 hlink hnat hstat hini C.2.1 h2 h3 h5 q0 q1 t0 t1 hq0 hq1 ht0 ht1 rfl (n0 sp hbb.1) (n0 dp hbb.2.1) (n0 k0 hbb.2.2) (by rw [e0, e2]; exact hb0) (by rw [e1, e2]; exact hb1) (fun i _ => rfl) hf hl d (fun H2 locs2 g2 g3 g5 => ?_)
    rw [e0, e1, e2] at g2 g3
    exact k H2 locs2 la _ h1 g2 g3 (h4.set h3 hq1) g5 h6
end MQ2
