/-! ===== methods that may throw ===== -/
def mq_XC (D : va_G) (z : Nat) (px : String → mq_M → Prop) : String → State → State → Prop := fun E st t => (∃ M' : mq_M, px E M' ∧ mq_H D z M' t.heap) ∧ va_F (fun q => z ≤ q) st t
/-- a contract of a method that returns, 'post', or throws E, 'px' -/
def mq_MetX (l : Launch) (y : MethodName) (ws : List Cond) (rm : Room) (D : va_G) (tys : mq_Y) (av : List Value) (M : mq_M) (post : Option Value → mq_M → Prop) (px : String → mq_M → Prop) (mc ms : Nat) : Prop :=
  ∀ z : Nat, vx_Met l y ws rm (va_Pc av (mq_Pr D tys z M)) (mq_Qc D z post) (mq_XC D z px) mc ms (fun q => z ≤ q)
section MQT
variable {p : Program} {l : Launch} {e : Env} {R : Room} {s : State} {m : MethodId} {args : Array Value} {below : List Frame} {meth : Method} {c : Code} {Q : State → Prop}
variable {cc : ByteArray} {nL : Nat} {Ts : List Cond} {own : String} {D : va_G} {tys : mq_Y} {z : Nat} {H0 : Heap} {cells slots : Nat} {M : mq_M} {pc : Nat} {L : List (Option Value)} {st : List Value}
/-- an exception of class E over the frame at pc -/
def mq_TX (p : Program) (l : Launch) (e : Env) (R : Room) (s : State) (m : MethodId) (args : Array Value) (below : List Frame) (meth : Method) (c : Code) (Q : State → Prop) (nL : Nat) (D : va_G) (z : Nat) (H0 : Heap) (cells slots : Nat) (M : mq_M) (pc : Nat) (L : List (Option Value)) (E : String) : Prop :=
  ∀ (H : Heap) (locs : List Loc) (la : Array Slot) (ws : va_W) (rest : List Value) (q : Addr) (ce : Cell), mq_L la nL L → va_P D vwCl ws H → va_D (fun q => z ≤ q) ws → mq_I M ws → va_S (fun q => z ≤ q) H0 H locs → (z ≤ H0.size ∧ H0 = s.heap) → H[q]? = some ce → ce.vm = .none → s.vm.findClass E = some ce.cls → vx_W p l e R s m args below meth c H locs cells slots Q (F0 m pc la rest) q
theorem mq_retX {post : Option Value → mq_M → Prop} {px : String → mq_M → Prop} {mc ms : Nat} (k : mq_X p l e R s m args below meth c (MQ below (mq_Qc D z post) args s mc ms (fun q => z ≤ q)) nL D z H0 cells slots M pc L st) :
    mq_X p l e R s m args below meth c (vx_MQ below (mq_Qc D z post) (mq_XC D z px) args s mc ms (fun q => z ≤ q)) nL D z H0 cells slots M pc L st :=
  fun H locs la ws h1 h2 h3 h4 h5 h6 => vx_ret (k H locs la ws h1 h2 h3 h4 h5 h6)
theorem xr_throw (C : mq_C p m c cc nL s args Ts own D tys z) {post : Option Value → mq_M → Prop} {px : String → mq_M → Prop} {mc ms : Nat} (hlt : l.stackTraces = false) (hex : ∀ x ∈ c.exceptionTable.toList, False) {cls text : String} {names : List String} {ik is ic : Nat} (hcls : Bundle.fit cls = true) (hnames : ∀ n ∈ names, Bundle.fit n = true)
    (hk : (Cond.classLink own ik cls).before args s = true) (hini : (Cond.initialized cls).before args s = true) (hstr : ∃ sa, vk_R own is text sa s) (hat : ∀ w ∈ vx_atS own ic cls names, w.before args s = true) (hgood : ∀ w ∈ Cond.classLink own ik cls :: Cond.initialized cls :: vx_atS own ic cls names, vx_ot w = true)
    (hU : vx_Zq Bundle.tN "UNASSIGNED_STACK" Bundle.steD (fun q => z ≤ q) s s.heap) (hN : vx_Zq Bundle.tN "SUPPRESSED_SENTINEL" Bundle.listD (fun q => z ≤ q) s s.heap)
    (d0 : decode cc pc = .ok (.new ik, 3)) (d3 : decode cc (pc + 3) = .ok (.dup, 1)) (d4 : decode cc (pc + 4) = .ok (.ldc is, 2)) (d6 : decode cc (pc + 6) = .ok (.invokespecial ic, 3)) (d9 : decode cc (pc + 9) = .ok (.athrow, 1))
    (hRf : names.length + 3 < R.frames) (hRl : (st.map fun v => v.category).sum + (13 * (names.length + 1) + 43) ≤ R.locals) (hRc : cells + 1 ≤ R.cells) (hRs : slots + 6 ≤ R.slots) (hlk : meth.locks = false) (hp : px cls M) (hc : cells + 1 ≤ mc) (hs : slots + 6 ≤ ms) :
    mq_X p l e R s m args below meth c (vx_MQ below (mq_Qc D z post) (mq_XC D z px) args s mc ms (fun q => z ≤ q)) nL D z s.heap cells slots M pc L st :=
  fun H locs la ws h1 h2 h3 h4 h5 h6 => by
    obtain ⟨sa, hsa⟩ := hstr
    exact vx_throwS (A := fun q => z ≤ q) C.1.1 C.1.2.1 hlt C.1.2.2.2.1 hcls hnames hk hini hsa hat hgood hU hN h5 (by rw [C.1.2.2.1]; exact h1.1) d0 d3 d4 d6 d9 (fun x hx => (hex x hx).elim) hRf hRl hRc hRs hlk
      (fun t _ hz hq => ⟨⟨M, hp, ws, h2.kept (fun k x hx => hq x.1 ((h2 k x hx).lt)), h3, h4⟩, Nat.le_trans h5.1 hz, fun q h7 h8 => (hq q (Nat.lt_of_lt_of_le h7 h5.1)).trans (h5.2.1 q h7 h8)⟩) (fun q hq => h5.2.2 q hq) hc hs
theorem xr_throwW (C : mq_C p m c cc nL s args Ts own D tys z) {post : Option Value → mq_M → Prop} {px : String → mq_M → Prop} {mc ms : Nat} (hlt : l.stackTraces = false) (hex : ∀ x ∈ c.exceptionTable.toList, False) {cls text : String} {names : List String} {ik is ic : Nat} (hcls : Bundle.fit cls = true) (hnames : ∀ n ∈ names, Bundle.fit n = true)
    (hk : (Cond.classLink own ik cls).before args s = true) (hini : (Cond.initialized cls).before args s = true) (hstr : ∃ sa, vk_R own is text sa s) (hat : ∀ w ∈ vx_atS own ic cls names, w.before args s = true) (hgood : ∀ w ∈ Cond.classLink own ik cls :: Cond.initialized cls :: vx_atS own ic cls names, vx_ot w = true)
    (hU : vx_Zq Bundle.tN "UNASSIGNED_STACK" Bundle.steD (fun q => z ≤ q) s s.heap) (hN : vx_Zq Bundle.tN "SUPPRESSED_SENTINEL" Bundle.listD (fun q => z ≤ q) s s.heap)
    (d0 : decode cc pc = .ok (.new ik, 3)) (d3 : decode cc (pc + 3) = .ok (.dup, 1)) (d4 : decode cc (pc + 4) = .ok (.ldc_w is, 3)) (d6 : decode cc (pc + 7) = .ok (.invokespecial ic, 3)) (d9 : decode cc (pc + 10) = .ok (.athrow, 1))
    (hRf : names.length + 3 < R.frames) (hRl : (st.map fun v => v.category).sum + (13 * (names.length + 1) + 43) ≤ R.locals) (hRc : cells + 1 ≤ R.cells) (hRs : slots + 6 ≤ R.slots) (hlk : meth.locks = false) (hp : px cls M) (hc : cells + 1 ≤ mc) (hs : slots + 6 ≤ ms) :
    mq_X p l e R s m args below meth c (vx_MQ below (mq_Qc D z post) (mq_XC D z px) args s mc ms (fun q => z ≤ q)) nL D z s.heap cells slots M pc L st :=
  fun H locs la ws h1 h2 h3 h4 h5 h6 => by
    obtain ⟨sa, hsa⟩ := hstr
    exact vx_throwSW (A := fun q => z ≤ q) C.1.1 C.1.2.1 hlt C.1.2.2.2.1 hcls hnames hk hini hsa hat hgood hU hN h5 (by rw [C.1.2.2.1]; exact h1.1) d0 d3 d4 d6 d9 (fun x hx => (hex x hx).elim) hRf hRl hRc hRs hlk
      (fun t _ hz hq => ⟨⟨M, hp, ws, h2.kept (fun k x hx => hq x.1 ((h2 k x hx).lt)), h3, h4⟩, Nat.le_trans h5.1 hz, fun q h7 h8 => (hq q (Nat.lt_of_lt_of_le h7 h5.1)).trans (h5.2.1 q h7 h8)⟩) (fun q hq => h5.2.2 q hq) hc hs
/-- not caught here -/
theorem xt_out (C : mq_C p m c cc nL s args Ts own D tys z) {post : Option Value → mq_M → Prop} {px : String → mq_M → Prop} {mc ms : Nat} {E : String} (hex : ∀ x ∈ c.exceptionTable.toList, False) (hlk : meth.locks = false) (hp : px E M) (hc : cells ≤ mc) (hs : slots ≤ ms) :
    mq_TX p l e R s m args below meth c (vx_MQ below (mq_Qc D z post) (mq_XC D z px) args s mc ms (fun q => z ≤ q)) nL D z s.heap cells slots M pc L E :=
  fun H locs la ws rest q ce h1 h2 h3 h4 h5 h6 h7 h8 h9 => vx_out (fun x hx => (hex x hx).elim) hlk h7 h8 h9 (fun t ht hv => ⟨⟨M, hp, ws, by rw [ht]; exact h2, h3, h4⟩, by rw [ht]; exact h5.1, fun q g1 g2 => by rw [ht]; exact h5.2.1 q g1 g2⟩) (fun q hq => h5.2.2 q hq) hc hs
/-- caught by the row x -/
theorem xt_catch (C : mq_C p m c cc nL s args Ts own D tys z) {E name : String} (pre : List ExceptionTableEntry) (x : ExceptionTableEntry) (suf : List ExceptionTableEntry) (hsplit : c.exceptionTable.toList = pre ++ x :: suf)
    (hpass : ∀ z ∈ pre, covers z pc = false ∨ (z.catchType ≠ 0 ∧ ∃ nm : String, (Cond.classLink own z.catchType nm).before args s = true ∧ va_Nc E nm s)) (hx : covers x pc = true) (h0 : x.catchType ≠ 0)
    (hlink : (Cond.classLink own x.catchType name).before args s = true) (hcast : (Cond.castable E name).before args s = true)
    (k : ∀ q : Nat, mq_X p l e R s m args below meth c Q nL D z H0 cells slots M x.handlerPc L [.ref q]) : mq_TX p l e R s m args below meth c Q nL D z H0 cells slots M pc L E :=
  fun H locs la ws rest q ce h1 h2 h3 h4 h5 h6 h7 h8 h9 => vx_catch C.1.2.2.2.1 pre x suf hsplit hpass hx h0 hlink hcast h7 h8 h9 (k q H locs la ws h1 h2 h3 h4 h5 h6)
theorem mq_callX {H : Heap} {locs : List Loc} {la : Array Slot} {mc ms : Nat} {st0 rest : List Value} {a : Array Value} {post : Option Value → mq_M → Prop} {px : String → mq_M → Prop} (h1 : mq_L la nL L) (h5 : va_S (fun q => z ≤ q) H0 H locs) (h6 : z ≤ H0.size ∧ H0 = s.heap)
    (hr : vx_Run p l e R s m args below meth c H locs cells slots mc ms (F0 m pc la st0) rest (mq_Qc D z post a) (mq_XC D z px) (fun q => z ≤ q))
    (kx : ∀ (E : String) (M' : mq_M), px E M' → mq_TX p l e R s m args below meth c Q nL D z H0 (cells + mc) (slots + ms) M' pc L E)
    (k : ∀ (v : Option Value) (M' : mq_M), post v M' → mq_X p l e R s m args below meth c Q nL D z H0 (cells + mc) (slots + ms) M' (pc + 3) L (v.toList ++ rest)) : W p l e R s m args below meth c H locs cells slots Q (F0 m pc la st0) := by
  intro T hT X
  have hkeep : ∀ (st₀ t T' : State) (Lq : List Loc), st₀.heap = H → T'.heap = t.heap → (∀ q ∈ Lq, z ≤ q.base) → va_F (fun q => z ≤ q) st₀ t → va_S (fun q => z ≤ q) H0 T'.heap (locs ++ Lq) := fun st₀ t T' Lq h0 e1 hL hF => by
    obtain ⟨hz, hk⟩ := hF
    rw [h0] at hz hk
    exact ⟨Nat.le_trans h5.1 (by rw [e1]; exact hz), fun q g1 g2 => by rw [e1, hk q (Nat.lt_of_lt_of_le g1 h5.1) g2]; exact h5.2.1 q g1 g2, fun q hq => by
      rcases List.mem_append.mp hq with h | h
      · exact h5.2.2 q h
      · exact hL q h⟩
  rcases hr T hT X with ⟨v, st₀, t, T', Lq, h0, X', hL, e1, e2, ⟨⟨w, M', hv, hp, ws, g2, g3, g4⟩, hF⟩, go⟩ | ⟨q, st₀, t, T', Lq, E, ce, h0, X', hL, e1, e2, ⟨⟨M', hp, ws, g2, g3, g4⟩, hF⟩, hce, hcv, hcl, go⟩
  · cases hv
    obtain ⟨t2, a1, b1⟩ := k v M' hp T'.heap (locs ++ Lq) la ws h1 (by rw [e1]; exact g2) g3 g4 (hkeep st₀ t T' Lq h0 e1 hL hF) h6 T' rfl X'
    exact ⟨t2, go t2 a1, b1⟩
  · obtain ⟨t2, a1, b1⟩ := kx E M' hp T'.heap (locs ++ Lq) la ws rest q ce h1 (by rw [e1]; exact g2) g3 g4 (hkeep st₀ t T' Lq h0 e1 hL hF) h6 (by rw [e1]; exact hce) hcv hcl T' rfl X'
    exact ⟨t2, go.trans a1, b1⟩
theorem xr_callXV0i (C : mq_C p m c cc nL s args Ts own D tys z) {y : MethodName} {bytes : ByteArray} {maxL index mc ms b ci : Nat} {ret : Option FieldType} {ws0 : List Cond} {rm : Room} {Cn : String} {T : u_T} {N : Nat} {fs : List Value}  {P : Int → mq_M → Prop} {px : String → mq_M → Prop}
    (hM : mq_MetX l y ws0 rm D tys [.ref b] M (mq_pi P) px mc ms) (cw : CallW R s args own Cn index y bytes maxL ret ws0 rm mc ms 0) (hb : M b = some (.inr (ci, fs))) (hc : vwCl[ci]? = some (Cn, T, N)) (hst : (st.map fun v => v.category).sum ≤ 8) (hf : cells + mc ≤ R.cells ∧ slots + ms ≤ R.slots) (d : decode cc pc = .ok (.invokevirtual index, 3))
    (kx : ∀ (E : String) (M2 : mq_M), px E M2 → mq_TX p l e R s m args below meth c Q nL D z H0 (cells + mc) (slots + ms) M2 pc L E) (k : ∀ (r : Int) (M2 : mq_M), P r M2 → mq_X p l e R s m args below meth c Q nL D z H0 (cells + mc) (slots + ms) M2 (pc + 3) L (.int (zI r) :: st)) : mq_X p l e R s m args below meth c Q nL D z H0 cells slots M pc L (.ref b :: st) :=
  fun H locs la ws h1 h2 h3 h4 h5 h6 => by
    obtain ⟨q, hq⟩ := h4.at hb
    exact mq_callX h1 h5 h6 (vx_runV (As := []) (rest := st) C.1 (hM z) cw ⟨mq_blind, va_recv C.2.1 h2 hc hq, mq_pre C h2 h3 h4 h5 h6⟩ rfl rfl h1.1 rfl (lv_room hst) d hf) kx (fun v M2 hp => by
      obtain ⟨r, rfl, hp⟩ := hp
      exact k r M2 hp)
theorem xr_callXV0v (C : mq_C p m c cc nL s args Ts own D tys z) {y : MethodName} {bytes : ByteArray} {maxL index mc ms b ci : Nat} {ret : Option FieldType} {ws0 : List Cond} {rm : Room} {Cn : String} {T : u_T} {N : Nat} {fs : List Value}  {P : mq_M → Prop} {px : String → mq_M → Prop}
    (hM : mq_MetX l y ws0 rm D tys [.ref b] M (mq_pv P) px mc ms) (cw : CallW R s args own Cn index y bytes maxL ret ws0 rm mc ms 0) (hb : M b = some (.inr (ci, fs))) (hc : vwCl[ci]? = some (Cn, T, N)) (hst : (st.map fun v => v.category).sum ≤ 8) (hf : cells + mc ≤ R.cells ∧ slots + ms ≤ R.slots) (d : decode cc pc = .ok (.invokevirtual index, 3))
    (kx : ∀ (E : String) (M2 : mq_M), px E M2 → mq_TX p l e R s m args below meth c Q nL D z H0 (cells + mc) (slots + ms) M2 pc L E) (k : ∀ (M2 : mq_M), P M2 → mq_X p l e R s m args below meth c Q nL D z H0 (cells + mc) (slots + ms) M2 (pc + 3) L st) : mq_X p l e R s m args below meth c Q nL D z H0 cells slots M pc L (.ref b :: st) :=
  fun H locs la ws h1 h2 h3 h4 h5 h6 => by
    obtain ⟨q, hq⟩ := h4.at hb
    exact mq_callX h1 h5 h6 (vx_runV (As := []) (rest := st) C.1 (hM z) cw ⟨mq_blind, va_recv C.2.1 h2 hc hq, mq_pre C h2 h3 h4 h5 h6⟩ rfl rfl h1.1 rfl (lv_room hst) d hf) kx (fun v M2 hp => by
      obtain ⟨rfl, hp⟩ := hp
      exact k M2 hp)
theorem xr_callXV0l (C : mq_C p m c cc nL s args Ts own D tys z) {y : MethodName} {bytes : ByteArray} {maxL index mc ms b ci : Nat} {ret : Option FieldType} {ws0 : List Cond} {rm : Room} {Cn : String} {T : u_T} {N : Nat} {fs : List Value}  {P : Int64 → mq_M → Prop} {px : String → mq_M → Prop}
    (hM : mq_MetX l y ws0 rm D tys [.ref b] M (mq_pl P) px mc ms) (cw : CallW R s args own Cn index y bytes maxL ret ws0 rm mc ms 0) (hb : M b = some (.inr (ci, fs))) (hc : vwCl[ci]? = some (Cn, T, N)) (hst : (st.map fun v => v.category).sum ≤ 8) (hf : cells + mc ≤ R.cells ∧ slots + ms ≤ R.slots) (d : decode cc pc = .ok (.invokevirtual index, 3))
    (kx : ∀ (E : String) (M2 : mq_M), px E M2 → mq_TX p l e R s m args below meth c Q nL D z H0 (cells + mc) (slots + ms) M2 pc L E) (k : ∀ (r : Int64) (M2 : mq_M), P r M2 → mq_X p l e R s m args below meth c Q nL D z H0 (cells + mc) (slots + ms) M2 (pc + 3) L (.long r :: st)) : mq_X p l e R s m args below meth c Q nL D z H0 cells slots M pc L (.ref b :: st) :=
  fun H locs la ws h1 h2 h3 h4 h5 h6 => by
    obtain ⟨q, hq⟩ := h4.at hb
    exact mq_callX h1 h5 h6 (vx_runV (As := []) (rest := st) C.1 (hM z) cw ⟨mq_blind, va_recv C.2.1 h2 hc hq, mq_pre C h2 h3 h4 h5 h6⟩ rfl rfl h1.1 rfl (lv_room hst) d hf) kx (fun v M2 hp => by
      obtain ⟨r, rfl, hp⟩ := hp
      exact k r M2 hp)
theorem xr_callXV0a (C : mq_C p m c cc nL s args Ts own D tys z) {y : MethodName} {bytes : ByteArray} {maxL index mc ms b ci : Nat} {ret : Option FieldType} {ws0 : List Cond} {rm : Room} {Cn : String} {T : u_T} {N : Nat} {fs : List Value}  {P : Nat → mq_M → Prop} {px : String → mq_M → Prop}
    (hM : mq_MetX l y ws0 rm D tys [.ref b] M (mq_pa P) px mc ms) (cw : CallW R s args own Cn index y bytes maxL ret ws0 rm mc ms 0) (hb : M b = some (.inr (ci, fs))) (hc : vwCl[ci]? = some (Cn, T, N)) (hst : (st.map fun v => v.category).sum ≤ 8) (hf : cells + mc ≤ R.cells ∧ slots + ms ≤ R.slots) (d : decode cc pc = .ok (.invokevirtual index, 3))
    (kx : ∀ (E : String) (M2 : mq_M), px E M2 → mq_TX p l e R s m args below meth c Q nL D z H0 (cells + mc) (slots + ms) M2 pc L E) (k : ∀ (r : Nat) (M2 : mq_M), P r M2 → mq_X p l e R s m args below meth c Q nL D z H0 (cells + mc) (slots + ms) M2 (pc + 3) L (.ref r :: st)) : mq_X p l e R s m args below meth c Q nL D z H0 cells slots M pc L (.ref b :: st) :=
  fun H locs la ws h1 h2 h3 h4 h5 h6 => by
    obtain ⟨q, hq⟩ := h4.at hb
    exact mq_callX h1 h5 h6 (vx_runV (As := []) (rest := st) C.1 (hM z) cw ⟨mq_blind, va_recv C.2.1 h2 hc hq, mq_pre C h2 h3 h4 h5 h6⟩ rfl rfl h1.1 rfl (lv_room hst) d hf) kx (fun v M2 hp => by
      obtain ⟨r, rfl, hp⟩ := hp
      exact k r M2 hp)
theorem xr_callXV1i (C : mq_C p m c cc nL s args Ts own D tys z) {y : MethodName} {bytes : ByteArray} {maxL index mc ms b ci : Nat} {ret : Option FieldType} {ws0 : List Cond} {rm : Room} {Cn : String} {T : u_T} {N : Nat} {fs : List Value} {a0 : Value} {P : Int → mq_M → Prop} {px : String → mq_M → Prop}
    (hM : mq_MetX l y ws0 rm D tys [.ref b, a0] M (mq_pi P) px mc ms) (cw : CallW R s args own Cn index y bytes maxL ret ws0 rm mc ms 1) (hb : M b = some (.inr (ci, fs))) (hc : vwCl[ci]? = some (Cn, T, N)) (hst : (st.map fun v => v.category).sum ≤ 8) (hf : cells + mc ≤ R.cells ∧ slots + ms ≤ R.slots) (d : decode cc pc = .ok (.invokevirtual index, 3))
    (kx : ∀ (E : String) (M2 : mq_M), px E M2 → mq_TX p l e R s m args below meth c Q nL D z H0 (cells + mc) (slots + ms) M2 pc L E) (k : ∀ (r : Int) (M2 : mq_M), P r M2 → mq_X p l e R s m args below meth c Q nL D z H0 (cells + mc) (slots + ms) M2 (pc + 3) L (.int (zI r) :: st)) : mq_X p l e R s m args below meth c Q nL D z H0 cells slots M pc L (a0 :: .ref b :: st) :=
  fun H locs la ws h1 h2 h3 h4 h5 h6 => by
    obtain ⟨q, hq⟩ := h4.at hb
    exact mq_callX h1 h5 h6 (vx_runV (As := [a0]) (rest := st) C.1 (hM z) cw ⟨mq_blind, va_recv C.2.1 h2 hc hq, mq_pre C h2 h3 h4 h5 h6⟩ rfl rfl h1.1 rfl (lv_room hst) d hf) kx (fun v M2 hp => by
      obtain ⟨r, rfl, hp⟩ := hp
      exact k r M2 hp)
theorem xr_callXV1v (C : mq_C p m c cc nL s args Ts own D tys z) {y : MethodName} {bytes : ByteArray} {maxL index mc ms b ci : Nat} {ret : Option FieldType} {ws0 : List Cond} {rm : Room} {Cn : String} {T : u_T} {N : Nat} {fs : List Value} {a0 : Value} {P : mq_M → Prop} {px : String → mq_M → Prop}
    (hM : mq_MetX l y ws0 rm D tys [.ref b, a0] M (mq_pv P) px mc ms) (cw : CallW R s args own Cn index y bytes maxL ret ws0 rm mc ms 1) (hb : M b = some (.inr (ci, fs))) (hc : vwCl[ci]? = some (Cn, T, N)) (hst : (st.map fun v => v.category).sum ≤ 8) (hf : cells + mc ≤ R.cells ∧ slots + ms ≤ R.slots) (d : decode cc pc = .ok (.invokevirtual index, 3))
    (kx : ∀ (E : String) (M2 : mq_M), px E M2 → mq_TX p l e R s m args below meth c Q nL D z H0 (cells + mc) (slots + ms) M2 pc L E) (k : ∀ (M2 : mq_M), P M2 → mq_X p l e R s m args below meth c Q nL D z H0 (cells + mc) (slots + ms) M2 (pc + 3) L st) : mq_X p l e R s m args below meth c Q nL D z H0 cells slots M pc L (a0 :: .ref b :: st) :=
  fun H locs la ws h1 h2 h3 h4 h5 h6 => by
    obtain ⟨q, hq⟩ := h4.at hb
    exact mq_callX h1 h5 h6 (vx_runV (As := [a0]) (rest := st) C.1 (hM z) cw ⟨mq_blind, va_recv C.2.1 h2 hc hq, mq_pre C h2 h3 h4 h5 h6⟩ rfl rfl h1.1 rfl (lv_room hst) d hf) kx (fun v M2 hp => by
      obtain ⟨rfl, hp⟩ := hp
      exact k M2 hp)
theorem xr_callXV1l (C : mq_C p m c cc nL s args Ts own D tys z) {y : MethodName} {bytes : ByteArray} {maxL index mc ms b ci : Nat} {ret : Option FieldType} {ws0 : List Cond} {rm : Room} {Cn : String} {T : u_T} {N : Nat} {fs : List Value} {a0 : Value} {P : Int64 → mq_M → Prop} {px : String → mq_M → Prop}
    (hM : mq_MetX l y ws0 rm D tys [.ref b, a0] M (mq_pl P) px mc ms) (cw : CallW R s args own Cn index y bytes maxL ret ws0 rm mc ms 1) (hb : M b = some (.inr (ci, fs))) (hc : vwCl[ci]? = some (Cn, T, N)) (hst : (st.map fun v => v.category).sum ≤ 8) (hf : cells + mc ≤ R.cells ∧ slots + ms ≤ R.slots) (d : decode cc pc = .ok (.invokevirtual index, 3))
    (kx : ∀ (E : String) (M2 : mq_M), px E M2 → mq_TX p l e R s m args below meth c Q nL D z H0 (cells + mc) (slots + ms) M2 pc L E) (k : ∀ (r : Int64) (M2 : mq_M), P r M2 → mq_X p l e R s m args below meth c Q nL D z H0 (cells + mc) (slots + ms) M2 (pc + 3) L (.long r :: st)) : mq_X p l e R s m args below meth c Q nL D z H0 cells slots M pc L (a0 :: .ref b :: st) :=
  fun H locs la ws h1 h2 h3 h4 h5 h6 => by
    obtain ⟨q, hq⟩ := h4.at hb
    exact mq_callX h1 h5 h6 (vx_runV (As := [a0]) (rest := st) C.1 (hM z) cw ⟨mq_blind, va_recv C.2.1 h2 hc hq, mq_pre C h2 h3 h4 h5 h6⟩ rfl rfl h1.1 rfl (lv_room hst) d hf) kx (fun v M2 hp => by
      obtain ⟨r, rfl, hp⟩ := hp
      exact k r M2 hp)
theorem xr_callXV1a (C : mq_C p m c cc nL s args Ts own D tys z) {y : MethodName} {bytes : ByteArray} {maxL index mc ms b ci : Nat} {ret : Option FieldType} {ws0 : List Cond} {rm : Room} {Cn : String} {T : u_T} {N : Nat} {fs : List Value} {a0 : Value} {P : Nat → mq_M → Prop} {px : String → mq_M → Prop}
    (hM : mq_MetX l y ws0 rm D tys [.ref b, a0] M (mq_pa P) px mc ms) (cw : CallW R s args own Cn index y bytes maxL ret ws0 rm mc ms 1) (hb : M b = some (.inr (ci, fs))) (hc : vwCl[ci]? = some (Cn, T, N)) (hst : (st.map fun v => v.category).sum ≤ 8) (hf : cells + mc ≤ R.cells ∧ slots + ms ≤ R.slots) (d : decode cc pc = .ok (.invokevirtual index, 3))
    (kx : ∀ (E : String) (M2 : mq_M), px E M2 → mq_TX p l e R s m args below meth c Q nL D z H0 (cells + mc) (slots + ms) M2 pc L E) (k : ∀ (r : Nat) (M2 : mq_M), P r M2 → mq_X p l e R s m args below meth c Q nL D z H0 (cells + mc) (slots + ms) M2 (pc + 3) L (.ref r :: st)) : mq_X p l e R s m args below meth c Q nL D z H0 cells slots M pc L (a0 :: .ref b :: st) :=
  fun H locs la ws h1 h2 h3 h4 h5 h6 => by
    obtain ⟨q, hq⟩ := h4.at hb
    exact mq_callX h1 h5 h6 (vx_runV (As := [a0]) (rest := st) C.1 (hM z) cw ⟨mq_blind, va_recv C.2.1 h2 hc hq, mq_pre C h2 h3 h4 h5 h6⟩ rfl rfl h1.1 rfl (lv_room hst) d hf) kx (fun v M2 hp => by
      obtain ⟨r, rfl, hp⟩ := hp
      exact k r M2 hp)
theorem xr_callXV2i (C : mq_C p m c cc nL s args Ts own D tys z) {y : MethodName} {bytes : ByteArray} {maxL index mc ms b ci : Nat} {ret : Option FieldType} {ws0 : List Cond} {rm : Room} {Cn : String} {T : u_T} {N : Nat} {fs : List Value} {a0 a1 : Value} {P : Int → mq_M → Prop} {px : String → mq_M → Prop}
    (hM : mq_MetX l y ws0 rm D tys [.ref b, a0, a1] M (mq_pi P) px mc ms) (cw : CallW R s args own Cn index y bytes maxL ret ws0 rm mc ms 2) (hb : M b = some (.inr (ci, fs))) (hc : vwCl[ci]? = some (Cn, T, N)) (hst : (st.map fun v => v.category).sum ≤ 8) (hf : cells + mc ≤ R.cells ∧ slots + ms ≤ R.slots) (d : decode cc pc = .ok (.invokevirtual index, 3))
    (kx : ∀ (E : String) (M2 : mq_M), px E M2 → mq_TX p l e R s m args below meth c Q nL D z H0 (cells + mc) (slots + ms) M2 pc L E) (k : ∀ (r : Int) (M2 : mq_M), P r M2 → mq_X p l e R s m args below meth c Q nL D z H0 (cells + mc) (slots + ms) M2 (pc + 3) L (.int (zI r) :: st)) : mq_X p l e R s m args below meth c Q nL D z H0 cells slots M pc L (a1 :: a0 :: .ref b :: st) :=
  fun H locs la ws h1 h2 h3 h4 h5 h6 => by
    obtain ⟨q, hq⟩ := h4.at hb
    exact mq_callX h1 h5 h6 (vx_runV (As := [a0, a1]) (rest := st) C.1 (hM z) cw ⟨mq_blind, va_recv C.2.1 h2 hc hq, mq_pre C h2 h3 h4 h5 h6⟩ rfl rfl h1.1 rfl (lv_room hst) d hf) kx (fun v M2 hp => by
      obtain ⟨r, rfl, hp⟩ := hp
      exact k r M2 hp)
theorem xr_callXV2v (C : mq_C p m c cc nL s args Ts own D tys z) {y : MethodName} {bytes : ByteArray} {maxL index mc ms b ci : Nat} {ret : Option FieldType} {ws0 : List Cond} {rm : Room} {Cn : String} {T : u_T} {N : Nat} {fs : List Value} {a0 a1 : Value} {P : mq_M → Prop} {px : String → mq_M → Prop}
    (hM : mq_MetX l y ws0 rm D tys [.ref b, a0, a1] M (mq_pv P) px mc ms) (cw : CallW R s args own Cn index y bytes maxL ret ws0 rm mc ms 2) (hb : M b = some (.inr (ci, fs))) (hc : vwCl[ci]? = some (Cn, T, N)) (hst : (st.map fun v => v.category).sum ≤ 8) (hf : cells + mc ≤ R.cells ∧ slots + ms ≤ R.slots) (d : decode cc pc = .ok (.invokevirtual index, 3))
    (kx : ∀ (E : String) (M2 : mq_M), px E M2 → mq_TX p l e R s m args below meth c Q nL D z H0 (cells + mc) (slots + ms) M2 pc L E) (k : ∀ (M2 : mq_M), P M2 → mq_X p l e R s m args below meth c Q nL D z H0 (cells + mc) (slots + ms) M2 (pc + 3) L st) : mq_X p l e R s m args below meth c Q nL D z H0 cells slots M pc L (a1 :: a0 :: .ref b :: st) :=
  fun H locs la ws h1 h2 h3 h4 h5 h6 => by
    obtain ⟨q, hq⟩ := h4.at hb
    exact mq_callX h1 h5 h6 (vx_runV (As := [a0, a1]) (rest := st) C.1 (hM z) cw ⟨mq_blind, va_recv C.2.1 h2 hc hq, mq_pre C h2 h3 h4 h5 h6⟩ rfl rfl h1.1 rfl (lv_room hst) d hf) kx (fun v M2 hp => by
      obtain ⟨rfl, hp⟩ := hp
      exact k M2 hp)
theorem xr_callXV2l (C : mq_C p m c cc nL s args Ts own D tys z) {y : MethodName} {bytes : ByteArray} {maxL index mc ms b ci : Nat} {ret : Option FieldType} {ws0 : List Cond} {rm : Room} {Cn : String} {T : u_T} {N : Nat} {fs : List Value} {a0 a1 : Value} {P : Int64 → mq_M → Prop} {px : String → mq_M → Prop}
    (hM : mq_MetX l y ws0 rm D tys [.ref b, a0, a1] M (mq_pl P) px mc ms) (cw : CallW R s args own Cn index y bytes maxL ret ws0 rm mc ms 2) (hb : M b = some (.inr (ci, fs))) (hc : vwCl[ci]? = some (Cn, T, N)) (hst : (st.map fun v => v.category).sum ≤ 8) (hf : cells + mc ≤ R.cells ∧ slots + ms ≤ R.slots) (d : decode cc pc = .ok (.invokevirtual index, 3))
    (kx : ∀ (E : String) (M2 : mq_M), px E M2 → mq_TX p l e R s m args below meth c Q nL D z H0 (cells + mc) (slots + ms) M2 pc L E) (k : ∀ (r : Int64) (M2 : mq_M), P r M2 → mq_X p l e R s m args below meth c Q nL D z H0 (cells + mc) (slots + ms) M2 (pc + 3) L (.long r :: st)) : mq_X p l e R s m args below meth c Q nL D z H0 cells slots M pc L (a1 :: a0 :: .ref b :: st) :=
  fun H locs la ws h1 h2 h3 h4 h5 h6 => by
    obtain ⟨q, hq⟩ := h4.at hb
    exact mq_callX h1 h5 h6 (vx_runV (As := [a0, a1]) (rest := st) C.1 (hM z) cw ⟨mq_blind, va_recv C.2.1 h2 hc hq, mq_pre C h2 h3 h4 h5 h6⟩ rfl rfl h1.1 rfl (lv_room hst) d hf) kx (fun v M2 hp => by
      obtain ⟨r, rfl, hp⟩ := hp
      exact k r M2 hp)
theorem xr_callXV2a (C : mq_C p m c cc nL s args Ts own D tys z) {y : MethodName} {bytes : ByteArray} {maxL index mc ms b ci : Nat} {ret : Option FieldType} {ws0 : List Cond} {rm : Room} {Cn : String} {T : u_T} {N : Nat} {fs : List Value} {a0 a1 : Value} {P : Nat → mq_M → Prop} {px : String → mq_M → Prop}
    (hM : mq_MetX l y ws0 rm D tys [.ref b, a0, a1] M (mq_pa P) px mc ms) (cw : CallW R s args own Cn index y bytes maxL ret ws0 rm mc ms 2) (hb : M b = some (.inr (ci, fs))) (hc : vwCl[ci]? = some (Cn, T, N)) (hst : (st.map fun v => v.category).sum ≤ 8) (hf : cells + mc ≤ R.cells ∧ slots + ms ≤ R.slots) (d : decode cc pc = .ok (.invokevirtual index, 3))
    (kx : ∀ (E : String) (M2 : mq_M), px E M2 → mq_TX p l e R s m args below meth c Q nL D z H0 (cells + mc) (slots + ms) M2 pc L E) (k : ∀ (r : Nat) (M2 : mq_M), P r M2 → mq_X p l e R s m args below meth c Q nL D z H0 (cells + mc) (slots + ms) M2 (pc + 3) L (.ref r :: st)) : mq_X p l e R s m args below meth c Q nL D z H0 cells slots M pc L (a1 :: a0 :: .ref b :: st) :=
  fun H locs la ws h1 h2 h3 h4 h5 h6 => by
    obtain ⟨q, hq⟩ := h4.at hb
    exact mq_callX h1 h5 h6 (vx_runV (As := [a0, a1]) (rest := st) C.1 (hM z) cw ⟨mq_blind, va_recv C.2.1 h2 hc hq, mq_pre C h2 h3 h4 h5 h6⟩ rfl rfl h1.1 rfl (lv_room hst) d hf) kx (fun v M2 hp => by
      obtain ⟨r, rfl, hp⟩ := hp
      exact k r M2 hp)
theorem xr_callXV3i (C : mq_C p m c cc nL s args Ts own D tys z) {y : MethodName} {bytes : ByteArray} {maxL index mc ms b ci : Nat} {ret : Option FieldType} {ws0 : List Cond} {rm : Room} {Cn : String} {T : u_T} {N : Nat} {fs : List Value} {a0 a1 a2 : Value} {P : Int → mq_M → Prop} {px : String → mq_M → Prop}
    (hM : mq_MetX l y ws0 rm D tys [.ref b, a0, a1, a2] M (mq_pi P) px mc ms) (cw : CallW R s args own Cn index y bytes maxL ret ws0 rm mc ms 3) (hb : M b = some (.inr (ci, fs))) (hc : vwCl[ci]? = some (Cn, T, N)) (hst : (st.map fun v => v.category).sum ≤ 8) (hf : cells + mc ≤ R.cells ∧ slots + ms ≤ R.slots) (d : decode cc pc = .ok (.invokevirtual index, 3))
    (kx : ∀ (E : String) (M2 : mq_M), px E M2 → mq_TX p l e R s m args below meth c Q nL D z H0 (cells + mc) (slots + ms) M2 pc L E) (k : ∀ (r : Int) (M2 : mq_M), P r M2 → mq_X p l e R s m args below meth c Q nL D z H0 (cells + mc) (slots + ms) M2 (pc + 3) L (.int (zI r) :: st)) : mq_X p l e R s m args below meth c Q nL D z H0 cells slots M pc L (a2 :: a1 :: a0 :: .ref b :: st) :=
  fun H locs la ws h1 h2 h3 h4 h5 h6 => by
    obtain ⟨q, hq⟩ := h4.at hb
    exact mq_callX h1 h5 h6 (vx_runV (As := [a0, a1, a2]) (rest := st) C.1 (hM z) cw ⟨mq_blind, va_recv C.2.1 h2 hc hq, mq_pre C h2 h3 h4 h5 h6⟩ rfl rfl h1.1 rfl (lv_room hst) d hf) kx (fun v M2 hp => by
      obtain ⟨r, rfl, hp⟩ := hp
      exact k r M2 hp)
theorem xr_callXV3v (C : mq_C p m c cc nL s args Ts own D tys z) {y : MethodName} {bytes : ByteArray} {maxL index mc ms b ci : Nat} {ret : Option FieldType} {ws0 : List Cond} {rm : Room} {Cn : String} {T : u_T} {N : Nat} {fs : List Value} {a0 a1 a2 : Value} {P : mq_M → Prop} {px : String → mq_M → Prop}
    (hM : mq_MetX l y ws0 rm D tys [.ref b, a0, a1, a2] M (mq_pv P) px mc ms) (cw : CallW R s args own Cn index y bytes maxL ret ws0 rm mc ms 3) (hb : M b = some (.inr (ci, fs))) (hc : vwCl[ci]? = some (Cn, T, N)) (hst : (st.map fun v => v.category).sum ≤ 8) (hf : cells + mc ≤ R.cells ∧ slots + ms ≤ R.slots) (d : decode cc pc = .ok (.invokevirtual index, 3))
    (kx : ∀ (E : String) (M2 : mq_M), px E M2 → mq_TX p l e R s m args below meth c Q nL D z H0 (cells + mc) (slots + ms) M2 pc L E) (k : ∀ (M2 : mq_M), P M2 → mq_X p l e R s m args below meth c Q nL D z H0 (cells + mc) (slots + ms) M2 (pc + 3) L st) : mq_X p l e R s m args below meth c Q nL D z H0 cells slots M pc L (a2 :: a1 :: a0 :: .ref b :: st) :=
  fun H locs la ws h1 h2 h3 h4 h5 h6 => by
    obtain ⟨q, hq⟩ := h4.at hb
    exact mq_callX h1 h5 h6 (vx_runV (As := [a0, a1, a2]) (rest := st) C.1 (hM z) cw ⟨mq_blind, va_recv C.2.1 h2 hc hq, mq_pre C h2 h3 h4 h5 h6⟩ rfl rfl h1.1 rfl (lv_room hst) d hf) kx (fun v M2 hp => by
      obtain ⟨rfl, hp⟩ := hp
      exact k M2 hp)
theorem xr_callXV3l (C : mq_C p m c cc nL s args Ts own D tys z) {y : MethodName} {bytes : ByteArray} {maxL index mc ms b ci : Nat} {ret : Option FieldType} {ws0 : List Cond} {rm : Room} {Cn : String} {T : u_T} {N : Nat} {fs : List Value} {a0 a1 a2 : Value} {P : Int64 → mq_M → Prop} {px : String → mq_M → Prop}
    (hM : mq_MetX l y ws0 rm D tys [.ref b, a0, a1, a2] M (mq_pl P) px mc ms) (cw : CallW R s args own Cn index y bytes maxL ret ws0 rm mc ms 3) (hb : M b = some (.inr (ci, fs))) (hc : vwCl[ci]? = some (Cn, T, N)) (hst : (st.map fun v => v.category).sum ≤ 8) (hf : cells + mc ≤ R.cells ∧ slots + ms ≤ R.slots) (d : decode cc pc = .ok (.invokevirtual index, 3))
    (kx : ∀ (E : String) (M2 : mq_M), px E M2 → mq_TX p l e R s m args below meth c Q nL D z H0 (cells + mc) (slots + ms) M2 pc L E) (k : ∀ (r : Int64) (M2 : mq_M), P r M2 → mq_X p l e R s m args below meth c Q nL D z H0 (cells + mc) (slots + ms) M2 (pc + 3) L (.long r :: st)) : mq_X p l e R s m args below meth c Q nL D z H0 cells slots M pc L (a2 :: a1 :: a0 :: .ref b :: st) :=
  fun H locs la ws h1 h2 h3 h4 h5 h6 => by
    obtain ⟨q, hq⟩ := h4.at hb
    exact mq_callX h1 h5 h6 (vx_runV (As := [a0, a1, a2]) (rest := st) C.1 (hM z) cw ⟨mq_blind, va_recv C.2.1 h2 hc hq, mq_pre C h2 h3 h4 h5 h6⟩ rfl rfl h1.1 rfl (lv_room hst) d hf) kx (fun v M2 hp => by
      obtain ⟨r, rfl, hp⟩ := hp
      exact k r M2 hp)
theorem xr_callXV3a (C : mq_C p m c cc nL s args Ts own D tys z) {y : MethodName} {bytes : ByteArray} {maxL index mc ms b ci : Nat} {ret : Option FieldType} {ws0 : List Cond} {rm : Room} {Cn : String} {T : u_T} {N : Nat} {fs : List Value} {a0 a1 a2 : Value} {P : Nat → mq_M → Prop} {px : String → mq_M → Prop}
    (hM : mq_MetX l y ws0 rm D tys [.ref b, a0, a1, a2] M (mq_pa P) px mc ms) (cw : CallW R s args own Cn index y bytes maxL ret ws0 rm mc ms 3) (hb : M b = some (.inr (ci, fs))) (hc : vwCl[ci]? = some (Cn, T, N)) (hst : (st.map fun v => v.category).sum ≤ 8) (hf : cells + mc ≤ R.cells ∧ slots + ms ≤ R.slots) (d : decode cc pc = .ok (.invokevirtual index, 3))
    (kx : ∀ (E : String) (M2 : mq_M), px E M2 → mq_TX p l e R s m args below meth c Q nL D z H0 (cells + mc) (slots + ms) M2 pc L E) (k : ∀ (r : Nat) (M2 : mq_M), P r M2 → mq_X p l e R s m args below meth c Q nL D z H0 (cells + mc) (slots + ms) M2 (pc + 3) L (.ref r :: st)) : mq_X p l e R s m args below meth c Q nL D z H0 cells slots M pc L (a2 :: a1 :: a0 :: .ref b :: st) :=
  fun H locs la ws h1 h2 h3 h4 h5 h6 => by
    obtain ⟨q, hq⟩ := h4.at hb
    exact mq_callX h1 h5 h6 (vx_runV (As := [a0, a1, a2]) (rest := st) C.1 (hM z) cw ⟨mq_blind, va_recv C.2.1 h2 hc hq, mq_pre C h2 h3 h4 h5 h6⟩ rfl rfl h1.1 rfl (lv_room hst) d hf) kx (fun v M2 hp => by
      obtain ⟨r, rfl, hp⟩ := hp
      exact k r M2 hp)
theorem xr_callXH0i (C : mq_C p m c cc nL s args Ts own D tys z) {y : MethodName} {bytes : ByteArray} {maxL index mc ms : Nat} {ret : Option FieldType} {hh : List (Nat × Nat × Nat × Nat)} {ws0 : List Cond} {rm : Room}  {P : Int → mq_M → Prop} {px : String → mq_M → Prop}
    (hM : mq_MetX l y ws0 rm D tys [] M (mq_pi P) px mc ms) (cw : vx_CSW R s args own index y bytes maxL ret hh ws0 rm mc ms 0) (hst : (st.map fun v => v.category).sum ≤ 8) (hf : cells + mc ≤ R.cells ∧ slots + ms ≤ R.slots) (d : decode cc pc = .ok (.invokestatic index, 3))
    (kx : ∀ (E : String) (M2 : mq_M), px E M2 → mq_TX p l e R s m args below meth c Q nL D z H0 (cells + mc) (slots + ms) M2 pc L E) (k : ∀ (r : Int) (M2 : mq_M), P r M2 → mq_X p l e R s m args below meth c Q nL D z H0 (cells + mc) (slots + ms) M2 (pc + 3) L (.int (zI r) :: st)) : mq_X p l e R s m args below meth c Q nL D z H0 cells slots M pc L (st) :=
  fun H locs la ws h1 h2 h3 h4 h5 h6 =>
    mq_callX h1 h5 h6 (vx_runSX (As := []) (rest := st) C.1 (hM z) cw ⟨mq_blind, mq_pre C h2 h3 h4 h5 h6⟩ rfl rfl h1.1 rfl (lv_room hst) d hf) kx (fun v M2 hp => by
      obtain ⟨r, rfl, hp⟩ := hp
      exact k r M2 hp)
theorem xr_callXH1i (C : mq_C p m c cc nL s args Ts own D tys z) {y : MethodName} {bytes : ByteArray} {maxL index mc ms : Nat} {ret : Option FieldType} {hh : List (Nat × Nat × Nat × Nat)} {ws0 : List Cond} {rm : Room} {a0 : Value} {P : Int → mq_M → Prop} {px : String → mq_M → Prop}
    (hM : mq_MetX l y ws0 rm D tys [a0] M (mq_pi P) px mc ms) (cw : vx_CSW R s args own index y bytes maxL ret hh ws0 rm mc ms 1) (hst : (st.map fun v => v.category).sum ≤ 8) (hf : cells + mc ≤ R.cells ∧ slots + ms ≤ R.slots) (d : decode cc pc = .ok (.invokestatic index, 3))
    (kx : ∀ (E : String) (M2 : mq_M), px E M2 → mq_TX p l e R s m args below meth c Q nL D z H0 (cells + mc) (slots + ms) M2 pc L E) (k : ∀ (r : Int) (M2 : mq_M), P r M2 → mq_X p l e R s m args below meth c Q nL D z H0 (cells + mc) (slots + ms) M2 (pc + 3) L (.int (zI r) :: st)) : mq_X p l e R s m args below meth c Q nL D z H0 cells slots M pc L (a0 :: st) :=
  fun H locs la ws h1 h2 h3 h4 h5 h6 =>
    mq_callX h1 h5 h6 (vx_runSX (As := [a0]) (rest := st) C.1 (hM z) cw ⟨mq_blind, mq_pre C h2 h3 h4 h5 h6⟩ rfl rfl h1.1 rfl (lv_room hst) d hf) kx (fun v M2 hp => by
      obtain ⟨r, rfl, hp⟩ := hp
      exact k r M2 hp)
theorem xr_callXH2i (C : mq_C p m c cc nL s args Ts own D tys z) {y : MethodName} {bytes : ByteArray} {maxL index mc ms : Nat} {ret : Option FieldType} {hh : List (Nat × Nat × Nat × Nat)} {ws0 : List Cond} {rm : Room} {a0 a1 : Value} {P : Int → mq_M → Prop} {px : String → mq_M → Prop}
    (hM : mq_MetX l y ws0 rm D tys [a0, a1] M (mq_pi P) px mc ms) (cw : vx_CSW R s args own index y bytes maxL ret hh ws0 rm mc ms 2) (hst : (st.map fun v => v.category).sum ≤ 8) (hf : cells + mc ≤ R.cells ∧ slots + ms ≤ R.slots) (d : decode cc pc = .ok (.invokestatic index, 3))
    (kx : ∀ (E : String) (M2 : mq_M), px E M2 → mq_TX p l e R s m args below meth c Q nL D z H0 (cells + mc) (slots + ms) M2 pc L E) (k : ∀ (r : Int) (M2 : mq_M), P r M2 → mq_X p l e R s m args below meth c Q nL D z H0 (cells + mc) (slots + ms) M2 (pc + 3) L (.int (zI r) :: st)) : mq_X p l e R s m args below meth c Q nL D z H0 cells slots M pc L (a1 :: a0 :: st) :=
  fun H locs la ws h1 h2 h3 h4 h5 h6 =>
    mq_callX h1 h5 h6 (vx_runSX (As := [a0, a1]) (rest := st) C.1 (hM z) cw ⟨mq_blind, mq_pre C h2 h3 h4 h5 h6⟩ rfl rfl h1.1 rfl (lv_room hst) d hf) kx (fun v M2 hp => by
      obtain ⟨r, rfl, hp⟩ := hp
      exact k r M2 hp)
theorem xr_callXH3i (C : mq_C p m c cc nL s args Ts own D tys z) {y : MethodName} {bytes : ByteArray} {maxL index mc ms : Nat} {ret : Option FieldType} {hh : List (Nat × Nat × Nat × Nat)} {ws0 : List Cond} {rm : Room} {a0 a1 a2 : Value} {P : Int → mq_M → Prop} {px : String → mq_M → Prop}
    (hM : mq_MetX l y ws0 rm D tys [a0, a1, a2] M (mq_pi P) px mc ms) (cw : vx_CSW R s args own index y bytes maxL ret hh ws0 rm mc ms 3) (hst : (st.map fun v => v.category).sum ≤ 8) (hf : cells + mc ≤ R.cells ∧ slots + ms ≤ R.slots) (d : decode cc pc = .ok (.invokestatic index, 3))
    (kx : ∀ (E : String) (M2 : mq_M), px E M2 → mq_TX p l e R s m args below meth c Q nL D z H0 (cells + mc) (slots + ms) M2 pc L E) (k : ∀ (r : Int) (M2 : mq_M), P r M2 → mq_X p l e R s m args below meth c Q nL D z H0 (cells + mc) (slots + ms) M2 (pc + 3) L (.int (zI r) :: st)) : mq_X p l e R s m args below meth c Q nL D z H0 cells slots M pc L (a2 :: a1 :: a0 :: st) :=
  fun H locs la ws h1 h2 h3 h4 h5 h6 =>
    mq_callX h1 h5 h6 (vx_runSX (As := [a0, a1, a2]) (rest := st) C.1 (hM z) cw ⟨mq_blind, mq_pre C h2 h3 h4 h5 h6⟩ rfl rfl h1.1 rfl (lv_room hst) d hf) kx (fun v M2 hp => by
      obtain ⟨r, rfl, hp⟩ := hp
      exact k r M2 hp)
theorem xr_callXH4i (C : mq_C p m c cc nL s args Ts own D tys z) {y : MethodName} {bytes : ByteArray} {maxL index mc ms : Nat} {ret : Option FieldType} {hh : List (Nat × Nat × Nat × Nat)} {ws0 : List Cond} {rm : Room} {a0 a1 a2 a3 : Value} {P : Int → mq_M → Prop} {px : String → mq_M → Prop}
    (hM : mq_MetX l y ws0 rm D tys [a0, a1, a2, a3] M (mq_pi P) px mc ms) (cw : vx_CSW R s args own index y bytes maxL ret hh ws0 rm mc ms 4) (hst : (st.map fun v => v.category).sum ≤ 8) (hf : cells + mc ≤ R.cells ∧ slots + ms ≤ R.slots) (d : decode cc pc = .ok (.invokestatic index, 3))
    (kx : ∀ (E : String) (M2 : mq_M), px E M2 → mq_TX p l e R s m args below meth c Q nL D z H0 (cells + mc) (slots + ms) M2 pc L E) (k : ∀ (r : Int) (M2 : mq_M), P r M2 → mq_X p l e R s m args below meth c Q nL D z H0 (cells + mc) (slots + ms) M2 (pc + 3) L (.int (zI r) :: st)) : mq_X p l e R s m args below meth c Q nL D z H0 cells slots M pc L (a3 :: a2 :: a1 :: a0 :: st) :=
  fun H locs la ws h1 h2 h3 h4 h5 h6 =>
    mq_callX h1 h5 h6 (vx_runSX (As := [a0, a1, a2, a3]) (rest := st) C.1 (hM z) cw ⟨mq_blind, mq_pre C h2 h3 h4 h5 h6⟩ rfl rfl h1.1 rfl (lv_room hst) d hf) kx (fun v M2 hp => by
      obtain ⟨r, rfl, hp⟩ := hp
      exact k r M2 hp)
theorem xr_callXH5i (C : mq_C p m c cc nL s args Ts own D tys z) {y : MethodName} {bytes : ByteArray} {maxL index mc ms : Nat} {ret : Option FieldType} {hh : List (Nat × Nat × Nat × Nat)} {ws0 : List Cond} {rm : Room} {a0 a1 a2 a3 a4 : Value} {P : Int → mq_M → Prop} {px : String → mq_M → Prop}
    (hM : mq_MetX l y ws0 rm D tys [a0, a1, a2, a3, a4] M (mq_pi P) px mc ms) (cw : vx_CSW R s args own index y bytes maxL ret hh ws0 rm mc ms 5) (hst : (st.map fun v => v.category).sum ≤ 8) (hf : cells + mc ≤ R.cells ∧ slots + ms ≤ R.slots) (d : decode cc pc = .ok (.invokestatic index, 3))
    (kx : ∀ (E : String) (M2 : mq_M), px E M2 → mq_TX p l e R s m args below meth c Q nL D z H0 (cells + mc) (slots + ms) M2 pc L E) (k : ∀ (r : Int) (M2 : mq_M), P r M2 → mq_X p l e R s m args below meth c Q nL D z H0 (cells + mc) (slots + ms) M2 (pc + 3) L (.int (zI r) :: st)) : mq_X p l e R s m args below meth c Q nL D z H0 cells slots M pc L (a4 :: a3 :: a2 :: a1 :: a0 :: st) :=
  fun H locs la ws h1 h2 h3 h4 h5 h6 =>
    mq_callX h1 h5 h6 (vx_runSX (As := [a0, a1, a2, a3, a4]) (rest := st) C.1 (hM z) cw ⟨mq_blind, mq_pre C h2 h3 h4 h5 h6⟩ rfl rfl h1.1 rfl (lv_room hst) d hf) kx (fun v M2 hp => by
      obtain ⟨r, rfl, hp⟩ := hp
      exact k r M2 hp)
theorem mq_MetX.of {y : MethodName} {ws0 ws' : List Cond} {rm : Room} {av : List Value} {post : Option Value → mq_M → Prop} {px : String → mq_M → Prop} {mc ms maxL : Nat} {ret : Option FieldType}  {L0 : List (Option Value)}
    (hy : plainName y.cls = true) (hw : ws0 = Cond.code y cc maxL ret :: ws') (hlen : (lg_sl av).length ≤ maxL) (hL : mq_of maxL (lv_args 0 av) = L0) (ho : y.cls = own)
    (body : ∀ (p : Program) (e : Env) (s : State) (m : MethodId) (args : Array Value) (below : List Frame) (meth : Method) (c : Code) (z : Nat), mq_C p m c cc maxL s args ws0 own D tys z → meth.sig.returnType = ret → meth.locks = false → (∀ x ∈ c.exceptionTable.toList, False) →
      mq_X p l e rm s m args below meth c (vx_MQ below (mq_Qc D z post) (mq_XC D z px) args s mc ms (fun q => z ≤ q)) maxL D z s.heap 0 0 M 0 L0 []) : mq_MetX l y ws0 rm D tys av M post px mc ms := by
  intro z
  refine vx_ofW (cc := cc) (maxL := maxL) (ret := ret) hy hw ?_
  intro p e s m args below meth c s₁ B hml hx hv
  obtain ⟨rfl, ⟨ws, hP, hD, hI⟩, hz, hK⟩ := hv
  subst hL
  subst ho
  rw [lg_entry_eq]
  exact body p e s m _ below meth c z ⟨⟨B.exec, B.bytes, hml, findClass_of_methodNamed B.named, atoms_spec (ws := ws0) B.pre⟩, hK⟩ B.returns B.notSynchronized hx s.heap [] _ ws (mq_L.entry (lv_entry av hlen)) hP hD hI va_S.rf ⟨hz, rfl⟩
theorem mq_MetX.ofH {y : MethodName} {ws0 ws' : List Cond} {rm : Room} {av : List Value} {post : Option Value → mq_M → Prop} {px : String → mq_M → Prop} {mc ms maxL : Nat} {ret : Option FieldType} {hh : List (Nat × Nat × Nat × Nat)} {L0 : List (Option Value)}
    (hy : plainName y.cls = true) (hw : ws0 = Cond.codeWith y cc maxL ret hh :: ws') (hlen : (lg_sl av).length ≤ maxL) (hL : mq_of maxL (lv_args 0 av) = L0) (ho : y.cls = own)
    (body : ∀ (p : Program) (e : Env) (s : State) (m : MethodId) (args : Array Value) (below : List Frame) (meth : Method) (c : Code) (z : Nat), mq_C p m c cc maxL s args ws0 own D tys z → meth.sig.returnType = ret → meth.locks = false → c.exceptionTable.toList = tableOf hh →
      mq_X p l e rm s m args below meth c (vx_MQ below (mq_Qc D z post) (mq_XC D z px) args s mc ms (fun q => z ≤ q)) maxL D z s.heap 0 0 M 0 L0 []) : mq_MetX l y ws0 rm D tys av M post px mc ms := by
  intro z
  refine vx_ofWH (cc := cc) (maxL := maxL) (ret := ret) (hh := hh) hy hw ?_
  intro p e s m args below meth c s₁ B hml hv
  obtain ⟨rfl, ⟨ws, hP, hD, hI⟩, hz, hK⟩ := hv
  subst hL
  subst ho
  rw [lg_entry_eq]
  exact body p e s m _ below meth c z ⟨⟨B.exec, B.bytes, hml, findClass_of_methodNamed B.named, atoms_spec (ws := ws0) B.pre⟩, hK⟩ B.returns B.notSynchronized (vx_table (x := y) B (atoms_spec (ws := ws0) B.pre _ (by rw [hw]; exact List.mem_cons_self))) s.heap [] _ ws (mq_L.entry (lv_entry av hlen)) hP hD hI va_S.rf ⟨hz, rfl⟩
end MQT
theorem mq_MetX.mono {l : Launch} {y : MethodName} {ws : List Cond} {rm : Room} {D : va_G} {tys : mq_Y} {av : List Value} {M : mq_M} {post : Option Value → mq_M → Prop} {px : String → mq_M → Prop} {mc ms : Nat} (h : mq_MetX l y ws rm D tys av M post px mc ms) : mq_MetX l y ws rm D tys av M post px mc ms := h
