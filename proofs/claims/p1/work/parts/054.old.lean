/-! ===== p1: what stands of the old part: the script, strings, the words of throws ===== -/
abbrev eIA : String := "java/lang/IllegalArgumentException"
abbrev eIS : String := "java/lang/IllegalStateException"
abbrev eIO : String := "java/lang/IndexOutOfBoundsException"
def pp_names : List String := ["java/lang/RuntimeException", "java/lang/Exception"]
def pp_bad : List Cond := [.superclass Bundle.tN "java/lang/Object", .castable eIA eIA, .castable eIS eIS, .castable eIO eIO, .declares (Bundle.initS "java/lang/RuntimeException"), .declares (Bundle.initS "java/lang/Exception"), .declares (Bundle.initS Bundle.tN)]
def pp_str : List (Nat × String) := [(59, "a factor is not a byte"), (68, "there is no inverse of it"), (74, "no such power"), (81, "no such volume"), (87, "no byte, or not so often"), (111, "no such seed, or not so many"), (118, "the sheet has not so many bytes"), (123, "no such key"), (169, "not so many volumes"), (332, "no such file on the desk"), (334, "no such place on the shelf"), (336, "no volume at this place"), (338, "no archive is open")]
def pp_nc : List (String × String) := [(eIS, eIA), (eIO, eIS)]
def pp_ex : List (String × Nat × Nat) := [(eIA, 57, 61), (eIS, 99, 103), (eIO, 79, 83)]
set_option maxRecDepth 100000 in
theorem pp_badok : ∀ q ∈ pp_ex, ∀ w ∈ (vx_atS RX11 q.2.2 q.1 pp_names).filter (fun w => !goodWord w), w ∈ pp_bad := by decide +kernel
set_option maxRecDepth 100000 in
theorem pp_good : ∀ q ∈ pp_ex, ∀ w ∈ Cond.classLink RX11 q.2.1 q.1 :: Cond.initialized q.1 :: vx_atS RX11 q.2.2 q.1 pp_names, vx_ot w = true := by decide +kernel
theorem pp_fit : ∀ q ∈ pp_ex, Bundle.fit q.1 = true := by decide +kernel
theorem pp_nfit : ∀ n ∈ pp_names, Bundle.fit n = true := by decide +kernel
theorem pp_badT : ∀ w ∈ pp_bad, w.onTables = true := by decide +kernel
theorem superclass_moved {cls sup : String} {u U : State} (hvm : u.vm.Alike U.vm) (h : va_Nw (.superclass cls sup) u) : va_Nw (.superclass cls sup) U := by
  unfold va_Nw Cond.before Cond.holds at h ⊢
  simp only [Cond.value] at h ⊢
  rw [hvm.findClass, hvm.findClass]
  cases h1 : u.vm.findClass cls with
  | none => rw [h1] at h; simp at h
  | some a => cases h2 : u.vm.findClass sup with
    | none => rw [h1, h2] at h; simp at h
    | some b =>
      rw [h1, h2] at h
      dsimp only at h ⊢
      cases h3 : u.vm.classes[a]? with
      | none => rw [h3] at h; simp at h
      | some k => cases h4 : u.vm.classes[b]? with
        | none => rw [h3, h4] at h; simp at h
        | some kp =>
          obtain ⟨k', hk', he⟩ := hvm.2.2 _ _ h3
          obtain ⟨kp', hkp', hep⟩ := hvm.2.2 _ _ h4
          rw [h3, h4] at h
          rw [hk', hkp', he, hep]
          exact h
theorem pp_bad_moved {s U : State} (hW : s.WarmedH U.vm) (h : ∀ w ∈ pp_bad, va_Nw w s) : ∀ w ∈ pp_bad, va_Nw w U := by
  intro w hw
  have h0 := h w hw
  simp only [pp_bad, List.mem_cons, List.not_mem_nil, or_false] at hw
  rcases hw with rfl | rfl | rfl | rfl | rfl | rfl | rfl
  · exact superclass_moved hW.alike h0
  · exact va_Nw.warmC hW h0
  · exact va_Nw.warmC hW h0
  · exact va_Nw.warmC hW h0
  · exact va_Nw.warmD hW h0
  · exact va_Nw.warmD hW h0
  · exact va_Nw.warmD hW h0
def pp_old (b n : Nat) (xs : Nat → Int32) (z : Nat) (U : State) (H : Heap) : Prop :=
  mq_sc b n xs z U H ∧ mq_AA .int U ∧ (∀ w ∈ pp_bad, va_Nw w U) ∧ vx_Zq Bundle.tN "UNASSIGNED_STACK" Bundle.steD (fun q => z ≤ q) U H ∧ vx_Zq Bundle.tN "SUPPRESSED_SENTINEL" Bundle.listD (fun q => z ≤ q) U H ∧ (∀ q ∈ pp_str, ∃ sa, vk_R RX11 q.1 q.2 sa U) ∧ ∀ q ∈ pp_nc, va_Nc q.1 q.2 U
/-- what a launch's G is, for the script xs of n ints at b -/
def pG (G : mq_G) (b n : Nat) (xs : Nat → Int32) : Prop := G.1.2.2 = pp_old b n xs
section PPO
variable {p : Program} {l : Launch} {e : Env} {R : Room} {s : State} {m : MethodId} {args : Array Value} {below : List Frame} {meth : Method} {c : Code} {Q : State → Prop}
variable {cc : ByteArray} {nL : Nat} {Ts : List Cond} {own : String} {G : mq_G} {z : Nat} {cells slots : Nat} {M : mq_M} {pc : Nat} {L : List (Option Value)} {st : List Value}
theorem pG.old {b n : Nat} {xs : Nat → Int32} (hG : pG G b n xs) (C : mq_C p m c cc nL s args Ts own G.1.1 (mq_tys G) z) : pp_old b n xs z s s.heap := by
  have h := C.old
  have e : (mq_tys G).2 = pp_old b n xs := hG
  rw [e] at h
  exact h
theorem pp_atok {b n : Nat} {xs : Nat → Int32} (hG : pG G b n xs) (C : mq_C p m c cc nL s args Ts own G.1.1 (mq_tys G) z) {q : String × Nat × Nat} (hq : q ∈ pp_ex) (hsub : ∀ w ∈ (vx_atS RX11 q.2.2 q.1 pp_names).filter goodWord, w ∈ Ts) : ∀ w ∈ vx_atS RX11 q.2.2 q.1 pp_names, w.before args s = true :=
  vx_hat (B := pp_bad) (fun w hw => C.1.2.2.2.2 w (hsub w hw)) (pp_badok q hq) (fun w hw => va_Nw.use (pp_badT w hw) ((hG.old C).2.2.1 w hw))
theorem pp_throw {b n : Nat} {xs : Nat → Int32} (hG : pG G b n xs) (C : mq_C p m c cc nL s args Ts RX11 G.1.1 (mq_tys G) z) {post : Option Value → mq_M → Prop} {px : String → mq_M → Prop} {mc ms : Nat} (hlt : l.stackTraces = false) (hex : ∀ x ∈ c.exceptionTable.toList, False) (q : String × Nat × Nat) (hq : q ∈ pp_ex) {text : String} {is : Nat} (hs : (is, text) ∈ pp_str)
    (hk : Cond.classLink RX11 q.2.1 q.1 ∈ Ts) (hini : Cond.initialized q.1 ∈ Ts) (hsub : ∀ w ∈ (vx_atS RX11 q.2.2 q.1 pp_names).filter goodWord, w ∈ Ts)
    (d0 : decode cc pc = .ok (.new q.2.1, 3)) (d3 : decode cc (pc + 3) = .ok (.dup, 1)) (d4 : decode cc (pc + 4) = .ok (.ldc is, 2)) (d6 : decode cc (pc + 6) = .ok (.invokespecial q.2.2, 3)) (d9 : decode cc (pc + 9) = .ok (.athrow, 1))
    (hRf : 5 < R.frames) (hRl : (st.map fun v => v.category).sum + 82 ≤ R.locals) (hRc : cells + 1 ≤ R.cells) (hRs : slots + 6 ≤ R.slots) (hlk : meth.locks = false) (hp : px q.1 M) (hc : cells + 1 ≤ mc) (hs2 : slots + 6 ≤ ms) :
    mq_X p l e R s m args below meth c (vx_MQ below (mq_Qc G.1.1 z post) (mq_XC G.1.1 z px) args s mc ms (fun q => z ≤ q)) nL G.1.1 z s.heap cells slots M pc L st :=
  xr_throw C hlt hex (pp_fit q hq) pp_nfit (C.1.2.2.2.2 _ hk) (C.1.2.2.2.2 _ hini) ((hG.old C).2.2.2.2.2.1 _ hs) (pp_atok hG C hq hsub) (pp_good q hq) (hG.old C).2.2.2.1 (hG.old C).2.2.2.2.1 d0 d3 d4 d6 d9 hRf hRl hRc hRs hlk hp hc hs2
theorem pp_throwW {b n : Nat} {xs : Nat → Int32} (hG : pG G b n xs) (C : mq_C p m c cc nL s args Ts RX11 G.1.1 (mq_tys G) z) {post : Option Value → mq_M → Prop} {px : String → mq_M → Prop} {mc ms : Nat} (hlt : l.stackTraces = false) (hex : ∀ x ∈ c.exceptionTable.toList, False) (q : String × Nat × Nat) (hq : q ∈ pp_ex) {text : String} {is : Nat} (hs : (is, text) ∈ pp_str)
    (hk : Cond.classLink RX11 q.2.1 q.1 ∈ Ts) (hini : Cond.initialized q.1 ∈ Ts) (hsub : ∀ w ∈ (vx_atS RX11 q.2.2 q.1 pp_names).filter goodWord, w ∈ Ts)
    (d0 : decode cc pc = .ok (.new q.2.1, 3)) (d3 : decode cc (pc + 3) = .ok (.dup, 1)) (d4 : decode cc (pc + 4) = .ok (.ldc_w is, 3)) (d6 : decode cc (pc + 7) = .ok (.invokespecial q.2.2, 3)) (d9 : decode cc (pc + 10) = .ok (.athrow, 1))
    (hRf : 5 < R.frames) (hRl : (st.map fun v => v.category).sum + 82 ≤ R.locals) (hRc : cells + 1 ≤ R.cells) (hRs : slots + 6 ≤ R.slots) (hlk : meth.locks = false) (hp : px q.1 M) (hc : cells + 1 ≤ mc) (hs2 : slots + 6 ≤ ms) :
    mq_X p l e R s m args below meth c (vx_MQ below (mq_Qc G.1.1 z post) (mq_XC G.1.1 z px) args s mc ms (fun q => z ≤ q)) nL G.1.1 z s.heap cells slots M pc L st :=
  xr_throwW C hlt hex (pp_fit q hq) pp_nfit (C.1.2.2.2.2 _ hk) (C.1.2.2.2.2 _ hini) ((hG.old C).2.2.2.2.2.1 _ hs) (pp_atok hG C hq hsub) (pp_good q hq) (hG.old C).2.2.2.1 (hG.old C).2.2.2.2.1 d0 d3 d4 d6 d9 hRf hRl hRc hRs hlk hp hc hs2
end PPO
