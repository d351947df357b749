/-! ===== sizes of bodies; the leader is whole ===== -/
theorem bdS_le2 {s dn : Nat} (hs : 0 < s) (hd : 0 < dn) : bdS s dn ≤ s := by
  unfold bdS
  rw [if_pos hd]
  obtain ⟨a, rfl⟩ : ∃ a, dn = a + 1 := ⟨dn - 1, by omega⟩
  obtain ⟨b, rfl⟩ : ∃ b, s = b + 1 := ⟨s - 1, by omega⟩
  refine Nat.div_le_of_le_mul ?_
  have : (a + 1) * (b + 1) = a * b + a + b + 1 := by rw [Nat.succ_mul, Nat.mul_succ]; omega
  omega
theorem bdS_pos {s dn : Nat} (hs : 0 < s) (hd : 0 < dn) : 0 < bdS s dn := by
  unfold bdS
  rw [if_pos hd]
  exact Nat.div_pos (by omega) hd
theorem bdS_ge {s dn : Nat} (hd : 0 < dn) : s ≤ dn * bdS s dn := by
  unfold bdS
  rw [if_pos hd]
  have h1 := Nat.div_add_mod (s + dn - 1) dn
  have h2 := Nat.mod_lt (s + dn - 1) hd
  omega
theorem svSee_1 (d : Nat → List Nat) (i : Nat) (s : svT) : (svSee d i s).1 = if s.1 < 0 then (i : Int) else s.1 := by
  unfold svSee
  dsimp only
  split <;> (split <;> rfl)
theorem svS_ld (h : Nat → Bool) (d : Nat → List Nat) : ∀ i (k : Nat), (svS h d i).1 = (k : Int) → k < i ∧ vWhl (h k) (d k) = true
  | 0, k, hk => by change (-1 : Int) = (k : Int) at hk; omega
  | i + 1, k, hk => by
    have e1 : svS h d (i + 1) = if vWhl (h i) (d i) = true then svSee d i (svS h d i) else svS h d i := rfl
    by_cases hw : vWhl (h i) (d i) = true
    · rw [e1, if_pos hw, svSee_1] at hk
      by_cases h0 : (svS h d i).1 < 0
      · rw [if_pos h0] at hk
        have : i = k := by omega
        subst this
        exact ⟨by omega, hw⟩
      · rw [if_neg h0] at hk
        have := svS_ld h d i k hk
        exact ⟨by omega, this.2⟩
    · rw [e1, if_neg hw] at hk
      have := svS_ld h d i k hk
      exact ⟨by omega, this.2⟩
theorem vWhl_body {h : Bool} {d : List Nat} (hw : vWhl h d = true) : d.length = 10 + mq_wd d 4 ∧ mq_wd d 4 = bdS (mq_wd d 6) (mq_gd d 2) := by
  unfold vWhl vFits at hw
  simp only [Bool.and_eq_true, decide_eq_true_eq] at hw
  obtain ⟨⟨_, _, _, _, _, _, _, h7, h8⟩, _⟩ := hw
  exact ⟨h7, h8⟩
theorem vtD.eta (r : vtR) : ((false, r.2) : vtR).2 = r.2 := rfl
section MQW
variable {p : Program} {l : Launch} {e : Env} {R : Room} {s : State} {m : MethodId} {args : Array Value} {below : List Frame} {meth : Method} {c : Code} {Q : State → Prop}
variable {cc : ByteArray} {nL : Nat} {Ts : List Cond} {own : String} {D : va_G} {tys : mq_Y} {z : Nat} {H0 : Heap} {cells slots : Nat} {M : mq_M} {pc : Nat} {L : List (Option Value)} {st : List Value}
theorem xr_ldcw (C : mq_C p m c cc nL s args Ts own D tys z) {index : Nat} {k0 : Int} (hc : (Jvm.Cond.constant own index (zI k0)).before args s = true) (d : decode cc pc = .ok (.ldc_w index, 3))
    (k : mq_X p l e R s m args below meth c Q nL D z H0 cells slots M (pc + 3) L (.int (zI k0) :: st)) : mq_X p l e R s m args below meth c Q nL D z H0 cells slots M pc L st :=
  fun H locs la ws h1 h2 h3 h4 h5 h6 => lv_ldcw C.1.1 C.1.2.1 C.1.2.2.2.1 hc d (k H locs la ws h1 h2 h3 h4 h5 h6)
end MQW
