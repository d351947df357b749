/-! ===== a volume's words, as functions of its bytes ===== -/
def mq_b (h : Bool) : Int := match h with
  | true => 1
  | false => 0
def bdS (s dn : Nat) : Nat := if 0 < dn then (s + dn - 1) / dn else 0
def vsz (h : Bool) (d : List Nat) : Int := match h with
  | true => (d.length : Int)
  | false => -1
def vFits (h : Bool) (d : List Nat) : Bool := decide (h = true ∧ 10 ≤ d.length ∧ mq_gd d 0 = 86 ∧ 1 ≤ mq_gd d 2 ∧ mq_gd d 2 ≤ 10 ∧ mq_gd d 3 ≤ 6 ∧ mq_gd d 1 < mq_gd d 2 + mq_gd d 3 ∧ d.length = 10 + mq_wd d 4 ∧ mq_wd d 4 = bdS (mq_wd d 6) (mq_gd d 2))
def vChk (d : List Nat) : Nat := crF (crF 65535 (mq_part d 0 8)) (mq_part d 10 (d.length - 10))
def vWhl (h : Bool) (d : List Nat) : Bool := vFits h d && decide (mq_wd d 8 = vChk d)
def vOK (h : Bool) (d : List Nat) (vd : Int) : Prop := vd = 0 ∨ vd = (if vWhl h d = true then 1 else 2)
theorem mq_wd_lt {d : List Nat} (h : ∀ x ∈ d, x < 256) (k : Int) : mq_wd d k < 65536 := by
  have h1 := mq_gd_lt h k
  have h2 := mq_gd_lt h (k + 1)
  unfold mq_wd
  omega
theorem bdS_le (s dn : Nat) : bdS s dn ≤ s + dn := by
  unfold bdS
  split
  · exact Nat.le_trans (Nat.div_le_self _ _) (by omega)
  · omega
theorem vChk_lt (d : List Nat) : vChk d < 65536 := crF_lt (crF_lt (by decide) _) _
/-- a Volume at x: its Check, its row of bytes, whether it is here, what was judged -/
def voI (G : mq_G) (M : mq_M) (x ch b a : Nat) (h : Bool) (d : List Nat) (vd : Int) : Prop := M x = some (.inr (9, [.ref ch, .ref b, .int (zI (mq_b h)), .int (zI vd)])) ∧ bI G M b a 4080 d
theorem voI.fr {G : mq_G} {M M' : mq_M} {x ch b a : Nat} {h : Bool} {d : List Nat} {vd : Int} {S : List Nat} (hv : voI G M x ch b a h d vd) (hF : mq_F S M M') (hx : x ∉ S) (hb : b ∉ S) (ha : a ∉ S) : voI G M' x ch b a h d vd := ⟨(hF x hx).trans hv.1, hv.2.fr hF hb ha⟩
theorem mq_nd {L : List Nat} (h : L.Nodup) (i j : Nat) (hij : (decide (i ≠ j) && decide (i < L.length) && decide (j < L.length)) = true) : L.getD i 0 ≠ L.getD j 0 := by
  simp only [Bool.and_eq_true, decide_eq_true_eq] at hij
  obtain ⟨⟨h1, h2⟩, h3⟩ := hij
  intro he
  rw [List.getD_eq_getElem?_getD, List.getD_eq_getElem?_getD, List.getElem?_eq_getElem h2, List.getElem?_eq_getElem h3] at he
  simp only [Option.getD_some] at he
  rcases Nat.lt_or_gt_of_ne h1 with h4 | h4
  · exact (List.pairwise_iff_getElem.mp h) i j h2 h3 h4 he
  · exact (List.pairwise_iff_getElem.mp h) j i h3 h2 h4 he.symm
def dfB (c pk : List Nat) : List Nat := if pk.length < c.length then pk else c
theorem dfB_len (c pk : List Nat) : (dfB c pk).length ≤ c.length := by
  unfold dfB
  split
  · omega
  · exact Nat.le_refl _
/-- what a file gives to the stream -/
def dfW (key : Nat) (c pk : List Nat) (ck : Nat) : List Nat := [69, if pk.length < c.length then 1 else 0, key / 256, key % 256, (dfB c pk).length / 256, (dfB c pk).length % 256, ck / 256, ck % 256] ++ dfB c pk
/-- a DeskFile at x: content, packed form, key, check -/
def dfI (G : mq_G) (M : mq_M) (x b a b2 a2 key : Nat) (c pk : List Nat) (ck : Nat) : Prop := M x = some (.inr (3, [.ref b, .ref b2, .int (zI (key : Int)), .int (zI (ck : Int))])) ∧ bI G M b a 240 c ∧ bI G M b2 a2 242 pk
theorem dfI.fr {G : mq_G} {M M' : mq_M} {x b a b2 a2 key : Nat} {c pk : List Nat} {ck : Nat} {S : List Nat} (hv : dfI G M x b a b2 a2 key c pk ck) (hF : mq_F S M M') (hx : x ∉ S) (hb : b ∉ S) (ha : a ∉ S) (hb2 : b2 ∉ S) (ha2 : a2 ∉ S) : dfI G M' x b a b2 a2 key c pk ck := ⟨(hF x hx).trans hv.1, hv.2.1.fr hF hb ha, hv.2.2.fr hF hb2 ha2⟩
/-- a FoundFile at x -/
def ffI (G : mq_G) (M : mq_M) (x b a : Nat) (c : List Nat) (key pl tl : Int) (gd : Bool) : Prop := M x = some (.inr (5, [.ref b, .int (zI key), .int (zI pl), .int (zI tl), .int (zI (mq_b gd))])) ∧ bI G M b a 240 c
theorem ffI.fr {G : mq_G} {M M' : mq_M} {x b a : Nat} {c : List Nat} {key pl tl : Int} {gd : Bool} {S : List Nat} (hv : ffI G M x b a c key pl tl gd) (hF : mq_F S M M') (hx : x ∉ S) (hb : b ∉ S) (ha : a ∉ S) : ffI G M' x b a c key pl tl gd := ⟨(hF x hx).trans hv.1, hv.2.fr hF hb ha⟩
