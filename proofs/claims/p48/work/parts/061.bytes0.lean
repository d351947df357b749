set_option maxHeartbeats 4000000 in
set_option maxRecDepth 100000 in
theorem c_Bytes_init (l : Launch) (G : mq_G) (b : Nat) (M : mq_M) (hM : M b = some (.inr (0, [.null, .int 0]))) (n : Nat) (hn : n ≤ 50000) : mq_T l yX0_init wsX0_init { frames := 1, cells := 1, slots := n, locals := 12 } G [.ref b, .int (zI (n : Int))] M (mq_pv (fun M2 => ∃ a : Nat, M a = none ∧ bI G M2 b a n [] ∧ mq_F [b, a] M M2)) 1 n := by
  refine mq_Met.of (cc := cX0_init) (maxL := 2) (ret := none) (by decide) rfl (Nat.le_of_ble_eq_true rfl) rfl rfl ?_
  intro p_ e_ s_ m_ args_ below_ meth_ c_ z_ C hr hlk hname
  refine xr_aload_n C dX0_init_0 rfl ?_
  refine xr_objI C (C.1.2.2.2.2 (.methodLink RX0 1 objectInit) (by decide +kernel)) (C.1.2.2.2.2 (.instanceMethod objectInit) (by decide +kernel)) (C.1.2.2.2.2 (.code objectInit ⟨#[0xb1]⟩ 1 none) (by decide +kernel)) (Nat.le_of_ble_eq_true rfl) (Nat.le_of_ble_eq_true rfl) dX0_init_1 ?_
  refine xr_aload_n C dX0_init_4 rfl ?_
  refine xr_iload_n C dX0_init_5 rfl ?_
  refine xr_if_le C dX0_init_6 rfl (by first | omega | (dsimp only; omega)) (fun hq1 => ?_) (fun hq1 => ?_)
  · refine xr_iconst (n := 0) C dX0_init_13 (by decide +kernel) ?_
    refine xr_newI C (C.1.2.2.2.2 (.arrayClass .int) (by decide +kernel)) mq_tI (by omega) (by dsimp only; omega) (by dsimp only; omega) dX0_init_14 (fun q2 hq2 => ?_)
    refine mq_ren (fun M3 hM3 => ?_)
    have hba : b ≠ q2 := fun z => by rw [z, hq2] at hM; cases hM
    have h1 : M3 b = some (.inr (0, [.null, .int 0])) := by rw [hM3, mq_up_n hba]; exact hM
    refine xr_putF C (Cn := RX0) (T := TX0) (N := 2) (by decide +kernel) h1 rfl 0 (by decide) tyX0 tyX0_ok nmX0 (C.1.2.2.2.2 (.fieldLink RX0 7 "OssuaryVault$Bytes" "cells" "[I") (by decide +kernel)) (fun _ h => h) rfl hname rfl (tyX0_ok 0 (by decide)) rfl rfl (Nat.le_of_ble_eq_true rfl) dX0_init_16 ?_
    refine mq_ren (fun M4 hM4 => ?_)
    exact xr_vret C hr hlk ⟨rfl, q2, hq2, ⟨by rw [hM4, mq_up_s]; rfl, hba, Nat.zero_le _, hn, (fun x hx => by cases hx), (fun _ => 0), by rw [hM4, mq_up_n (Ne.symm hba), hM3, mq_up_s]; simp; omega, fun i hi => by cases hi⟩, (mq_F.up hM3 (by simp)).tr (mq_F.up hM4 (by simp))⟩ (by omega) (by omega) dX0_init_19
  · refine xr_iload_n C dX0_init_9 rfl ?_
    refine xr_goto C dX0_init_10 rfl ?_
    refine xr_newI C (C.1.2.2.2.2 (.arrayClass .int) (by decide +kernel)) mq_tI (by omega) (by dsimp only; omega) (by dsimp only; omega) dX0_init_14 (fun q5 hq5 => ?_)
    refine mq_ren (fun M6 hM6 => ?_)
    have hba : b ≠ q5 := fun z => by rw [z, hq5] at hM; cases hM
    have h1 : M6 b = some (.inr (0, [.null, .int 0])) := by rw [hM6, mq_up_n hba]; exact hM
    refine xr_putF C (Cn := RX0) (T := TX0) (N := 2) (by decide +kernel) h1 rfl 0 (by decide) tyX0 tyX0_ok nmX0 (C.1.2.2.2.2 (.fieldLink RX0 7 "OssuaryVault$Bytes" "cells" "[I") (by decide +kernel)) (fun _ h => h) rfl hname rfl (tyX0_ok 0 (by decide)) rfl rfl (Nat.le_of_ble_eq_true rfl) dX0_init_16 ?_
    refine mq_ren (fun M7 hM7 => ?_)
    exact xr_vret C hr hlk ⟨rfl, q5, hq5, ⟨by rw [hM7, mq_up_s]; rfl, hba, Nat.zero_le _, hn, (fun x hx => by cases hx), (fun _ => 0), by rw [hM7, mq_up_n (Ne.symm hba), hM6, mq_up_s]; simp, fun i hi => by cases hi⟩, (mq_F.up hM6 (by simp)).tr (mq_F.up hM7 (by simp))⟩ (by omega) (by omega) dX0_init_19
