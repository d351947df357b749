set_option maxHeartbeats 4000000 in
set_option maxRecDepth 100000 in
theorem c_open (l : Launch) (G : mq_G) (La : Nat → Nat) (hI : mq_inj La) (sh : List Nat) (k : vtD) (h : Nat → Bool) (d : Nat → List Nat) (r : vtR) (M : mq_M) (hV : vtI G M La sh k h d r) : mq_T l yX11_open wsX11_open { frames := 6, cells := 0, slots := 0, locals := 140 } G [.ref (La 0)] M (mq_pi (fun r9 M2 => ((spF h d < 0 ∧ r9 = -1 ∧ vtI G M2 La sh k h d (false, r.2)) ∨ (∃ (ld dn pn : Nat) (S : List Nat) (fc : Nat → List Nat) (fk fp ft : Nat → Int) (fg : Nat → Bool), ((svS h d 16).1 = (ld : Int) ∧ ld < 16 ∧ 0 ≤ spF h d ∧ mq_gd (d ld) 2 = dn ∧ mq_gd (d ld) 3 = pn ∧ r9 = (msC (svS h d 16).2.2.2 dn : Int)) ∧ (S.length = mq_wd (d ld) 6 ∧ (msC (svS h d 16).2.2.2 dn = 0 → S = (rcS d (svS h d 16).2.2.2 (mq_wd (d ld) 4) dn).take (mq_wd (d ld) 6)) ∧ rdOK S fc fk fp ft fg) ∧ vtI G M2 La sh k h d (true, (dn : Int), (pn : Int), rdIx S, rdN S, S, fc, fk, fp, ft, fg))) ∧ mq_FR La vtA M M2)) 0 0 := by
  refine mq_Met.of (cc := cX11_open) (maxL := 3) (ret := (some .int)) (by decide) rfl (Nat.le_of_ble_eq_true rfl) rfl rfl ?_
  intro p_ e_ s_ m_ args_ below_ meth_ c_ z_ C hr hlk hname
  obtain ⟨v1, v2, v3, v4, v5, v6, v7, v8, hR, hrr, hn40⟩ := id hV
  refine xr_aload_n C dX11_open_0 rfl ?_
  refine xr_get C (Cn := RX11) (T := TX11) (N := 5) (by decide +kernel) v1 rfl 4 (by decide) (C.1.2.2.2.2 (.fieldLink RX11 49 "OssuaryVault" "reading" "LOssuaryVault$Reading;") (by decide +kernel)) (fun _ h => h) rfl dX11_open_1 ?_
  refine xr_callV0v C (c_close l G La hI _ _ _ _ _ _ _ _ _ _ _ M hR) (cwV 0 C.1.2.2.2.2 gX11_open_X7_close rfl rfl rfl (by decide +kernel) ⟨Nat.le_of_ble_eq_true rfl, Nat.le_of_ble_eq_true rfl⟩) hR.1 rfl (Nat.le_of_ble_eq_true rfl) ⟨by dsimp only; omega, by dsimp only; omega⟩ dX11_open_4 (fun M2 hp2 => ?_)
  obtain ⟨hR2, hF2⟩ := hp2
  have hV2 := hV.read (r2 := (false, r.2)) hI hF2 (by decide) ⟨hR2, hrr, hn40⟩
  obtain ⟨e1, e2, e3, e4, e5, e6, ⟨pv, vd, ld, mb, nu, ho, hP, hH⟩, e8, e9⟩ := id hV2
  refine xr_aload_n C dX11_open_7 rfl ?_
  refine xr_get C (Cn := RX11) (T := TX11) (N := 5) (by decide +kernel) e1 rfl 2 (by decide) (C.1.2.2.2.2 (.fieldLink RX11 33 "OssuaryVault" "shelf" "LOssuaryVault$Shelf;") (by decide +kernel)) (fun _ h => h) rfl dX11_open_8 ?_
  refine xr_callV0v C (c_survey l G La hI pv h d vd ld mb nu ho M2 hP hH e2) (cwV 0 C.1.2.2.2.2 gX11_open_X9_survey rfl rfl rfl (by decide +kernel) ⟨Nat.le_of_ble_eq_true rfl, Nat.le_of_ble_eq_true rfl⟩) hH.1 rfl (Nat.le_of_ble_eq_true rfl) ⟨by dsimp only; omega, by dsimp only; omega⟩ dX11_open_11 (fun M3 hp3 => ?_)
  obtain ⟨⟨vd3, hP3, hH3⟩, hF3⟩ := hp3
  have hV3 := hV2.shelf hI hF3 (fun q hq => mq_TVm.mp hq) ⟨pv, vd3, _, _, _, _, hP3, hH3⟩
  have F83 := (hF2.all (by decide)).tr (hF3.all mq_TVl)
  obtain ⟨f1, f2, f3, f4, f5, f6, f7, ⟨mt, cho, hC3, hch⟩, hR3, hrr3, hn3⟩ := id hV3
  have hrg := svS_rng h d 16 (by decide)
  unfold svR at hrg
  refine xr_aload_n C dX11_open_14 rfl ?_
  refine xr_get C (Cn := RX11) (T := TX11) (N := 5) (by decide +kernel) f1 rfl 2 (by decide) (C.1.2.2.2.2 (.fieldLink RX11 33 "OssuaryVault" "shelf" "LOssuaryVault$Shelf;") (by decide +kernel)) (fun _ h => h) rfl dX11_open_15 ?_
  refine xr_aload_n C dX11_open_18 rfl ?_
  refine xr_get C (Cn := RX11) (T := TX11) (N := 5) (by decide +kernel) f1 rfl 2 (by decide) (C.1.2.2.2.2 (.fieldLink RX11 33 "OssuaryVault" "shelf" "LOssuaryVault$Shelf;") (by decide +kernel)) (fun _ h => h) rfl dX11_open_19 ?_
  refine xr_getN C (Cn := RX9) (T := TX9) (N := 7) (by decide +kernel) hH3.1 rfl 5 (by decide) (va_Nw.use rfl (C.2.2.1 ("OssuaryVault", 233, "OssuaryVault$Shelf", "leaderPlace", "I", "OssuaryVault") (by decide +kernel))) (fun _ h => h) rfl dX11_open_22 ?_
  by_cases hl0 : (svS h d 16).1 < 0
  · refine xr_callV1n C (c_shAtN l G La hI pv h d vd3 _ _ _ _ M3 hP3 hH3 (svS h d 16).1 (by omega)) (cwV 1 C.1.2.2.2.2 gX11_open_X9_at rfl rfl rfl (by decide +kernel) ⟨Nat.le_of_ble_eq_true rfl, Nat.le_of_ble_eq_true rfl⟩) hH3.1 rfl (Nat.le_of_ble_eq_true rfl) ⟨by dsimp only; omega, by dsimp only; omega⟩ dX11_open_25 (fun M9 hp9 => ?_)
    subst hp9
    refine xr_nstore_n C dX11_open_28 (by decide) rfl ?_
    refine xr_nload_n C dX11_open_29 rfl ?_
    refine xr_ifnull_n C dX11_open_30 rfl ?_
    refine xr_iconst (n := (-1)) C dX11_open_43 (by decide +kernel) ?_
    exact xr_iret C hr hlk ⟨_, rfl, Or.inl ⟨by unfold spF; rw [if_pos hl0]; decide, rfl, hV3⟩, F83⟩ (by omega) (by omega) dX11_open_44
  · obtain ⟨ldn, hld⟩ := Int.eq_ofNat_of_zero_le (show 0 ≤ (svS h d 16).1 by omega)
    change (svS h d 16).1 = (ldn : Int) at hld
    have hl16 : ldn < 16 := by omega
    rw [hld]
    have hsp : spF h d = max (-1) ((svS h d 16).2.1 - (mq_gd (d ldn) 2 : Int)) := by
      unfold spF
      rw [if_neg hl0, hld, Int.toNat_natCast]
    obtain ⟨hlk8, hw⟩ := svS_ld h d 16 ldn hld
    obtain ⟨hw1, hw2, hw3, hw4, hw5, hw6⟩ := vWhl_num hw
    obtain ⟨hb1, hb2⟩ := vWhl_body hw
    have hln := (hH3.2.2.2.2 ldn (by omega)).2.2.2.1
    have hst := bdS_ge (s := mq_wd (d ldn) 6) hw4
    have hroom : mq_gd (d ldn) 2 * mq_wd (d ldn) 4 ≤ 40700 := Nat.le_trans (Nat.mul_le_mul hw5 (show mq_wd (d ldn) 4 ≤ 4070 by omega)) (by decide)
    refine xr_callV1a C (c_shAt l G La hI pv h d vd3 _ _ _ _ M3 hP3 hH3 ldn hl16) (cwV 1 C.1.2.2.2.2 gX11_open_X9_at rfl rfl rfl (by decide +kernel) ⟨Nat.le_of_ble_eq_true rfl, Nat.le_of_ble_eq_true rfl⟩) hH3.1 rfl (Nat.le_of_ble_eq_true rfl) ⟨by dsimp only; omega, by dsimp only; omega⟩ dX11_open_25 (fun r9 M9 hp9 => ?_)
    obtain ⟨rfl, rfl⟩ := hp9
    refine xr_astore_n C dX11_open_28 (by decide) rfl ?_
    refine xr_aload_n C dX11_open_29 rfl ?_
    refine xr_ifnull_s C dX11_open_30 ?_
    refine xr_aload_n C dX11_open_33 rfl ?_
    refine xr_get C (Cn := RX11) (T := TX11) (N := 5) (by decide +kernel) f1 rfl 2 (by decide) (C.1.2.2.2.2 (.fieldLink RX11 33 "OssuaryVault" "shelf" "LOssuaryVault$Shelf;") (by decide +kernel)) (fun _ h => h) rfl dX11_open_34 ?_
    refine xr_callV0i C (c_surplus l G La hI pv h d vd3 _ _ _ _ M3 hP3 hH3 ldn hl16 hld (by omega)) (cwV 0 C.1.2.2.2.2 gX11_open_X9_surplus rfl rfl rfl (by decide +kernel) ⟨Nat.le_of_ble_eq_true rfl, Nat.le_of_ble_eq_true rfl⟩) hH3.1 rfl (Nat.le_of_ble_eq_true rfl) ⟨by dsimp only; omega, by dsimp only; omega⟩ dX11_open_37 (fun r1 M9 hp9 => ?_)
    obtain ⟨rfl, rfl⟩ := hp9
    rw [← hsp]
    refine xr_if_ge C dX11_open_40 rfl (by first | omega | (dsimp only; omega)) (fun hq2 => ?_) (fun hq2 => ?_)
    · refine xr_aload_n C dX11_open_45 rfl ?_
      refine xr_get C (Cn := RX11) (T := TX11) (N := 5) (by decide +kernel) f1 rfl 3 (by decide) (C.1.2.2.2.2 (.fieldLink RX11 42 "OssuaryVault" "recovery" "LOssuaryVault$Recovery;") (by decide +kernel)) (fun _ h => h) rfl dX11_open_46 ?_
      refine xr_aload_n C dX11_open_49 rfl ?_
      refine xr_get C (Cn := RX11) (T := TX11) (N := 5) (by decide +kernel) f1 rfl 2 (by decide) (C.1.2.2.2.2 (.fieldLink RX11 33 "OssuaryVault" "shelf" "LOssuaryVault$Shelf;") (by decide +kernel)) (fun _ h => h) rfl dX11_open_50 ?_
      refine xr_aload_n C dX11_open_53 rfl ?_
      refine xr_aload_n C dX11_open_54 rfl ?_
      refine xr_get C (Cn := RX11) (T := TX11) (N := 5) (by decide +kernel) f1 rfl 4 (by decide) (C.1.2.2.2.2 (.fieldLink RX11 49 "OssuaryVault" "reading" "LOssuaryVault$Reading;") (by decide +kernel)) (fun _ h => h) rfl dX11_open_55 ?_
      refine xr_getN C (Cn := RX7) (T := TX7) (N := 8) (by decide +kernel) hR3.1 rfl 1 (by decide) (va_Nw.use rfl (C.2.2.1 ("OssuaryVault", 248, "OssuaryVault$Reading", "stream", "LOssuaryVault$Bytes;", "OssuaryVault") (by decide +kernel))) (fun _ h => h) rfl dX11_open_58 ?_
      refine xr_callV3i C (c_recover l G La hI mt cho M3 hC3 pv h d vd3 _ _ _ _ hP3 hH3 hrg.2.2.2 f3 _ hR3.2.1 ldn hl16 _ _ _ rfl hw5 rfl rfl hroom (by rw [hb2]; exact hst) hch) (cwV 3 C.1.2.2.2.2 gX11_open_X8_recover rfl rfl rfl (by decide +kernel) ⟨Nat.le_of_ble_eq_true rfl, Nat.le_of_ble_eq_true rfl⟩) hC3.1 rfl (Nat.le_of_ble_eq_true rfl) ⟨by dsimp only; omega, by dsimp only; omega⟩ dX11_open_61 (fun r4 M4 hp4 => ?_)
      obtain ⟨rfl, ⟨T, mt4, ch4, hTl, hB4, hT0, hC4, hc4⟩, hF4⟩ := hp4
      have hT5 : ∀ q ∈ [17, 18, 19, 21, 22], q < 275 := by decide
      have hR4 := hR3.st hI hF4 hT5 (fun q hq => by simp; omega) hB4
      have hV4 := hV3.reco (r2 := (false, r.2.1, r.2.2.1, r.2.2.2.1, r.2.2.2.2.1, T, r.2.2.2.2.2.2)) hI hF4 (by decide) ⟨mt4, ch4, hC4, hc4⟩ ⟨hR4, hrr3, hn3⟩
      have hH4 := hH3.fr hI hP3.1 hF4 hT5 (fun q hq => by simp; omega)
      obtain ⟨k1, k2, k3, k4, k5, k6, k7, k8, k9⟩ := id hV4
      refine xr_istore_n C dX11_open_64 (by decide) rfl ?_
      refine xr_aload_n C dX11_open_65 rfl ?_
      refine xr_get C (Cn := RX11) (T := TX11) (N := 5) (by decide +kernel) k1 rfl 4 (by decide) (C.1.2.2.2.2 (.fieldLink RX11 49 "OssuaryVault" "reading" "LOssuaryVault$Reading;") (by decide +kernel)) (fun _ h => h) rfl dX11_open_66 ?_
      refine xr_aload_n C dX11_open_69 rfl ?_
      refine xr_callV0i C (c_dataTold l G _ _ _ _ _ _ _ M4 (hH4.2.2.2.2 ldn (by omega))) (cwV 0 C.1.2.2.2.2 gX11_open_X10_dataTold rfl rfl rfl (by decide +kernel) ⟨Nat.le_of_ble_eq_true rfl, Nat.le_of_ble_eq_true rfl⟩) (hH4.2.2.2.2 ldn (by omega)).1 rfl (Nat.le_of_ble_eq_true rfl) ⟨by dsimp only; omega, by dsimp only; omega⟩ dX11_open_70 (fun r3 M9 hp9 => ?_)
      obtain ⟨rfl, rfl⟩ := hp9
      refine xr_aload_n C dX11_open_73 rfl ?_
      refine xr_callV0i C (c_parityTold l G _ _ _ _ _ _ _ M4 (hH4.2.2.2.2 ldn (by omega))) (cwV 0 C.1.2.2.2.2 gX11_open_X10_parityTold rfl rfl rfl (by decide +kernel) ⟨Nat.le_of_ble_eq_true rfl, Nat.le_of_ble_eq_true rfl⟩) (hH4.2.2.2.2 ldn (by omega)).1 rfl (Nat.le_of_ble_eq_true rfl) ⟨by dsimp only; omega, by dsimp only; omega⟩ dX11_open_74 (fun r4 M9 hp9 => ?_)
      obtain ⟨rfl, rfl⟩ := hp9
      refine xr_callV2v C (c_rdBegin l G La hI _ _ _ _ _ T _ _ _ _ _ M4 hR4 hrr3 k2 (mq_gd (d ldn) 2 : Int) (mq_gd (d ldn) 3 : Int)) (cwV 2 C.1.2.2.2.2 gX11_open_X7_begin rfl rfl rfl (by decide +kernel) ⟨Nat.le_of_ble_eq_true rfl, Nat.le_of_ble_eq_true rfl⟩) hR4.1 rfl (Nat.le_of_ble_eq_true rfl) ⟨by dsimp only; omega, by dsimp only; omega⟩ dX11_open_77 (fun M5 hp5 => ?_)
      obtain ⟨⟨fk5, fp5, ft5, hrr5, hR5, hA5⟩, hF5⟩ := hp5
      have hTRs : ∀ q ∈ mq_TR, (20 ≤ q ∧ q < 24) ∨ (155 ≤ q ∧ q < 275) := fun q hq => by have := mq_TRm.mp hq; omega
      have hV5 := hV4.read (r2 := (true, (mq_gd (d ldn) 2 : Int), (mq_gd (d ldn) 3 : Int), rdIx T, rdN T, T, _, fk5, fp5, ft5, _)) hI hF5 hTRs ⟨hR5, hrr5, rdN_le T⟩
      obtain ⟨m1, m2, m3, m4, m5, m6, m7, m8, m9⟩ := id hV5
      refine xr_aload_n C dX11_open_80 rfl ?_
      refine xr_get C (Cn := RX11) (T := TX11) (N := 5) (by decide +kernel) m1 rfl 4 (by decide) (C.1.2.2.2.2 (.fieldLink RX11 49 "OssuaryVault" "reading" "LOssuaryVault$Reading;") (by decide +kernel)) (fun _ h => h) rfl dX11_open_81 ?_
      refine xr_callV0v C (c_judgeFiles l G La hI _ _ _ _ _ T _ _ _ _ _ M5 hR5 hrr5 m2 (rdN_le T)) (cwV 0 C.1.2.2.2.2 gX11_open_X7_judgeFiles rfl rfl rfl (by decide +kernel) ⟨Nat.le_of_ble_eq_true rfl, Nat.le_of_ble_eq_true rfl⟩) hR5.1 rfl (Nat.le_of_ble_eq_true rfl) ⟨by dsimp only; omega, by dsimp only; omega⟩ dX11_open_84 (fun M6 hp6 => ?_)
      obtain ⟨⟨fc6, fg6, hR6, hA6⟩, hF6⟩ := hp6
      have hV6 := hV5.read (r2 := (true, (mq_gd (d ldn) 2 : Int), (mq_gd (d ldn) 3 : Int), rdIx T, rdN T, T, fc6, fk5, fp5, ft5, fg6)) hI hF6 hTRs ⟨hR6, hrr5, rdN_le T⟩
      have hOK : rdOK T fc6 fk5 fp5 ft5 fg6 := fun k hk => by
        obtain ⟨z1, z2, z3⟩ := hA5 k hk
        obtain ⟨z4, z5⟩ := hA6 k hk
        rw [z1, z2, z3] at z4 z5
        exact ⟨z1, z2, z3, z4, z5⟩
      refine xr_iload_n C dX11_open_87 rfl ?_
      exact xr_iret C hr hlk ⟨_, rfl, Or.inr ⟨ldn, _, _, T, fc6, fk5, fp5, ft5, fg6, ⟨rfl, hl16, by omega, rfl, rfl, rfl⟩, ⟨hTl, hT0, hOK⟩, hV6⟩, ((F83.tr (hF4.all hT5)).tr (hF5.all mq_TRl)).tr (hF6.all mq_TRl)⟩ (by omega) (by omega) dX11_open_88
    · refine xr_iconst (n := (-1)) C dX11_open_43 (by decide +kernel) ?_
      exact xr_iret C hr hlk ⟨_, rfl, Or.inl ⟨by omega, rfl, hV3⟩, F83⟩ (by omega) (by omega) dX11_open_44
