section
set_option maxHeartbeats 4000000 in
set_option maxRecDepth 100000 in
theorem c_X4_init (l : Launch) (D : va_G) (cI cZ : ClassId) (qm : Nat) (nT : Int32) (nL : Int32) (nC : Int32) (nMar : Int32) (nIn : Int32) (nHand : Int32) (nGiv : Int32) (nCyc : Int32) (nWai : Int32) (nSw : Int32) (nBeg : Int32) (nOut : Int32) (nRsel : Int32) (nAluf : Int32) (nBs : Int32) (nF1 : Int32) (nF2 : Int32) (nSum : Int32) (nSc : Int32) : CtV l D classes [(cI, .int), (cZ, .boolean)] yX4_init w_X4_init { frames := 1, cells := 9, slots := 2900, locals := 12 } [.ref qm] [(qm, .inr (4, [.null, .null, .null, .null, .int nT, .int nL, .int nC, .int nMar, .int nIn, .null, .null, .null, .null, .int nHand, .int nGiv, .int nCyc, .int nWai, .int nSw, .int nBeg, .int nOut, .null, .int nRsel, .int nAluf, .int nBs, .int nF1, .int nF2, .int nSum, .int nSc]))] (fun (u : Nat × Nat × Nat × Nat × Nat × Nat × Nat × Nat × Nat) => match u with | (pI, pC, pM, pR, pP, pH, pK, pD, pO) => [(qm, .inr (4, [.ref pI, .ref pC, .ref pM, .ref pR, .int nT, .int nL, .int nC, .int nMar, .int nIn, .ref pP, .ref pH, .ref pK, .ref pD, .int nHand, .int nGiv, .int nCyc, .int nWai, .int nSw, .int (-100), .int nOut, .ref pO, .int nRsel, .int nAluf, .int nBs, .int nF1, .int nF2, .int nSum, .int nSc])), (pI, .inl (cI, 1024, .inl (fun _ => 0))), (pC, .inl (cI, 256, .inl (fun _ => 0))), (pM, .inl (cI, 1024, .inl (fun _ => 0))), (pR, .inl (cI, 32, .inl (fun _ => 0))), (pP, .inl (cI, 16, .inl (fun _ => 0))), (pH, .inl (cI, 16, .inl (fun _ => 0))), (pK, .inl (cZ, 16, .inl (upd (fun _ => 0) (Int32.toNatClampNeg 0) 1))), (pD, .inl (cI, 16, .inl (fun _ => 0))), (pO, .inl (cI, 500, .inl (fun _ => 0)))]) 9 2900 := by
  refine CtV.mk (cc := cX4_init) (maxL := 1) (ret := none) (by decide) rfl (Nat.le_of_ble_eq_true rfl) ?_
  intro p e s m below meth c A hBeg ls hl
  obtain ⟨hx, hb, hr, hml, hts0, hown, hlocks, hin, hA, hK, hP, hD, hS⟩ := hBeg
  have hts := fun w h => hts0 w (List.mem_cons_of_mem _ h)
  have hown : s.vm.findClass RX4 = some m.cls := hown
  have hl : lv_has ls 1 [(0, .ref qm)] := hl
  skip
  refine lv_aload_n hx hb dX4_init_0 rfl (lv_at hl 0 rfl) ?_
  refine W.objInit hx hb hown (hts _ wm_X4_1) (hts _ wi_obj) (hts _ wo_obj) rfl (by rw [hml]; exact hl.1) rfl dX4_init_1 (Nat.le_of_ble_eq_true rfl) (Nat.le_of_ble_eq_true rfl) ?_
  refine W.eq (g2 := F0 m 4 ls []) rfl ?_
  refine lv_aload_n hx hb dX4_init_4 rfl (lv_at hl 0 rfl) ?_
  refine lv_sipush (v := 1024) hx hb dX4_init_5 (by decide) ?_
  refine va_newa (atype := .int) (ty := .int) (N' := 1024) (a0 := (1024, .inl (fun _ => 0))) hx hb (hts _ wa_int) rfl hK hP hD hS hA (fun _ => rfl) (by decide) (by decide) (by decide) (Nat.le_of_ble_eq_true rfl) (Nat.le_of_ble_eq_true rfl) dX4_init_8 (fun q1 cA1 H hK1 hP hD hS => ?_)
  have hcA : cI = cA1 := Option.some.inj ((va_nm_int (hK.2 0 (cI, .int) rfl).2).symm.trans (va_nm_int (hK1.2 2 (cA1, .int) rfl).2))
  subst hcA
  clear hK1
  have hP : va_P D classes [(qm, .inr (4, [.null, .null, .null, .null, .int nT, .int nL, .int nC, .int nMar, .int nIn, .null, .null, .null, .null, .int nHand, .int nGiv, .int nCyc, .int nWai, .int nSw, .int nBeg, .int nOut, .null, .int nRsel, .int nAluf, .int nBs, .int nF1, .int nF2, .int nSum, .int nSc])), (q1, .inl (cI, 1024, .inl (fun _ => 0)))] H := hP
  have hD : va_D A [(qm, .inr (4, [.null, .null, .null, .null, .int nT, .int nL, .int nC, .int nMar, .int nIn, .null, .null, .null, .null, .int nHand, .int nGiv, .int nCyc, .int nWai, .int nSw, .int nBeg, .int nOut, .null, .int nRsel, .int nAluf, .int nBs, .int nF1, .int nF2, .int nSum, .int nSc])), (q1, .inl (cI, 1024, .inl (fun _ => 0)))] := hD
  refine W.widen (k := 1) (n := 1024) (by omega) (by omega) ?_
  refine va_putF (D := D) (ci := 4) (v := .ref q1) (ty := (.array .int)) (C := RX4) (T := TX4) (N := 28) hx hb hts ilX4 tyX4 tyX4_ok nmX4 hown hK hP hD hS 0 rfl rfl 0 (by decide) (hts _ wf_X4_7) (fun _ h9 => h9) rfl hin rfl (by decide +kernel) rfl rfl (Nat.le_of_ble_eq_true rfl) dX4_init_10 (fun H locs hP hD hS => ?_)
  have hP : va_P D classes [(qm, .inr (4, [.ref q1, .null, .null, .null, .int nT, .int nL, .int nC, .int nMar, .int nIn, .null, .null, .null, .null, .int nHand, .int nGiv, .int nCyc, .int nWai, .int nSw, .int nBeg, .int nOut, .null, .int nRsel, .int nAluf, .int nBs, .int nF1, .int nF2, .int nSum, .int nSc])), (q1, .inl (cI, 1024, .inl (fun _ => 0)))] H := hP
  have hD : va_D A [(qm, .inr (4, [.ref q1, .null, .null, .null, .int nT, .int nL, .int nC, .int nMar, .int nIn, .null, .null, .null, .null, .int nHand, .int nGiv, .int nCyc, .int nWai, .int nSw, .int nBeg, .int nOut, .null, .int nRsel, .int nAluf, .int nBs, .int nF1, .int nF2, .int nSum, .int nSc])), (q1, .inl (cI, 1024, .inl (fun _ => 0)))] := hD
  refine lv_aload_n hx hb dX4_init_13 rfl (lv_at hl 0 rfl) ?_
  refine lv_sipush (v := 256) hx hb dX4_init_14 (by decide) ?_
  refine va_newa (atype := .int) (ty := .int) (N' := 256) (a0 := (256, .inl (fun _ => 0))) hx hb (hts _ wa_int) rfl hK hP hD hS hA (fun _ => rfl) (by decide) (by decide) (by decide) (Nat.le_of_ble_eq_true rfl) (Nat.le_of_ble_eq_true rfl) dX4_init_17 (fun q2 cA2 H hK1 hP hD hS => ?_)
  have hcA : cI = cA2 := Option.some.inj ((va_nm_int (hK.2 0 (cI, .int) rfl).2).symm.trans (va_nm_int (hK1.2 2 (cA2, .int) rfl).2))
  subst hcA
  clear hK1
  have hP : va_P D classes [(qm, .inr (4, [.ref q1, .null, .null, .null, .int nT, .int nL, .int nC, .int nMar, .int nIn, .null, .null, .null, .null, .int nHand, .int nGiv, .int nCyc, .int nWai, .int nSw, .int nBeg, .int nOut, .null, .int nRsel, .int nAluf, .int nBs, .int nF1, .int nF2, .int nSum, .int nSc])), (q1, .inl (cI, 1024, .inl (fun _ => 0))), (q2, .inl (cI, 256, .inl (fun _ => 0)))] H := hP
  have hD : va_D A [(qm, .inr (4, [.ref q1, .null, .null, .null, .int nT, .int nL, .int nC, .int nMar, .int nIn, .null, .null, .null, .null, .int nHand, .int nGiv, .int nCyc, .int nWai, .int nSw, .int nBeg, .int nOut, .null, .int nRsel, .int nAluf, .int nBs, .int nF1, .int nF2, .int nSum, .int nSc])), (q1, .inl (cI, 1024, .inl (fun _ => 0))), (q2, .inl (cI, 256, .inl (fun _ => 0)))] := hD
  refine W.widen (k := 2) (n := 1280) (by omega) (by omega) ?_
  refine va_putF (D := D) (ci := 4) (v := .ref q2) (ty := (.array .int)) (C := RX4) (T := TX4) (N := 28) hx hb hts ilX4 tyX4 tyX4_ok nmX4 hown hK hP hD hS 0 rfl rfl 1 (by decide) (hts _ wf_X4_13) (fun _ h9 => h9) rfl hin rfl (by decide +kernel) rfl rfl (Nat.le_of_ble_eq_true rfl) dX4_init_19 (fun H locs hP hD hS => ?_)
  have hP : va_P D classes [(qm, .inr (4, [.ref q1, .ref q2, .null, .null, .int nT, .int nL, .int nC, .int nMar, .int nIn, .null, .null, .null, .null, .int nHand, .int nGiv, .int nCyc, .int nWai, .int nSw, .int nBeg, .int nOut, .null, .int nRsel, .int nAluf, .int nBs, .int nF1, .int nF2, .int nSum, .int nSc])), (q1, .inl (cI, 1024, .inl (fun _ => 0))), (q2, .inl (cI, 256, .inl (fun _ => 0)))] H := hP
  have hD : va_D A [(qm, .inr (4, [.ref q1, .ref q2, .null, .null, .int nT, .int nL, .int nC, .int nMar, .int nIn, .null, .null, .null, .null, .int nHand, .int nGiv, .int nCyc, .int nWai, .int nSw, .int nBeg, .int nOut, .null, .int nRsel, .int nAluf, .int nBs, .int nF1, .int nF2, .int nSum, .int nSc])), (q1, .inl (cI, 1024, .inl (fun _ => 0))), (q2, .inl (cI, 256, .inl (fun _ => 0)))] := hD
  refine lv_aload_n hx hb dX4_init_22 rfl (lv_at hl 0 rfl) ?_
  refine lv_sipush (v := 1024) hx hb dX4_init_23 (by decide) ?_
  refine va_newa (atype := .int) (ty := .int) (N' := 1024) (a0 := (1024, .inl (fun _ => 0))) hx hb (hts _ wa_int) rfl hK hP hD hS hA (fun _ => rfl) (by decide) (by decide) (by decide) (Nat.le_of_ble_eq_true rfl) (Nat.le_of_ble_eq_true rfl) dX4_init_26 (fun q3 cA3 H hK1 hP hD hS => ?_)
  have hcA : cI = cA3 := Option.some.inj ((va_nm_int (hK.2 0 (cI, .int) rfl).2).symm.trans (va_nm_int (hK1.2 2 (cA3, .int) rfl).2))
  subst hcA
  clear hK1
  have hP : va_P D classes [(qm, .inr (4, [.ref q1, .ref q2, .null, .null, .int nT, .int nL, .int nC, .int nMar, .int nIn, .null, .null, .null, .null, .int nHand, .int nGiv, .int nCyc, .int nWai, .int nSw, .int nBeg, .int nOut, .null, .int nRsel, .int nAluf, .int nBs, .int nF1, .int nF2, .int nSum, .int nSc])), (q1, .inl (cI, 1024, .inl (fun _ => 0))), (q2, .inl (cI, 256, .inl (fun _ => 0))), (q3, .inl (cI, 1024, .inl (fun _ => 0)))] H := hP
  have hD : va_D A [(qm, .inr (4, [.ref q1, .ref q2, .null, .null, .int nT, .int nL, .int nC, .int nMar, .int nIn, .null, .null, .null, .null, .int nHand, .int nGiv, .int nCyc, .int nWai, .int nSw, .int nBeg, .int nOut, .null, .int nRsel, .int nAluf, .int nBs, .int nF1, .int nF2, .int nSum, .int nSc])), (q1, .inl (cI, 1024, .inl (fun _ => 0))), (q2, .inl (cI, 256, .inl (fun _ => 0))), (q3, .inl (cI, 1024, .inl (fun _ => 0)))] := hD
  refine W.widen (k := 3) (n := 2304) (by omega) (by omega) ?_
  refine va_putF (D := D) (ci := 4) (v := .ref q3) (ty := (.array .int)) (C := RX4) (T := TX4) (N := 28) hx hb hts ilX4 tyX4 tyX4_ok nmX4 hown hK hP hD hS 0 rfl rfl 2 (by decide) (hts _ wf_X4_16) (fun _ h9 => h9) rfl hin rfl (by decide +kernel) rfl rfl (Nat.le_of_ble_eq_true rfl) dX4_init_28 (fun H locs hP hD hS => ?_)
  have hP : va_P D classes [(qm, .inr (4, [.ref q1, .ref q2, .ref q3, .null, .int nT, .int nL, .int nC, .int nMar, .int nIn, .null, .null, .null, .null, .int nHand, .int nGiv, .int nCyc, .int nWai, .int nSw, .int nBeg, .int nOut, .null, .int nRsel, .int nAluf, .int nBs, .int nF1, .int nF2, .int nSum, .int nSc])), (q1, .inl (cI, 1024, .inl (fun _ => 0))), (q2, .inl (cI, 256, .inl (fun _ => 0))), (q3, .inl (cI, 1024, .inl (fun _ => 0)))] H := hP
  have hD : va_D A [(qm, .inr (4, [.ref q1, .ref q2, .ref q3, .null, .int nT, .int nL, .int nC, .int nMar, .int nIn, .null, .null, .null, .null, .int nHand, .int nGiv, .int nCyc, .int nWai, .int nSw, .int nBeg, .int nOut, .null, .int nRsel, .int nAluf, .int nBs, .int nF1, .int nF2, .int nSum, .int nSc])), (q1, .inl (cI, 1024, .inl (fun _ => 0))), (q2, .inl (cI, 256, .inl (fun _ => 0))), (q3, .inl (cI, 1024, .inl (fun _ => 0)))] := hD
  refine lv_aload_n hx hb dX4_init_31 rfl (lv_at hl 0 rfl) ?_
  refine lv_bipush (v := 32) hx hb dX4_init_32 (by decide) ?_
  refine va_newa (atype := .int) (ty := .int) (N' := 32) (a0 := (32, .inl (fun _ => 0))) hx hb (hts _ wa_int) rfl hK hP hD hS hA (fun _ => rfl) (by decide) (by decide) (by decide) (Nat.le_of_ble_eq_true rfl) (Nat.le_of_ble_eq_true rfl) dX4_init_34 (fun q4 cA4 H hK1 hP hD hS => ?_)
  have hcA : cI = cA4 := Option.some.inj ((va_nm_int (hK.2 0 (cI, .int) rfl).2).symm.trans (va_nm_int (hK1.2 2 (cA4, .int) rfl).2))
  subst hcA
  clear hK1
  have hP : va_P D classes [(qm, .inr (4, [.ref q1, .ref q2, .ref q3, .null, .int nT, .int nL, .int nC, .int nMar, .int nIn, .null, .null, .null, .null, .int nHand, .int nGiv, .int nCyc, .int nWai, .int nSw, .int nBeg, .int nOut, .null, .int nRsel, .int nAluf, .int nBs, .int nF1, .int nF2, .int nSum, .int nSc])), (q1, .inl (cI, 1024, .inl (fun _ => 0))), (q2, .inl (cI, 256, .inl (fun _ => 0))), (q3, .inl (cI, 1024, .inl (fun _ => 0))), (q4, .inl (cI, 32, .inl (fun _ => 0)))] H := hP
  have hD : va_D A [(qm, .inr (4, [.ref q1, .ref q2, .ref q3, .null, .int nT, .int nL, .int nC, .int nMar, .int nIn, .null, .null, .null, .null, .int nHand, .int nGiv, .int nCyc, .int nWai, .int nSw, .int nBeg, .int nOut, .null, .int nRsel, .int nAluf, .int nBs, .int nF1, .int nF2, .int nSum, .int nSc])), (q1, .inl (cI, 1024, .inl (fun _ => 0))), (q2, .inl (cI, 256, .inl (fun _ => 0))), (q3, .inl (cI, 1024, .inl (fun _ => 0))), (q4, .inl (cI, 32, .inl (fun _ => 0)))] := hD
  refine W.widen (k := 4) (n := 2336) (by omega) (by omega) ?_
  refine va_putF (D := D) (ci := 4) (v := .ref q4) (ty := (.array .int)) (C := RX4) (T := TX4) (N := 28) hx hb hts ilX4 tyX4 tyX4_ok nmX4 hown hK hP hD hS 0 rfl rfl 3 (by decide) (hts _ wf_X4_19) (fun _ h9 => h9) rfl hin rfl (by decide +kernel) rfl rfl (Nat.le_of_ble_eq_true rfl) dX4_init_36 (fun H locs hP hD hS => ?_)
  have hP : va_P D classes [(qm, .inr (4, [.ref q1, .ref q2, .ref q3, .ref q4, .int nT, .int nL, .int nC, .int nMar, .int nIn, .null, .null, .null, .null, .int nHand, .int nGiv, .int nCyc, .int nWai, .int nSw, .int nBeg, .int nOut, .null, .int nRsel, .int nAluf, .int nBs, .int nF1, .int nF2, .int nSum, .int nSc])), (q1, .inl (cI, 1024, .inl (fun _ => 0))), (q2, .inl (cI, 256, .inl (fun _ => 0))), (q3, .inl (cI, 1024, .inl (fun _ => 0))), (q4, .inl (cI, 32, .inl (fun _ => 0)))] H := hP
  have hD : va_D A [(qm, .inr (4, [.ref q1, .ref q2, .ref q3, .ref q4, .int nT, .int nL, .int nC, .int nMar, .int nIn, .null, .null, .null, .null, .int nHand, .int nGiv, .int nCyc, .int nWai, .int nSw, .int nBeg, .int nOut, .null, .int nRsel, .int nAluf, .int nBs, .int nF1, .int nF2, .int nSum, .int nSc])), (q1, .inl (cI, 1024, .inl (fun _ => 0))), (q2, .inl (cI, 256, .inl (fun _ => 0))), (q3, .inl (cI, 1024, .inl (fun _ => 0))), (q4, .inl (cI, 32, .inl (fun _ => 0)))] := hD
  refine lv_aload_n hx hb dX4_init_39 rfl (lv_at hl 0 rfl) ?_
  refine lv_bipush (v := 16) hx hb dX4_init_40 (by decide) ?_
  refine va_newa (atype := .int) (ty := .int) (N' := 16) (a0 := (16, .inl (fun _ => 0))) hx hb (hts _ wa_int) rfl hK hP hD hS hA (fun _ => rfl) (by decide) (by decide) (by decide) (Nat.le_of_ble_eq_true rfl) (Nat.le_of_ble_eq_true rfl) dX4_init_42 (fun q5 cA5 H hK1 hP hD hS => ?_)
  have hcA : cI = cA5 := Option.some.inj ((va_nm_int (hK.2 0 (cI, .int) rfl).2).symm.trans (va_nm_int (hK1.2 2 (cA5, .int) rfl).2))
  subst hcA
  clear hK1
  have hP : va_P D classes [(qm, .inr (4, [.ref q1, .ref q2, .ref q3, .ref q4, .int nT, .int nL, .int nC, .int nMar, .int nIn, .null, .null, .null, .null, .int nHand, .int nGiv, .int nCyc, .int nWai, .int nSw, .int nBeg, .int nOut, .null, .int nRsel, .int nAluf, .int nBs, .int nF1, .int nF2, .int nSum, .int nSc])), (q1, .inl (cI, 1024, .inl (fun _ => 0))), (q2, .inl (cI, 256, .inl (fun _ => 0))), (q3, .inl (cI, 1024, .inl (fun _ => 0))), (q4, .inl (cI, 32, .inl (fun _ => 0))), (q5, .inl (cI, 16, .inl (fun _ => 0)))] H := hP
  have hD : va_D A [(qm, .inr (4, [.ref q1, .ref q2, .ref q3, .ref q4, .int nT, .int nL, .int nC, .int nMar, .int nIn, .null, .null, .null, .null, .int nHand, .int nGiv, .int nCyc, .int nWai, .int nSw, .int nBeg, .int nOut, .null, .int nRsel, .int nAluf, .int nBs, .int nF1, .int nF2, .int nSum, .int nSc])), (q1, .inl (cI, 1024, .inl (fun _ => 0))), (q2, .inl (cI, 256, .inl (fun _ => 0))), (q3, .inl (cI, 1024, .inl (fun _ => 0))), (q4, .inl (cI, 32, .inl (fun _ => 0))), (q5, .inl (cI, 16, .inl (fun _ => 0)))] := hD
  refine W.widen (k := 5) (n := 2352) (by omega) (by omega) ?_
  refine va_putF (D := D) (ci := 4) (v := .ref q5) (ty := (.array .int)) (C := RX4) (T := TX4) (N := 28) hx hb hts ilX4 tyX4 tyX4_ok nmX4 hown hK hP hD hS 0 rfl rfl 9 (by decide) (hts _ wf_X4_22) (fun _ h9 => h9) rfl hin rfl (by decide +kernel) rfl rfl (Nat.le_of_ble_eq_true rfl) dX4_init_44 (fun H locs hP hD hS => ?_)
  have hP : va_P D classes [(qm, .inr (4, [.ref q1, .ref q2, .ref q3, .ref q4, .int nT, .int nL, .int nC, .int nMar, .int nIn, .ref q5, .null, .null, .null, .int nHand, .int nGiv, .int nCyc, .int nWai, .int nSw, .int nBeg, .int nOut, .null, .int nRsel, .int nAluf, .int nBs, .int nF1, .int nF2, .int nSum, .int nSc])), (q1, .inl (cI, 1024, .inl (fun _ => 0))), (q2, .inl (cI, 256, .inl (fun _ => 0))), (q3, .inl (cI, 1024, .inl (fun _ => 0))), (q4, .inl (cI, 32, .inl (fun _ => 0))), (q5, .inl (cI, 16, .inl (fun _ => 0)))] H := hP
  have hD : va_D A [(qm, .inr (4, [.ref q1, .ref q2, .ref q3, .ref q4, .int nT, .int nL, .int nC, .int nMar, .int nIn, .ref q5, .null, .null, .null, .int nHand, .int nGiv, .int nCyc, .int nWai, .int nSw, .int nBeg, .int nOut, .null, .int nRsel, .int nAluf, .int nBs, .int nF1, .int nF2, .int nSum, .int nSc])), (q1, .inl (cI, 1024, .inl (fun _ => 0))), (q2, .inl (cI, 256, .inl (fun _ => 0))), (q3, .inl (cI, 1024, .inl (fun _ => 0))), (q4, .inl (cI, 32, .inl (fun _ => 0))), (q5, .inl (cI, 16, .inl (fun _ => 0)))] := hD
  refine lv_aload_n hx hb dX4_init_47 rfl (lv_at hl 0 rfl) ?_
  refine lv_bipush (v := 16) hx hb dX4_init_48 (by decide) ?_
  refine va_newa (atype := .int) (ty := .int) (N' := 16) (a0 := (16, .inl (fun _ => 0))) hx hb (hts _ wa_int) rfl hK hP hD hS hA (fun _ => rfl) (by decide) (by decide) (by decide) (Nat.le_of_ble_eq_true rfl) (Nat.le_of_ble_eq_true rfl) dX4_init_50 (fun q6 cA6 H hK1 hP hD hS => ?_)
  have hcA : cI = cA6 := Option.some.inj ((va_nm_int (hK.2 0 (cI, .int) rfl).2).symm.trans (va_nm_int (hK1.2 2 (cA6, .int) rfl).2))
  subst hcA
  clear hK1
  have hP : va_P D classes [(qm, .inr (4, [.ref q1, .ref q2, .ref q3, .ref q4, .int nT, .int nL, .int nC, .int nMar, .int nIn, .ref q5, .null, .null, .null, .int nHand, .int nGiv, .int nCyc, .int nWai, .int nSw, .int nBeg, .int nOut, .null, .int nRsel, .int nAluf, .int nBs, .int nF1, .int nF2, .int nSum, .int nSc])), (q1, .inl (cI, 1024, .inl (fun _ => 0))), (q2, .inl (cI, 256, .inl (fun _ => 0))), (q3, .inl (cI, 1024, .inl (fun _ => 0))), (q4, .inl (cI, 32, .inl (fun _ => 0))), (q5, .inl (cI, 16, .inl (fun _ => 0))), (q6, .inl (cI, 16, .inl (fun _ => 0)))] H := hP
  have hD : va_D A [(qm, .inr (4, [.ref q1, .ref q2, .ref q3, .ref q4, .int nT, .int nL, .int nC, .int nMar, .int nIn, .ref q5, .null, .null, .null, .int nHand, .int nGiv, .int nCyc, .int nWai, .int nSw, .int nBeg, .int nOut, .null, .int nRsel, .int nAluf, .int nBs, .int nF1, .int nF2, .int nSum, .int nSc])), (q1, .inl (cI, 1024, .inl (fun _ => 0))), (q2, .inl (cI, 256, .inl (fun _ => 0))), (q3, .inl (cI, 1024, .inl (fun _ => 0))), (q4, .inl (cI, 32, .inl (fun _ => 0))), (q5, .inl (cI, 16, .inl (fun _ => 0))), (q6, .inl (cI, 16, .inl (fun _ => 0)))] := hD
  refine W.widen (k := 6) (n := 2368) (by omega) (by omega) ?_
  refine va_putF (D := D) (ci := 4) (v := .ref q6) (ty := (.array .int)) (C := RX4) (T := TX4) (N := 28) hx hb hts ilX4 tyX4 tyX4_ok nmX4 hown hK hP hD hS 0 rfl rfl 10 (by decide) (hts _ wf_X4_25) (fun _ h9 => h9) rfl hin rfl (by decide +kernel) rfl rfl (Nat.le_of_ble_eq_true rfl) dX4_init_52 (fun H locs hP hD hS => ?_)
  have hP : va_P D classes [(qm, .inr (4, [.ref q1, .ref q2, .ref q3, .ref q4, .int nT, .int nL, .int nC, .int nMar, .int nIn, .ref q5, .ref q6, .null, .null, .int nHand, .int nGiv, .int nCyc, .int nWai, .int nSw, .int nBeg, .int nOut, .null, .int nRsel, .int nAluf, .int nBs, .int nF1, .int nF2, .int nSum, .int nSc])), (q1, .inl (cI, 1024, .inl (fun _ => 0))), (q2, .inl (cI, 256, .inl (fun _ => 0))), (q3, .inl (cI, 1024, .inl (fun _ => 0))), (q4, .inl (cI, 32, .inl (fun _ => 0))), (q5, .inl (cI, 16, .inl (fun _ => 0))), (q6, .inl (cI, 16, .inl (fun _ => 0)))] H := hP
  have hD : va_D A [(qm, .inr (4, [.ref q1, .ref q2, .ref q3, .ref q4, .int nT, .int nL, .int nC, .int nMar, .int nIn, .ref q5, .ref q6, .null, .null, .int nHand, .int nGiv, .int nCyc, .int nWai, .int nSw, .int nBeg, .int nOut, .null, .int nRsel, .int nAluf, .int nBs, .int nF1, .int nF2, .int nSum, .int nSc])), (q1, .inl (cI, 1024, .inl (fun _ => 0))), (q2, .inl (cI, 256, .inl (fun _ => 0))), (q3, .inl (cI, 1024, .inl (fun _ => 0))), (q4, .inl (cI, 32, .inl (fun _ => 0))), (q5, .inl (cI, 16, .inl (fun _ => 0))), (q6, .inl (cI, 16, .inl (fun _ => 0)))] := hD
  refine lv_aload_n hx hb dX4_init_55 rfl (lv_at hl 0 rfl) ?_
  refine lv_bipush (v := 16) hx hb dX4_init_56 (by decide) ?_
  refine va_newa (atype := .boolean) (ty := .boolean) (N' := 16) (a0 := (16, .inl (fun _ => 0))) hx hb (hts _ wa_boolean) rfl hK hP hD hS hA (fun _ => rfl) (by decide) (by decide) (by decide) (Nat.le_of_ble_eq_true rfl) (Nat.le_of_ble_eq_true rfl) dX4_init_58 (fun q7 cA7 H hK1 hP hD hS => ?_)
  have hcA : cZ = cA7 := Option.some.inj ((va_nm_boolean (hK.2 1 (cZ, .boolean) rfl).2).symm.trans (va_nm_boolean (hK1.2 2 (cA7, .boolean) rfl).2))
  subst hcA
  clear hK1
  have hP : va_P D classes [(qm, .inr (4, [.ref q1, .ref q2, .ref q3, .ref q4, .int nT, .int nL, .int nC, .int nMar, .int nIn, .ref q5, .ref q6, .null, .null, .int nHand, .int nGiv, .int nCyc, .int nWai, .int nSw, .int nBeg, .int nOut, .null, .int nRsel, .int nAluf, .int nBs, .int nF1, .int nF2, .int nSum, .int nSc])), (q1, .inl (cI, 1024, .inl (fun _ => 0))), (q2, .inl (cI, 256, .inl (fun _ => 0))), (q3, .inl (cI, 1024, .inl (fun _ => 0))), (q4, .inl (cI, 32, .inl (fun _ => 0))), (q5, .inl (cI, 16, .inl (fun _ => 0))), (q6, .inl (cI, 16, .inl (fun _ => 0))), (q7, .inl (cZ, 16, .inl (fun _ => 0)))] H := hP
  have hD : va_D A [(qm, .inr (4, [.ref q1, .ref q2, .ref q3, .ref q4, .int nT, .int nL, .int nC, .int nMar, .int nIn, .ref q5, .ref q6, .null, .null, .int nHand, .int nGiv, .int nCyc, .int nWai, .int nSw, .int nBeg, .int nOut, .null, .int nRsel, .int nAluf, .int nBs, .int nF1, .int nF2, .int nSum, .int nSc])), (q1, .inl (cI, 1024, .inl (fun _ => 0))), (q2, .inl (cI, 256, .inl (fun _ => 0))), (q3, .inl (cI, 1024, .inl (fun _ => 0))), (q4, .inl (cI, 32, .inl (fun _ => 0))), (q5, .inl (cI, 16, .inl (fun _ => 0))), (q6, .inl (cI, 16, .inl (fun _ => 0))), (q7, .inl (cZ, 16, .inl (fun _ => 0)))] := hD
  refine W.widen (k := 7) (n := 2384) (by omega) (by omega) ?_
  refine va_putF (D := D) (ci := 4) (v := .ref q7) (ty := (.array .boolean)) (C := RX4) (T := TX4) (N := 28) hx hb hts ilX4 tyX4 tyX4_ok nmX4 hown hK hP hD hS 0 rfl rfl 11 (by decide) (hts _ wf_X4_28) (fun _ h9 => h9) rfl hin rfl (by decide +kernel) rfl rfl (Nat.le_of_ble_eq_true rfl) dX4_init_60 (fun H locs hP hD hS => ?_)
  have hP : va_P D classes [(qm, .inr (4, [.ref q1, .ref q2, .ref q3, .ref q4, .int nT, .int nL, .int nC, .int nMar, .int nIn, .ref q5, .ref q6, .ref q7, .null, .int nHand, .int nGiv, .int nCyc, .int nWai, .int nSw, .int nBeg, .int nOut, .null, .int nRsel, .int nAluf, .int nBs, .int nF1, .int nF2, .int nSum, .int nSc])), (q1, .inl (cI, 1024, .inl (fun _ => 0))), (q2, .inl (cI, 256, .inl (fun _ => 0))), (q3, .inl (cI, 1024, .inl (fun _ => 0))), (q4, .inl (cI, 32, .inl (fun _ => 0))), (q5, .inl (cI, 16, .inl (fun _ => 0))), (q6, .inl (cI, 16, .inl (fun _ => 0))), (q7, .inl (cZ, 16, .inl (fun _ => 0)))] H := hP
  have hD : va_D A [(qm, .inr (4, [.ref q1, .ref q2, .ref q3, .ref q4, .int nT, .int nL, .int nC, .int nMar, .int nIn, .ref q5, .ref q6, .ref q7, .null, .int nHand, .int nGiv, .int nCyc, .int nWai, .int nSw, .int nBeg, .int nOut, .null, .int nRsel, .int nAluf, .int nBs, .int nF1, .int nF2, .int nSum, .int nSc])), (q1, .inl (cI, 1024, .inl (fun _ => 0))), (q2, .inl (cI, 256, .inl (fun _ => 0))), (q3, .inl (cI, 1024, .inl (fun _ => 0))), (q4, .inl (cI, 32, .inl (fun _ => 0))), (q5, .inl (cI, 16, .inl (fun _ => 0))), (q6, .inl (cI, 16, .inl (fun _ => 0))), (q7, .inl (cZ, 16, .inl (fun _ => 0)))] := hD
  refine lv_aload_n hx hb dX4_init_63 rfl (lv_at hl 0 rfl) ?_
  refine lv_bipush (v := 16) hx hb dX4_init_64 (by decide) ?_
  refine va_newa (atype := .int) (ty := .int) (N' := 16) (a0 := (16, .inl (fun _ => 0))) hx hb (hts _ wa_int) rfl hK hP hD hS hA (fun _ => rfl) (by decide) (by decide) (by decide) (Nat.le_of_ble_eq_true rfl) (Nat.le_of_ble_eq_true rfl) dX4_init_66 (fun q8 cA8 H hK1 hP hD hS => ?_)
  have hcA : cI = cA8 := Option.some.inj ((va_nm_int (hK.2 0 (cI, .int) rfl).2).symm.trans (va_nm_int (hK1.2 2 (cA8, .int) rfl).2))
  subst hcA
  clear hK1
  have hP : va_P D classes [(qm, .inr (4, [.ref q1, .ref q2, .ref q3, .ref q4, .int nT, .int nL, .int nC, .int nMar, .int nIn, .ref q5, .ref q6, .ref q7, .null, .int nHand, .int nGiv, .int nCyc, .int nWai, .int nSw, .int nBeg, .int nOut, .null, .int nRsel, .int nAluf, .int nBs, .int nF1, .int nF2, .int nSum, .int nSc])), (q1, .inl (cI, 1024, .inl (fun _ => 0))), (q2, .inl (cI, 256, .inl (fun _ => 0))), (q3, .inl (cI, 1024, .inl (fun _ => 0))), (q4, .inl (cI, 32, .inl (fun _ => 0))), (q5, .inl (cI, 16, .inl (fun _ => 0))), (q6, .inl (cI, 16, .inl (fun _ => 0))), (q7, .inl (cZ, 16, .inl (fun _ => 0))), (q8, .inl (cI, 16, .inl (fun _ => 0)))] H := hP
  have hD : va_D A [(qm, .inr (4, [.ref q1, .ref q2, .ref q3, .ref q4, .int nT, .int nL, .int nC, .int nMar, .int nIn, .ref q5, .ref q6, .ref q7, .null, .int nHand, .int nGiv, .int nCyc, .int nWai, .int nSw, .int nBeg, .int nOut, .null, .int nRsel, .int nAluf, .int nBs, .int nF1, .int nF2, .int nSum, .int nSc])), (q1, .inl (cI, 1024, .inl (fun _ => 0))), (q2, .inl (cI, 256, .inl (fun _ => 0))), (q3, .inl (cI, 1024, .inl (fun _ => 0))), (q4, .inl (cI, 32, .inl (fun _ => 0))), (q5, .inl (cI, 16, .inl (fun _ => 0))), (q6, .inl (cI, 16, .inl (fun _ => 0))), (q7, .inl (cZ, 16, .inl (fun _ => 0))), (q8, .inl (cI, 16, .inl (fun _ => 0)))] := hD
  refine W.widen (k := 8) (n := 2400) (by omega) (by omega) ?_
  refine va_putF (D := D) (ci := 4) (v := .ref q8) (ty := (.array .int)) (C := RX4) (T := TX4) (N := 28) hx hb hts ilX4 tyX4 tyX4_ok nmX4 hown hK hP hD hS 0 rfl rfl 12 (by decide) (hts _ wf_X4_32) (fun _ h9 => h9) rfl hin rfl (by decide +kernel) rfl rfl (Nat.le_of_ble_eq_true rfl) dX4_init_68 (fun H locs hP hD hS => ?_)
  have hP : va_P D classes [(qm, .inr (4, [.ref q1, .ref q2, .ref q3, .ref q4, .int nT, .int nL, .int nC, .int nMar, .int nIn, .ref q5, .ref q6, .ref q7, .ref q8, .int nHand, .int nGiv, .int nCyc, .int nWai, .int nSw, .int nBeg, .int nOut, .null, .int nRsel, .int nAluf, .int nBs, .int nF1, .int nF2, .int nSum, .int nSc])), (q1, .inl (cI, 1024, .inl (fun _ => 0))), (q2, .inl (cI, 256, .inl (fun _ => 0))), (q3, .inl (cI, 1024, .inl (fun _ => 0))), (q4, .inl (cI, 32, .inl (fun _ => 0))), (q5, .inl (cI, 16, .inl (fun _ => 0))), (q6, .inl (cI, 16, .inl (fun _ => 0))), (q7, .inl (cZ, 16, .inl (fun _ => 0))), (q8, .inl (cI, 16, .inl (fun _ => 0)))] H := hP
  have hD : va_D A [(qm, .inr (4, [.ref q1, .ref q2, .ref q3, .ref q4, .int nT, .int nL, .int nC, .int nMar, .int nIn, .ref q5, .ref q6, .ref q7, .ref q8, .int nHand, .int nGiv, .int nCyc, .int nWai, .int nSw, .int nBeg, .int nOut, .null, .int nRsel, .int nAluf, .int nBs, .int nF1, .int nF2, .int nSum, .int nSc])), (q1, .inl (cI, 1024, .inl (fun _ => 0))), (q2, .inl (cI, 256, .inl (fun _ => 0))), (q3, .inl (cI, 1024, .inl (fun _ => 0))), (q4, .inl (cI, 32, .inl (fun _ => 0))), (q5, .inl (cI, 16, .inl (fun _ => 0))), (q6, .inl (cI, 16, .inl (fun _ => 0))), (q7, .inl (cZ, 16, .inl (fun _ => 0))), (q8, .inl (cI, 16, .inl (fun _ => 0)))] := hD
  refine lv_aload_n hx hb dX4_init_71 rfl (lv_at hl 0 rfl) ?_
  refine lv_bipush (v := (-100)) hx hb dX4_init_72 (by decide) ?_
  refine va_put (D := D) (ci := 4) (v := .int (-100)) (ty := (.int)) (C := RX4) (T := TX4) (N := 28) hx hb hts ilX4 tyX4 tyX4_ok nmX4 hown hK hP hD hS 0 rfl rfl 18 (by decide) (hts _ wf_X4_35) (fun _ h9 => h9) rfl (by decide +kernel) rfl rfl (Nat.le_of_ble_eq_true rfl) dX4_init_74 (fun H locs hP hD hS => ?_)
  have hP : va_P D classes [(qm, .inr (4, [.ref q1, .ref q2, .ref q3, .ref q4, .int nT, .int nL, .int nC, .int nMar, .int nIn, .ref q5, .ref q6, .ref q7, .ref q8, .int nHand, .int nGiv, .int nCyc, .int nWai, .int nSw, .int (-100), .int nOut, .null, .int nRsel, .int nAluf, .int nBs, .int nF1, .int nF2, .int nSum, .int nSc])), (q1, .inl (cI, 1024, .inl (fun _ => 0))), (q2, .inl (cI, 256, .inl (fun _ => 0))), (q3, .inl (cI, 1024, .inl (fun _ => 0))), (q4, .inl (cI, 32, .inl (fun _ => 0))), (q5, .inl (cI, 16, .inl (fun _ => 0))), (q6, .inl (cI, 16, .inl (fun _ => 0))), (q7, .inl (cZ, 16, .inl (fun _ => 0))), (q8, .inl (cI, 16, .inl (fun _ => 0)))] H := hP
  have hD : va_D A [(qm, .inr (4, [.ref q1, .ref q2, .ref q3, .ref q4, .int nT, .int nL, .int nC, .int nMar, .int nIn, .ref q5, .ref q6, .ref q7, .ref q8, .int nHand, .int nGiv, .int nCyc, .int nWai, .int nSw, .int (-100), .int nOut, .null, .int nRsel, .int nAluf, .int nBs, .int nF1, .int nF2, .int nSum, .int nSc])), (q1, .inl (cI, 1024, .inl (fun _ => 0))), (q2, .inl (cI, 256, .inl (fun _ => 0))), (q3, .inl (cI, 1024, .inl (fun _ => 0))), (q4, .inl (cI, 32, .inl (fun _ => 0))), (q5, .inl (cI, 16, .inl (fun _ => 0))), (q6, .inl (cI, 16, .inl (fun _ => 0))), (q7, .inl (cZ, 16, .inl (fun _ => 0))), (q8, .inl (cI, 16, .inl (fun _ => 0)))] := hD
  refine lv_aload_n hx hb dX4_init_77 rfl (lv_at hl 0 rfl) ?_
  refine lv_sipush (v := 500) hx hb dX4_init_78 (by decide) ?_
  refine va_newa (atype := .int) (ty := .int) (N' := 500) (a0 := (500, .inl (fun _ => 0))) hx hb (hts _ wa_int) rfl hK hP hD hS hA (fun _ => rfl) (by decide) (by decide) (by decide) (Nat.le_of_ble_eq_true rfl) (Nat.le_of_ble_eq_true rfl) dX4_init_81 (fun q9 cA9 H hK1 hP hD hS => ?_)
  have hcA : cI = cA9 := Option.some.inj ((va_nm_int (hK.2 0 (cI, .int) rfl).2).symm.trans (va_nm_int (hK1.2 2 (cA9, .int) rfl).2))
  subst hcA
  clear hK1
  have hP : va_P D classes [(qm, .inr (4, [.ref q1, .ref q2, .ref q3, .ref q4, .int nT, .int nL, .int nC, .int nMar, .int nIn, .ref q5, .ref q6, .ref q7, .ref q8, .int nHand, .int nGiv, .int nCyc, .int nWai, .int nSw, .int (-100), .int nOut, .null, .int nRsel, .int nAluf, .int nBs, .int nF1, .int nF2, .int nSum, .int nSc])), (q1, .inl (cI, 1024, .inl (fun _ => 0))), (q2, .inl (cI, 256, .inl (fun _ => 0))), (q3, .inl (cI, 1024, .inl (fun _ => 0))), (q4, .inl (cI, 32, .inl (fun _ => 0))), (q5, .inl (cI, 16, .inl (fun _ => 0))), (q6, .inl (cI, 16, .inl (fun _ => 0))), (q7, .inl (cZ, 16, .inl (fun _ => 0))), (q8, .inl (cI, 16, .inl (fun _ => 0))), (q9, .inl (cI, 500, .inl (fun _ => 0)))] H := hP
  have hD : va_D A [(qm, .inr (4, [.ref q1, .ref q2, .ref q3, .ref q4, .int nT, .int nL, .int nC, .int nMar, .int nIn, .ref q5, .ref q6, .ref q7, .ref q8, .int nHand, .int nGiv, .int nCyc, .int nWai, .int nSw, .int (-100), .int nOut, .null, .int nRsel, .int nAluf, .int nBs, .int nF1, .int nF2, .int nSum, .int nSc])), (q1, .inl (cI, 1024, .inl (fun _ => 0))), (q2, .inl (cI, 256, .inl (fun _ => 0))), (q3, .inl (cI, 1024, .inl (fun _ => 0))), (q4, .inl (cI, 32, .inl (fun _ => 0))), (q5, .inl (cI, 16, .inl (fun _ => 0))), (q6, .inl (cI, 16, .inl (fun _ => 0))), (q7, .inl (cZ, 16, .inl (fun _ => 0))), (q8, .inl (cI, 16, .inl (fun _ => 0))), (q9, .inl (cI, 500, .inl (fun _ => 0)))] := hD
  refine W.widen (k := 9) (n := 2900) (by omega) (by omega) ?_
  refine va_putF (D := D) (ci := 4) (v := .ref q9) (ty := (.array .int)) (C := RX4) (T := TX4) (N := 28) hx hb hts ilX4 tyX4 tyX4_ok nmX4 hown hK hP hD hS 0 rfl rfl 20 (by decide) (hts _ wf_X4_39) (fun _ h9 => h9) rfl hin rfl (by decide +kernel) rfl rfl (Nat.le_of_ble_eq_true rfl) dX4_init_83 (fun H locs hP hD hS => ?_)
  have hP : va_P D classes [(qm, .inr (4, [.ref q1, .ref q2, .ref q3, .ref q4, .int nT, .int nL, .int nC, .int nMar, .int nIn, .ref q5, .ref q6, .ref q7, .ref q8, .int nHand, .int nGiv, .int nCyc, .int nWai, .int nSw, .int (-100), .int nOut, .ref q9, .int nRsel, .int nAluf, .int nBs, .int nF1, .int nF2, .int nSum, .int nSc])), (q1, .inl (cI, 1024, .inl (fun _ => 0))), (q2, .inl (cI, 256, .inl (fun _ => 0))), (q3, .inl (cI, 1024, .inl (fun _ => 0))), (q4, .inl (cI, 32, .inl (fun _ => 0))), (q5, .inl (cI, 16, .inl (fun _ => 0))), (q6, .inl (cI, 16, .inl (fun _ => 0))), (q7, .inl (cZ, 16, .inl (fun _ => 0))), (q8, .inl (cI, 16, .inl (fun _ => 0))), (q9, .inl (cI, 500, .inl (fun _ => 0)))] H := hP
  have hD : va_D A [(qm, .inr (4, [.ref q1, .ref q2, .ref q3, .ref q4, .int nT, .int nL, .int nC, .int nMar, .int nIn, .ref q5, .ref q6, .ref q7, .ref q8, .int nHand, .int nGiv, .int nCyc, .int nWai, .int nSw, .int (-100), .int nOut, .ref q9, .int nRsel, .int nAluf, .int nBs, .int nF1, .int nF2, .int nSum, .int nSc])), (q1, .inl (cI, 1024, .inl (fun _ => 0))), (q2, .inl (cI, 256, .inl (fun _ => 0))), (q3, .inl (cI, 1024, .inl (fun _ => 0))), (q4, .inl (cI, 32, .inl (fun _ => 0))), (q5, .inl (cI, 16, .inl (fun _ => 0))), (q6, .inl (cI, 16, .inl (fun _ => 0))), (q7, .inl (cZ, 16, .inl (fun _ => 0))), (q8, .inl (cI, 16, .inl (fun _ => 0))), (q9, .inl (cI, 500, .inl (fun _ => 0)))] := hD
  refine lv_aload_n hx hb dX4_init_86 rfl (lv_at hl 0 rfl) ?_
  refine va_get (D := D) (ci := 4) (v := .ref q7) (C := RX4) (T := TX4) (N := 28) hx hb hts ilX4 hown hK hP 0 rfl rfl 11 (by decide) (hts _ wf_X4_28) (fun _ h9 => h9) rfl dX4_init_87 ?_
  refine lv_iconst (v := 0) hx hb dX4_init_90 (by decide) ?_
  refine lv_iconst (v := 1) hx hb dX4_init_91 (by decide) ?_
  refine va_zast hx hb hK hP hD hS 7 1 rfl rfl (by unfold vp_in; decide +kernel) dX4_init_92 (fun H locs hP hD hS => ?_)
  have hP : va_P D classes [(qm, .inr (4, [.ref q1, .ref q2, .ref q3, .ref q4, .int nT, .int nL, .int nC, .int nMar, .int nIn, .ref q5, .ref q6, .ref q7, .ref q8, .int nHand, .int nGiv, .int nCyc, .int nWai, .int nSw, .int (-100), .int nOut, .ref q9, .int nRsel, .int nAluf, .int nBs, .int nF1, .int nF2, .int nSum, .int nSc])), (q1, .inl (cI, 1024, .inl (fun _ => 0))), (q2, .inl (cI, 256, .inl (fun _ => 0))), (q3, .inl (cI, 1024, .inl (fun _ => 0))), (q4, .inl (cI, 32, .inl (fun _ => 0))), (q5, .inl (cI, 16, .inl (fun _ => 0))), (q6, .inl (cI, 16, .inl (fun _ => 0))), (q7, .inl (cZ, 16, .inl (upd (fun _ => 0) (Int32.toNatClampNeg 0) 1))), (q8, .inl (cI, 16, .inl (fun _ => 0))), (q9, .inl (cI, 500, .inl (fun _ => 0)))] H := hP
  have hD : va_D A [(qm, .inr (4, [.ref q1, .ref q2, .ref q3, .ref q4, .int nT, .int nL, .int nC, .int nMar, .int nIn, .ref q5, .ref q6, .ref q7, .ref q8, .int nHand, .int nGiv, .int nCyc, .int nWai, .int nSw, .int (-100), .int nOut, .ref q9, .int nRsel, .int nAluf, .int nBs, .int nF1, .int nF2, .int nSum, .int nSc])), (q1, .inl (cI, 1024, .inl (fun _ => 0))), (q2, .inl (cI, 256, .inl (fun _ => 0))), (q3, .inl (cI, 1024, .inl (fun _ => 0))), (q4, .inl (cI, 32, .inl (fun _ => 0))), (q5, .inl (cI, 16, .inl (fun _ => 0))), (q6, .inl (cI, 16, .inl (fun _ => 0))), (q7, .inl (cZ, 16, .inl (upd (fun _ => 0) (Int32.toNatClampNeg 0) 1))), (q8, .inl (cI, 16, .inl (fun _ => 0))), (q9, .inl (cI, 500, .inl (fun _ => 0)))] := hD
  exact ct_vret (q1, q2, q3, q4, q5, q6, q7, q8, q9) hx hb hr hlocks hP hD hS rfl dX4_init_93
def r_X4_within (p0 : Int32) (p1 : Int32) : Int32 := (if p0 < 0 then 0 else (if p1 < p0 then 0 else 1))
set_option maxHeartbeats 4000000 in
set_option maxRecDepth 100000 in
theorem c_X4_within (l : Launch) (D : va_G) (cI cZ : ClassId) (p0 : Int32) (p1 : Int32) : CtI l D classes [(cI, .int), (cZ, .boolean)] yX4_within w_X4_within { frames := 0, cells := 0, slots := 0, locals := 0 } [.int p0, .int p1] [] [] (r_X4_within p0 p1) := by
  refine CtI.mk (cc := cX4_within) (maxL := 2) (ret := (some .boolean)) (by decide) rfl (Nat.le_of_ble_eq_true rfl) ?_
  intro p e s m below meth c A hBeg ls hl
  obtain ⟨hx, hb, hr, hml, hts0, hown, hlocks, hin, hA, hK, hP, hD, hS⟩ := hBeg
  have hts := fun w h => hts0 w (List.mem_cons_of_mem _ h)
  have hown : s.vm.findClass RX4 = some m.cls := hown
  have hl : lv_has ls 2 [(0, .int p0), (1, .int p1)] := hl
  skip
  refine lv_iload_n hx hb dX4_within_0 rfl (lv_at hl 0 rfl) ?_
  refine lv_if_lt (tgt := 13) hx hb dX4_within_1 (by decide) (fun c_1 => ?_) (fun c_1 => ?_)
  · skip
    refine lv_iconst (v := 0) hx hb dX4_within_13 (by decide) ?_
    have e_1 : r_X4_within p0 p1 = 0 := by simp only [r_X4_within, if_pos c_1]
    exact ct_zret hx hb hr hlocks hP hD hS rfl (by rw [e_1]) (Or.inl rfl) dX4_within_14
  · skip
    refine lv_iload_n hx hb dX4_within_4 rfl (lv_at hl 0 rfl) ?_
    refine lv_iload_n hx hb dX4_within_5 rfl (lv_at hl 1 rfl) ?_
    refine lv_icmp_gt (tgt := 13) hx hb dX4_within_6 (by decide) (fun c_2 => ?_) (fun c_2 => ?_)
    · skip
      refine lv_iconst (v := 0) hx hb dX4_within_13 (by decide) ?_
      have e_1 : r_X4_within p0 p1 = 0 := by simp only [r_X4_within, if_neg c_1, if_pos c_2]
      exact ct_zret hx hb hr hlocks hP hD hS rfl (by rw [e_1]) (Or.inl rfl) dX4_within_14
    · skip
      refine lv_iconst (v := 1) hx hb dX4_within_9 (by decide) ?_
      refine lv_goto (tgt := 14) hx hb dX4_within_10 (by decide) ?_
      have e_1 : r_X4_within p0 p1 = 1 := by simp only [r_X4_within, if_neg c_1, if_neg c_2]
      exact ct_zret hx hb hr hlocks hP hD hS rfl (by rw [e_1]) (Or.inr rfl) dX4_within_14
theorem within_in {p0 q : Int32} {n : Nat} (hq : q.toInt + 1 = n) (h : ¬ r_X4_within p0 q = 0) : vp_in p0 n := by
  unfold r_X4_within at h
  by_cases h0 : p0 < 0
  · rw [if_pos h0] at h; exact absurd rfl h
  · by_cases h1 : q < p0
    · rw [if_neg h0, if_pos h1] at h; exact absurd rfl h
    · rw [vp_in_iff]
      rw [Int32.lt_iff_toInt_lt] at h0 h1
      have h2 : (0 : Int32).toInt = 0 := by decide
      omega
def z_X4_store_pI (gI : Nat → Int32) (p0 : Int32) (p1 : Int32) : Nat → Int32 := (if (r_X4_within p0 1023) = 0 then gI else upd gI (Int32.toNatClampNeg p0) p1)
def r_X4_store (p0 : Int32) : Int32 := (if (r_X4_within p0 1023) = 0 then 0 else 1)
set_option maxHeartbeats 4000000 in
set_option maxRecDepth 100000 in
theorem c_X4_store (l : Launch) (D : va_G) (cI cZ : ClassId) (qm : Nat) (pI : Nat) (pC : Nat) (pM : Nat) (pR : Nat) (pP : Nat) (pH : Nat) (pK : Nat) (pD : Nat) (pO : Nat) (gI : Nat → Int32) (gC : Nat → Int32) (gM : Nat → Int32) (gR : Nat → Int32) (gP : Nat → Int32) (gH : Nat → Int32) (gK : Nat → Int32) (gD : Nat → Int32) (gO : Nat → Int32) (nT : Int32) (nL : Int32) (nC : Int32) (nMar : Int32) (nIn : Int32) (nHand : Int32) (nGiv : Int32) (nCyc : Int32) (nWai : Int32) (nSw : Int32) (nBeg : Int32) (nOut : Int32) (nRsel : Int32) (nAluf : Int32) (nBs : Int32) (nF1 : Int32) (nF2 : Int32) (nSum : Int32) (nSc : Int32) (p0 : Int32) (p1 : Int32) : CtI l D classes [(cI, .int), (cZ, .boolean)] yX4_store w_X4_store { frames := 1, cells := 0, slots := 0, locals := 21 } [.ref qm, .int p0, .int p1] [(qm, .inr (4, [.ref pI, .ref pC, .ref pM, .ref pR, .int nT, .int nL, .int nC, .int nMar, .int nIn, .ref pP, .ref pH, .ref pK, .ref pD, .int nHand, .int nGiv, .int nCyc, .int nWai, .int nSw, .int nBeg, .int nOut, .ref pO, .int nRsel, .int nAluf, .int nBs, .int nF1, .int nF2, .int nSum, .int nSc])), (pI, .inl (cI, 1024, .inl gI)), (pC, .inl (cI, 256, .inl gC)), (pM, .inl (cI, 1024, .inl gM)), (pR, .inl (cI, 32, .inl gR)), (pP, .inl (cI, 16, .inl gP)), (pH, .inl (cI, 16, .inl gH)), (pK, .inl (cZ, 16, .inl gK)), (pD, .inl (cI, 16, .inl gD)), (pO, .inl (cI, 500, .inl gO))] [(qm, .inr (4, [.ref pI, .ref pC, .ref pM, .ref pR, .int nT, .int nL, .int nC, .int nMar, .int nIn, .ref pP, .ref pH, .ref pK, .ref pD, .int nHand, .int nGiv, .int nCyc, .int nWai, .int nSw, .int nBeg, .int nOut, .ref pO, .int nRsel, .int nAluf, .int nBs, .int nF1, .int nF2, .int nSum, .int nSc])), (pI, .inl (cI, 1024, .inl (z_X4_store_pI gI p0 p1))), (pC, .inl (cI, 256, .inl gC)), (pM, .inl (cI, 1024, .inl gM)), (pR, .inl (cI, 32, .inl gR)), (pP, .inl (cI, 16, .inl gP)), (pH, .inl (cI, 16, .inl gH)), (pK, .inl (cZ, 16, .inl gK)), (pD, .inl (cI, 16, .inl gD)), (pO, .inl (cI, 500, .inl gO))] (r_X4_store p0) := by
  refine CtI.mk (cc := cX4_store) (maxL := 3) (ret := (some .boolean)) (by decide) rfl (Nat.le_of_ble_eq_true rfl) ?_
  intro p e s m below meth c A hBeg ls hl
  obtain ⟨hx, hb, hr, hml, hts0, hown, hlocks, hin, hA, hK, hP, hD, hS⟩ := hBeg
  have hts := fun w h => hts0 w (List.mem_cons_of_mem _ h)
  have hown : s.vm.findClass RX4 = some m.cls := hown
  have hl : lv_has ls 3 [(0, .ref qm), (1, .int p0), (2, .int p1)] := hl
  skip
  refine lv_iload_n hx hb dX4_store_0 rfl (lv_at hl 1 rfl) ?_
  refine lv_sipush (v := 1023) hx hb dX4_store_1 (by decide) ?_
  refine ctI_S (As := [.int p0, .int 1023]) (rest := []) (wc := []) (wr := [(qm, .inr (4, [.ref pI, .ref pC, .ref pM, .ref pR, .int nT, .int nL, .int nC, .int nMar, .int nIn, .ref pP, .ref pH, .ref pK, .ref pD, .int nHand, .int nGiv, .int nCyc, .int nWai, .int nSw, .int nBeg, .int nOut, .ref pO, .int nRsel, .int nAluf, .int nBs, .int nF1, .int nF2, .int nSum, .int nSc])), (pI, .inl (cI, 1024, .inl gI)), (pC, .inl (cI, 256, .inl gC)), (pM, .inl (cI, 1024, .inl gM)), (pR, .inl (cI, 32, .inl gR)), (pP, .inl (cI, 16, .inl gP)), (pH, .inl (cI, 16, .inl gH)), (pK, .inl (cZ, 16, .inl gK)), (pD, .inl (cI, 16, .inl gD)), (pO, .inl (cI, 500, .inl gO))]) ⟨hx, hb, hml, hown, hts⟩ (c_X4_within l D cI cZ p0 1023) (cwS 2 hts (gd_S wm_X4_42 wt_X4_within wz_X4 wo_X4_within) rfl rfl rfl (by decide +kernel) ⟨Nat.le_of_ble_eq_true rfl, Nat.le_of_ble_eq_true rfl⟩) hK hP hD hS hA [] [0, 1, 2, 3, 4, 5, 6, 7, 8, 9] rfl rfl (by decide) (by decide) (by decide) rfl rfl hl.1 (Nat.le_of_ble_eq_true rfl) dX4_store_4 ⟨Nat.le_of_ble_eq_true rfl, Nat.le_of_ble_eq_true rfl⟩ (fun H locs hP hD hS => ?_)
  have hP : va_P D classes [(qm, .inr (4, [.ref pI, .ref pC, .ref pM, .ref pR, .int nT, .int nL, .int nC, .int nMar, .int nIn, .ref pP, .ref pH, .ref pK, .ref pD, .int nHand, .int nGiv, .int nCyc, .int nWai, .int nSw, .int nBeg, .int nOut, .ref pO, .int nRsel, .int nAluf, .int nBs, .int nF1, .int nF2, .int nSum, .int nSc])), (pI, .inl (cI, 1024, .inl gI)), (pC, .inl (cI, 256, .inl gC)), (pM, .inl (cI, 1024, .inl gM)), (pR, .inl (cI, 32, .inl gR)), (pP, .inl (cI, 16, .inl gP)), (pH, .inl (cI, 16, .inl gH)), (pK, .inl (cZ, 16, .inl gK)), (pD, .inl (cI, 16, .inl gD)), (pO, .inl (cI, 500, .inl gO))] H := hP
  have hD : va_D A [(qm, .inr (4, [.ref pI, .ref pC, .ref pM, .ref pR, .int nT, .int nL, .int nC, .int nMar, .int nIn, .ref pP, .ref pH, .ref pK, .ref pD, .int nHand, .int nGiv, .int nCyc, .int nWai, .int nSw, .int nBeg, .int nOut, .ref pO, .int nRsel, .int nAluf, .int nBs, .int nF1, .int nF2, .int nSum, .int nSc])), (pI, .inl (cI, 1024, .inl gI)), (pC, .inl (cI, 256, .inl gC)), (pM, .inl (cI, 1024, .inl gM)), (pR, .inl (cI, 32, .inl gR)), (pP, .inl (cI, 16, .inl gP)), (pH, .inl (cI, 16, .inl gH)), (pK, .inl (cZ, 16, .inl gK)), (pD, .inl (cI, 16, .inl gD)), (pO, .inl (cI, 500, .inl gO))] := hD
  refine lv_if_ne (tgt := 12) hx hb dX4_store_7 (by decide) (fun c_1 => ?_) (fun c_1 => ?_)
  · skip
    refine lv_aload_n hx hb dX4_store_12 rfl (lv_at hl 0 rfl) ?_
    refine va_get (D := D) (ci := 4) (v := .ref pI) (C := RX4) (T := TX4) (N := 28) hx hb hts ilX4 hown hK hP 0 rfl rfl 0 (by decide) (hts _ wf_X4_7) (fun _ h9 => h9) rfl dX4_store_13 ?_
    refine lv_iload_n hx hb dX4_store_16 rfl (lv_at hl 1 rfl) ?_
    refine lv_iload_n hx hb dX4_store_17 rfl (lv_at hl 2 rfl) ?_
    refine va_iast hx hb hK hP hD hS 1 0 rfl rfl (within_in (n := 1024) (by decide) c_1) dX4_store_18 (fun H locs hP hD hS => ?_)
    have hP : va_P D classes [(qm, .inr (4, [.ref pI, .ref pC, .ref pM, .ref pR, .int nT, .int nL, .int nC, .int nMar, .int nIn, .ref pP, .ref pH, .ref pK, .ref pD, .int nHand, .int nGiv, .int nCyc, .int nWai, .int nSw, .int nBeg, .int nOut, .ref pO, .int nRsel, .int nAluf, .int nBs, .int nF1, .int nF2, .int nSum, .int nSc])), (pI, .inl (cI, 1024, .inl (upd gI (Int32.toNatClampNeg p0) p1))), (pC, .inl (cI, 256, .inl gC)), (pM, .inl (cI, 1024, .inl gM)), (pR, .inl (cI, 32, .inl gR)), (pP, .inl (cI, 16, .inl gP)), (pH, .inl (cI, 16, .inl gH)), (pK, .inl (cZ, 16, .inl gK)), (pD, .inl (cI, 16, .inl gD)), (pO, .inl (cI, 500, .inl gO))] H := hP
    have hD : va_D A [(qm, .inr (4, [.ref pI, .ref pC, .ref pM, .ref pR, .int nT, .int nL, .int nC, .int nMar, .int nIn, .ref pP, .ref pH, .ref pK, .ref pD, .int nHand, .int nGiv, .int nCyc, .int nWai, .int nSw, .int nBeg, .int nOut, .ref pO, .int nRsel, .int nAluf, .int nBs, .int nF1, .int nF2, .int nSum, .int nSc])), (pI, .inl (cI, 1024, .inl (upd gI (Int32.toNatClampNeg p0) p1))), (pC, .inl (cI, 256, .inl gC)), (pM, .inl (cI, 1024, .inl gM)), (pR, .inl (cI, 32, .inl gR)), (pP, .inl (cI, 16, .inl gP)), (pH, .inl (cI, 16, .inl gH)), (pK, .inl (cZ, 16, .inl gK)), (pD, .inl (cI, 16, .inl gD)), (pO, .inl (cI, 500, .inl gO))] := hD
    refine lv_iconst (v := 1) hx hb dX4_store_19 (by decide) ?_
    have e_1 : z_X4_store_pI gI p0 p1 = upd gI (Int32.toNatClampNeg p0) p1 := by simp only [z_X4_store_pI, if_neg c_1]
    have e_2 : r_X4_store p0 = 1 := by simp only [r_X4_store, if_neg c_1]
    exact ct_zret hx hb hr hlocks hP hD hS (by rw [e_1]) (by rw [e_2]) (Or.inr rfl) dX4_store_20
  · skip
    refine lv_iconst (v := 0) hx hb dX4_store_10 (by decide) ?_
    have e_1 : z_X4_store_pI gI p0 p1 = gI := by simp only [z_X4_store_pI, if_pos c_1]
    have e_2 : r_X4_store p0 = 0 := by simp only [r_X4_store, if_pos c_1]
    exact ct_zret hx hb hr hlocks hP hD hS (by rw [e_1]) (by rw [e_2]) (Or.inl rfl) dX4_store_11
def z_X4_constant_pC (gC : Nat → Int32) (p0 : Int32) (p1 : Int32) : Nat → Int32 := (if (r_X4_within p0 255) = 0 then gC else upd gC (Int32.toNatClampNeg p0) (p1 &&& 65535))
def r_X4_constant (p0 : Int32) : Int32 := (if (r_X4_within p0 255) = 0 then 0 else 1)
set_option maxHeartbeats 4000000 in
set_option maxRecDepth 100000 in
theorem c_X4_constant (l : Launch) (D : va_G) (cI cZ : ClassId) (qm : Nat) (pI : Nat) (pC : Nat) (pM : Nat) (pR : Nat) (pP : Nat) (pH : Nat) (pK : Nat) (pD : Nat) (pO : Nat) (gI : Nat → Int32) (gC : Nat → Int32) (gM : Nat → Int32) (gR : Nat → Int32) (gP : Nat → Int32) (gH : Nat → Int32) (gK : Nat → Int32) (gD : Nat → Int32) (gO : Nat → Int32) (nT : Int32) (nL : Int32) (nC : Int32) (nMar : Int32) (nIn : Int32) (nHand : Int32) (nGiv : Int32) (nCyc : Int32) (nWai : Int32) (nSw : Int32) (nBeg : Int32) (nOut : Int32) (nRsel : Int32) (nAluf : Int32) (nBs : Int32) (nF1 : Int32) (nF2 : Int32) (nSum : Int32) (nSc : Int32) (p0 : Int32) (p1 : Int32) : CtI l D classes [(cI, .int), (cZ, .boolean)] yX4_constant w_X4_constant { frames := 1, cells := 0, slots := 0, locals := 21 } [.ref qm, .int p0, .int p1] [(qm, .inr (4, [.ref pI, .ref pC, .ref pM, .ref pR, .int nT, .int nL, .int nC, .int nMar, .int nIn, .ref pP, .ref pH, .ref pK, .ref pD, .int nHand, .int nGiv, .int nCyc, .int nWai, .int nSw, .int nBeg, .int nOut, .ref pO, .int nRsel, .int nAluf, .int nBs, .int nF1, .int nF2, .int nSum, .int nSc])), (pI, .inl (cI, 1024, .inl gI)), (pC, .inl (cI, 256, .inl gC)), (pM, .inl (cI, 1024, .inl gM)), (pR, .inl (cI, 32, .inl gR)), (pP, .inl (cI, 16, .inl gP)), (pH, .inl (cI, 16, .inl gH)), (pK, .inl (cZ, 16, .inl gK)), (pD, .inl (cI, 16, .inl gD)), (pO, .inl (cI, 500, .inl gO))] [(qm, .inr (4, [.ref pI, .ref pC, .ref pM, .ref pR, .int nT, .int nL, .int nC, .int nMar, .int nIn, .ref pP, .ref pH, .ref pK, .ref pD, .int nHand, .int nGiv, .int nCyc, .int nWai, .int nSw, .int nBeg, .int nOut, .ref pO, .int nRsel, .int nAluf, .int nBs, .int nF1, .int nF2, .int nSum, .int nSc])), (pI, .inl (cI, 1024, .inl gI)), (pC, .inl (cI, 256, .inl (z_X4_constant_pC gC p0 p1))), (pM, .inl (cI, 1024, .inl gM)), (pR, .inl (cI, 32, .inl gR)), (pP, .inl (cI, 16, .inl gP)), (pH, .inl (cI, 16, .inl gH)), (pK, .inl (cZ, 16, .inl gK)), (pD, .inl (cI, 16, .inl gD)), (pO, .inl (cI, 500, .inl gO))] (r_X4_constant p0) := by
  refine CtI.mk (cc := cX4_constant) (maxL := 3) (ret := (some .boolean)) (by decide) rfl (Nat.le_of_ble_eq_true rfl) ?_
  intro p e s m below meth c A hBeg ls hl
  obtain ⟨hx, hb, hr, hml, hts0, hown, hlocks, hin, hA, hK, hP, hD, hS⟩ := hBeg
  have hts := fun w h => hts0 w (List.mem_cons_of_mem _ h)
  have hown : s.vm.findClass RX4 = some m.cls := hown
  have hl : lv_has ls 3 [(0, .ref qm), (1, .int p0), (2, .int p1)] := hl
  skip
  refine lv_iload_n hx hb dX4_constant_0 rfl (lv_at hl 1 rfl) ?_
  refine lv_sipush (v := 255) hx hb dX4_constant_1 (by decide) ?_
  refine ctI_S (As := [.int p0, .int 255]) (rest := []) (wc := []) (wr := [(qm, .inr (4, [.ref pI, .ref pC, .ref pM, .ref pR, .int nT, .int nL, .int nC, .int nMar, .int nIn, .ref pP, .ref pH, .ref pK, .ref pD, .int nHand, .int nGiv, .int nCyc, .int nWai, .int nSw, .int nBeg, .int nOut, .ref pO, .int nRsel, .int nAluf, .int nBs, .int nF1, .int nF2, .int nSum, .int nSc])), (pI, .inl (cI, 1024, .inl gI)), (pC, .inl (cI, 256, .inl gC)), (pM, .inl (cI, 1024, .inl gM)), (pR, .inl (cI, 32, .inl gR)), (pP, .inl (cI, 16, .inl gP)), (pH, .inl (cI, 16, .inl gH)), (pK, .inl (cZ, 16, .inl gK)), (pD, .inl (cI, 16, .inl gD)), (pO, .inl (cI, 500, .inl gO))]) ⟨hx, hb, hml, hown, hts⟩ (c_X4_within l D cI cZ p0 255) (cwS 2 hts (gd_S wm_X4_42 wt_X4_within wz_X4 wo_X4_within) rfl rfl rfl (by decide +kernel) ⟨Nat.le_of_ble_eq_true rfl, Nat.le_of_ble_eq_true rfl⟩) hK hP hD hS hA [] [0, 1, 2, 3, 4, 5, 6, 7, 8, 9] rfl rfl (by decide) (by decide) (by decide) rfl rfl hl.1 (Nat.le_of_ble_eq_true rfl) dX4_constant_4 ⟨Nat.le_of_ble_eq_true rfl, Nat.le_of_ble_eq_true rfl⟩ (fun H locs hP hD hS => ?_)
  have hP : va_P D classes [(qm, .inr (4, [.ref pI, .ref pC, .ref pM, .ref pR, .int nT, .int nL, .int nC, .int nMar, .int nIn, .ref pP, .ref pH, .ref pK, .ref pD, .int nHand, .int nGiv, .int nCyc, .int nWai, .int nSw, .int nBeg, .int nOut, .ref pO, .int nRsel, .int nAluf, .int nBs, .int nF1, .int nF2, .int nSum, .int nSc])), (pI, .inl (cI, 1024, .inl gI)), (pC, .inl (cI, 256, .inl gC)), (pM, .inl (cI, 1024, .inl gM)), (pR, .inl (cI, 32, .inl gR)), (pP, .inl (cI, 16, .inl gP)), (pH, .inl (cI, 16, .inl gH)), (pK, .inl (cZ, 16, .inl gK)), (pD, .inl (cI, 16, .inl gD)), (pO, .inl (cI, 500, .inl gO))] H := hP
  have hD : va_D A [(qm, .inr (4, [.ref pI, .ref pC, .ref pM, .ref pR, .int nT, .int nL, .int nC, .int nMar, .int nIn, .ref pP, .ref pH, .ref pK, .ref pD, .int nHand, .int nGiv, .int nCyc, .int nWai, .int nSw, .int nBeg, .int nOut, .ref pO, .int nRsel, .int nAluf, .int nBs, .int nF1, .int nF2, .int nSum, .int nSc])), (pI, .inl (cI, 1024, .inl gI)), (pC, .inl (cI, 256, .inl gC)), (pM, .inl (cI, 1024, .inl gM)), (pR, .inl (cI, 32, .inl gR)), (pP, .inl (cI, 16, .inl gP)), (pH, .inl (cI, 16, .inl gH)), (pK, .inl (cZ, 16, .inl gK)), (pD, .inl (cI, 16, .inl gD)), (pO, .inl (cI, 500, .inl gO))] := hD
  refine lv_if_ne (tgt := 12) hx hb dX4_constant_7 (by decide) (fun c_1 => ?_) (fun c_1 => ?_)
  · skip
    refine lv_aload_n hx hb dX4_constant_12 rfl (lv_at hl 0 rfl) ?_
    refine va_get (D := D) (ci := 4) (v := .ref pC) (C := RX4) (T := TX4) (N := 28) hx hb hts ilX4 hown hK hP 0 rfl rfl 1 (by decide) (hts _ wf_X4_13) (fun _ h9 => h9) rfl dX4_constant_13 ?_
    refine lv_iload_n hx hb dX4_constant_16 rfl (lv_at hl 1 rfl) ?_
    refine lv_iload_n hx hb dX4_constant_17 rfl (lv_at hl 2 rfl) ?_
    refine lv_ldc (v := 65535) hx hb hown (hts _ wk_X4_46) dX4_constant_18 ?_
    refine lv_iand hx hb dX4_constant_20 ?_
    refine va_iast hx hb hK hP hD hS 2 0 rfl rfl (within_in (n := 256) (by decide) c_1) dX4_constant_21 (fun H locs hP hD hS => ?_)
    have hP : va_P D classes [(qm, .inr (4, [.ref pI, .ref pC, .ref pM, .ref pR, .int nT, .int nL, .int nC, .int nMar, .int nIn, .ref pP, .ref pH, .ref pK, .ref pD, .int nHand, .int nGiv, .int nCyc, .int nWai, .int nSw, .int nBeg, .int nOut, .ref pO, .int nRsel, .int nAluf, .int nBs, .int nF1, .int nF2, .int nSum, .int nSc])), (pI, .inl (cI, 1024, .inl gI)), (pC, .inl (cI, 256, .inl (upd gC (Int32.toNatClampNeg p0) (p1 &&& 65535)))), (pM, .inl (cI, 1024, .inl gM)), (pR, .inl (cI, 32, .inl gR)), (pP, .inl (cI, 16, .inl gP)), (pH, .inl (cI, 16, .inl gH)), (pK, .inl (cZ, 16, .inl gK)), (pD, .inl (cI, 16, .inl gD)), (pO, .inl (cI, 500, .inl gO))] H := hP
    have hD : va_D A [(qm, .inr (4, [.ref pI, .ref pC, .ref pM, .ref pR, .int nT, .int nL, .int nC, .int nMar, .int nIn, .ref pP, .ref pH, .ref pK, .ref pD, .int nHand, .int nGiv, .int nCyc, .int nWai, .int nSw, .int nBeg, .int nOut, .ref pO, .int nRsel, .int nAluf, .int nBs, .int nF1, .int nF2, .int nSum, .int nSc])), (pI, .inl (cI, 1024, .inl gI)), (pC, .inl (cI, 256, .inl (upd gC (Int32.toNatClampNeg p0) (p1 &&& 65535)))), (pM, .inl (cI, 1024, .inl gM)), (pR, .inl (cI, 32, .inl gR)), (pP, .inl (cI, 16, .inl gP)), (pH, .inl (cI, 16, .inl gH)), (pK, .inl (cZ, 16, .inl gK)), (pD, .inl (cI, 16, .inl gD)), (pO, .inl (cI, 500, .inl gO))] := hD
    refine lv_iconst (v := 1) hx hb dX4_constant_22 (by decide) ?_
    have e_1 : z_X4_constant_pC gC p0 p1 = upd gC (Int32.toNatClampNeg p0) (p1 &&& 65535) := by simp only [z_X4_constant_pC, if_neg c_1]
    have e_2 : r_X4_constant p0 = 1 := by simp only [r_X4_constant, if_neg c_1]
    exact ct_zret hx hb hr hlocks hP hD hS (by rw [e_1]) (by rw [e_2]) (Or.inr rfl) dX4_constant_23
  · skip
    refine lv_iconst (v := 0) hx hb dX4_constant_10 (by decide) ?_
    have e_1 : z_X4_constant_pC gC p0 p1 = gC := by simp only [z_X4_constant_pC, if_pos c_1]
    have e_2 : r_X4_constant p0 = 0 := by simp only [r_X4_constant, if_pos c_1]
    exact ct_zret hx hb hr hlocks hP hD hS (by rw [e_1]) (by rw [e_2]) (Or.inl rfl) dX4_constant_11
def z_X4_poke_pM (gM : Nat → Int32) (p0 : Int32) (p1 : Int32) : Nat → Int32 := (if (r_X4_within p0 1023) = 0 then gM else upd gM (Int32.toNatClampNeg p0) (p1 &&& 65535))
def r_X4_poke (p0 : Int32) : Int32 := (if (r_X4_within p0 1023) = 0 then 0 else 1)
set_option maxHeartbeats 4000000 in
set_option maxRecDepth 100000 in
theorem c_X4_poke (l : Launch) (D : va_G) (cI cZ : ClassId) (qm : Nat) (pI : Nat) (pC : Nat) (pM : Nat) (pR : Nat) (pP : Nat) (pH : Nat) (pK : Nat) (pD : Nat) (pO : Nat) (gI : Nat → Int32) (gC : Nat → Int32) (gM : Nat → Int32) (gR : Nat → Int32) (gP : Nat → Int32) (gH : Nat → Int32) (gK : Nat → Int32) (gD : Nat → Int32) (gO : Nat → Int32) (nT : Int32) (nL : Int32) (nC : Int32) (nMar : Int32) (nIn : Int32) (nHand : Int32) (nGiv : Int32) (nCyc : Int32) (nWai : Int32) (nSw : Int32) (nBeg : Int32) (nOut : Int32) (nRsel : Int32) (nAluf : Int32) (nBs : Int32) (nF1 : Int32) (nF2 : Int32) (nSum : Int32) (nSc : Int32) (p0 : Int32) (p1 : Int32) : CtI l D classes [(cI, .int), (cZ, .boolean)] yX4_poke w_X4_poke { frames := 1, cells := 0, slots := 0, locals := 21 } [.ref qm, .int p0, .int p1] [(qm, .inr (4, [.ref pI, .ref pC, .ref pM, .ref pR, .int nT, .int nL, .int nC, .int nMar, .int nIn, .ref pP, .ref pH, .ref pK, .ref pD, .int nHand, .int nGiv, .int nCyc, .int nWai, .int nSw, .int nBeg, .int nOut, .ref pO, .int nRsel, .int nAluf, .int nBs, .int nF1, .int nF2, .int nSum, .int nSc])), (pI, .inl (cI, 1024, .inl gI)), (pC, .inl (cI, 256, .inl gC)), (pM, .inl (cI, 1024, .inl gM)), (pR, .inl (cI, 32, .inl gR)), (pP, .inl (cI, 16, .inl gP)), (pH, .inl (cI, 16, .inl gH)), (pK, .inl (cZ, 16, .inl gK)), (pD, .inl (cI, 16, .inl gD)), (pO, .inl (cI, 500, .inl gO))] [(qm, .inr (4, [.ref pI, .ref pC, .ref pM, .ref pR, .int nT, .int nL, .int nC, .int nMar, .int nIn, .ref pP, .ref pH, .ref pK, .ref pD, .int nHand, .int nGiv, .int nCyc, .int nWai, .int nSw, .int nBeg, .int nOut, .ref pO, .int nRsel, .int nAluf, .int nBs, .int nF1, .int nF2, .int nSum, .int nSc])), (pI, .inl (cI, 1024, .inl gI)), (pC, .inl (cI, 256, .inl gC)), (pM, .inl (cI, 1024, .inl (z_X4_poke_pM gM p0 p1))), (pR, .inl (cI, 32, .inl gR)), (pP, .inl (cI, 16, .inl gP)), (pH, .inl (cI, 16, .inl gH)), (pK, .inl (cZ, 16, .inl gK)), (pD, .inl (cI, 16, .inl gD)), (pO, .inl (cI, 500, .inl gO))] (r_X4_poke p0) := by
  refine CtI.mk (cc := cX4_poke) (maxL := 3) (ret := (some .boolean)) (by decide) rfl (Nat.le_of_ble_eq_true rfl) ?_
  intro p e s m below meth c A hBeg ls hl
  obtain ⟨hx, hb, hr, hml, hts0, hown, hlocks, hin, hA, hK, hP, hD, hS⟩ := hBeg
  have hts := fun w h => hts0 w (List.mem_cons_of_mem _ h)
  have hown : s.vm.findClass RX4 = some m.cls := hown
  have hl : lv_has ls 3 [(0, .ref qm), (1, .int p0), (2, .int p1)] := hl
  skip
  refine lv_iload_n hx hb dX4_poke_0 rfl (lv_at hl 1 rfl) ?_
  refine lv_sipush (v := 1023) hx hb dX4_poke_1 (by decide) ?_
  refine ctI_S (As := [.int p0, .int 1023]) (rest := []) (wc := []) (wr := [(qm, .inr (4, [.ref pI, .ref pC, .ref pM, .ref pR, .int nT, .int nL, .int nC, .int nMar, .int nIn, .ref pP, .ref pH, .ref pK, .ref pD, .int nHand, .int nGiv, .int nCyc, .int nWai, .int nSw, .int nBeg, .int nOut, .ref pO, .int nRsel, .int nAluf, .int nBs, .int nF1, .int nF2, .int nSum, .int nSc])), (pI, .inl (cI, 1024, .inl gI)), (pC, .inl (cI, 256, .inl gC)), (pM, .inl (cI, 1024, .inl gM)), (pR, .inl (cI, 32, .inl gR)), (pP, .inl (cI, 16, .inl gP)), (pH, .inl (cI, 16, .inl gH)), (pK, .inl (cZ, 16, .inl gK)), (pD, .inl (cI, 16, .inl gD)), (pO, .inl (cI, 500, .inl gO))]) ⟨hx, hb, hml, hown, hts⟩ (c_X4_within l D cI cZ p0 1023) (cwS 2 hts (gd_S wm_X4_42 wt_X4_within wz_X4 wo_X4_within) rfl rfl rfl (by decide +kernel) ⟨Nat.le_of_ble_eq_true rfl, Nat.le_of_ble_eq_true rfl⟩) hK hP hD hS hA [] [0, 1, 2, 3, 4, 5, 6, 7, 8, 9] rfl rfl (by decide) (by decide) (by decide) rfl rfl hl.1 (Nat.le_of_ble_eq_true rfl) dX4_poke_4 ⟨Nat.le_of_ble_eq_true rfl, Nat.le_of_ble_eq_true rfl⟩ (fun H locs hP hD hS => ?_)
  have hP : va_P D classes [(qm, .inr (4, [.ref pI, .ref pC, .ref pM, .ref pR, .int nT, .int nL, .int nC, .int nMar, .int nIn, .ref pP, .ref pH, .ref pK, .ref pD, .int nHand, .int nGiv, .int nCyc, .int nWai, .int nSw, .int nBeg, .int nOut, .ref pO, .int nRsel, .int nAluf, .int nBs, .int nF1, .int nF2, .int nSum, .int nSc])), (pI, .inl (cI, 1024, .inl gI)), (pC, .inl (cI, 256, .inl gC)), (pM, .inl (cI, 1024, .inl gM)), (pR, .inl (cI, 32, .inl gR)), (pP, .inl (cI, 16, .inl gP)), (pH, .inl (cI, 16, .inl gH)), (pK, .inl (cZ, 16, .inl gK)), (pD, .inl (cI, 16, .inl gD)), (pO, .inl (cI, 500, .inl gO))] H := hP
  have hD : va_D A [(qm, .inr (4, [.ref pI, .ref pC, .ref pM, .ref pR, .int nT, .int nL, .int nC, .int nMar, .int nIn, .ref pP, .ref pH, .ref pK, .ref pD, .int nHand, .int nGiv, .int nCyc, .int nWai, .int nSw, .int nBeg, .int nOut, .ref pO, .int nRsel, .int nAluf, .int nBs, .int nF1, .int nF2, .int nSum, .int nSc])), (pI, .inl (cI, 1024, .inl gI)), (pC, .inl (cI, 256, .inl gC)), (pM, .inl (cI, 1024, .inl gM)), (pR, .inl (cI, 32, .inl gR)), (pP, .inl (cI, 16, .inl gP)), (pH, .inl (cI, 16, .inl gH)), (pK, .inl (cZ, 16, .inl gK)), (pD, .inl (cI, 16, .inl gD)), (pO, .inl (cI, 500, .inl gO))] := hD
  refine lv_if_ne (tgt := 12) hx hb dX4_poke_7 (by decide) (fun c_1 => ?_) (fun c_1 => ?_)
  · skip
    refine lv_aload_n hx hb dX4_poke_12 rfl (lv_at hl 0 rfl) ?_
    refine va_get (D := D) (ci := 4) (v := .ref pM) (C := RX4) (T := TX4) (N := 28) hx hb hts ilX4 hown hK hP 0 rfl rfl 2 (by decide) (hts _ wf_X4_16) (fun _ h9 => h9) rfl dX4_poke_13 ?_
    refine lv_iload_n hx hb dX4_poke_16 rfl (lv_at hl 1 rfl) ?_
    refine lv_iload_n hx hb dX4_poke_17 rfl (lv_at hl 2 rfl) ?_
    refine lv_ldc (v := 65535) hx hb hown (hts _ wk_X4_46) dX4_poke_18 ?_
    refine lv_iand hx hb dX4_poke_20 ?_
    refine va_iast hx hb hK hP hD hS 3 0 rfl rfl (within_in (n := 1024) (by decide) c_1) dX4_poke_21 (fun H locs hP hD hS => ?_)
    have hP : va_P D classes [(qm, .inr (4, [.ref pI, .ref pC, .ref pM, .ref pR, .int nT, .int nL, .int nC, .int nMar, .int nIn, .ref pP, .ref pH, .ref pK, .ref pD, .int nHand, .int nGiv, .int nCyc, .int nWai, .int nSw, .int nBeg, .int nOut, .ref pO, .int nRsel, .int nAluf, .int nBs, .int nF1, .int nF2, .int nSum, .int nSc])), (pI, .inl (cI, 1024, .inl gI)), (pC, .inl (cI, 256, .inl gC)), (pM, .inl (cI, 1024, .inl (upd gM (Int32.toNatClampNeg p0) (p1 &&& 65535)))), (pR, .inl (cI, 32, .inl gR)), (pP, .inl (cI, 16, .inl gP)), (pH, .inl (cI, 16, .inl gH)), (pK, .inl (cZ, 16, .inl gK)), (pD, .inl (cI, 16, .inl gD)), (pO, .inl (cI, 500, .inl gO))] H := hP
    have hD : va_D A [(qm, .inr (4, [.ref pI, .ref pC, .ref pM, .ref pR, .int nT, .int nL, .int nC, .int nMar, .int nIn, .ref pP, .ref pH, .ref pK, .ref pD, .int nHand, .int nGiv, .int nCyc, .int nWai, .int nSw, .int nBeg, .int nOut, .ref pO, .int nRsel, .int nAluf, .int nBs, .int nF1, .int nF2, .int nSum, .int nSc])), (pI, .inl (cI, 1024, .inl gI)), (pC, .inl (cI, 256, .inl gC)), (pM, .inl (cI, 1024, .inl (upd gM (Int32.toNatClampNeg p0) (p1 &&& 65535)))), (pR, .inl (cI, 32, .inl gR)), (pP, .inl (cI, 16, .inl gP)), (pH, .inl (cI, 16, .inl gH)), (pK, .inl (cZ, 16, .inl gK)), (pD, .inl (cI, 16, .inl gD)), (pO, .inl (cI, 500, .inl gO))] := hD
    refine lv_iconst (v := 1) hx hb dX4_poke_22 (by decide) ?_
    have e_1 : z_X4_poke_pM gM p0 p1 = upd gM (Int32.toNatClampNeg p0) (p1 &&& 65535) := by simp only [z_X4_poke_pM, if_neg c_1]
    have e_2 : r_X4_poke p0 = 1 := by simp only [r_X4_poke, if_neg c_1]
    exact ct_zret hx hb hr hlocks hP hD hS (by rw [e_1]) (by rw [e_2]) (Or.inr rfl) dX4_poke_23
  · skip
    refine lv_iconst (v := 0) hx hb dX4_poke_10 (by decide) ?_
    have e_1 : z_X4_poke_pM gM p0 p1 = gM := by simp only [z_X4_poke_pM, if_pos c_1]
    have e_2 : r_X4_poke p0 = 0 := by simp only [r_X4_poke, if_pos c_1]
    exact ct_zret hx hb hr hlocks hP hD hS (by rw [e_1]) (by rw [e_2]) (Or.inl rfl) dX4_poke_11
def z_X4_set_pR (gR : Nat → Int32) (p0 : Int32) (p1 : Int32) : Nat → Int32 := (if (r_X4_within p0 31) = 0 then gR else upd gR (Int32.toNatClampNeg p0) (p1 &&& 65535))
def r_X4_set (p0 : Int32) : Int32 := (if (r_X4_within p0 31) = 0 then 0 else 1)
set_option maxHeartbeats 4000000 in
set_option maxRecDepth 100000 in
theorem c_X4_set (l : Launch) (D : va_G) (cI cZ : ClassId) (qm : Nat) (pI : Nat) (pC : Nat) (pM : Nat) (pR : Nat) (pP : Nat) (pH : Nat) (pK : Nat) (pD : Nat) (pO : Nat) (gI : Nat → Int32) (gC : Nat → Int32) (gM : Nat → Int32) (gR : Nat → Int32) (gP : Nat → Int32) (gH : Nat → Int32) (gK : Nat → Int32) (gD : Nat → Int32) (gO : Nat → Int32) (nT : Int32) (nL : Int32) (nC : Int32) (nMar : Int32) (nIn : Int32) (nHand : Int32) (nGiv : Int32) (nCyc : Int32) (nWai : Int32) (nSw : Int32) (nBeg : Int32) (nOut : Int32) (nRsel : Int32) (nAluf : Int32) (nBs : Int32) (nF1 : Int32) (nF2 : Int32) (nSum : Int32) (nSc : Int32) (p0 : Int32) (p1 : Int32) : CtI l D classes [(cI, .int), (cZ, .boolean)] yX4_set w_X4_set { frames := 1, cells := 0, slots := 0, locals := 21 } [.ref qm, .int p0, .int p1] [(qm, .inr (4, [.ref pI, .ref pC, .ref pM, .ref pR, .int nT, .int nL, .int nC, .int nMar, .int nIn, .ref pP, .ref pH, .ref pK, .ref pD, .int nHand, .int nGiv, .int nCyc, .int nWai, .int nSw, .int nBeg, .int nOut, .ref pO, .int nRsel, .int nAluf, .int nBs, .int nF1, .int nF2, .int nSum, .int nSc])), (pI, .inl (cI, 1024, .inl gI)), (pC, .inl (cI, 256, .inl gC)), (pM, .inl (cI, 1024, .inl gM)), (pR, .inl (cI, 32, .inl gR)), (pP, .inl (cI, 16, .inl gP)), (pH, .inl (cI, 16, .inl gH)), (pK, .inl (cZ, 16, .inl gK)), (pD, .inl (cI, 16, .inl gD)), (pO, .inl (cI, 500, .inl gO))] [(qm, .inr (4, [.ref pI, .ref pC, .ref pM, .ref pR, .int nT, .int nL, .int nC, .int nMar, .int nIn, .ref pP, .ref pH, .ref pK, .ref pD, .int nHand, .int nGiv, .int nCyc, .int nWai, .int nSw, .int nBeg, .int nOut, .ref pO, .int nRsel, .int nAluf, .int nBs, .int nF1, .int nF2, .int nSum, .int nSc])), (pI, .inl (cI, 1024, .inl gI)), (pC, .inl (cI, 256, .inl gC)), (pM, .inl (cI, 1024, .inl gM)), (pR, .inl (cI, 32, .inl (z_X4_set_pR gR p0 p1))), (pP, .inl (cI, 16, .inl gP)), (pH, .inl (cI, 16, .inl gH)), (pK, .inl (cZ, 16, .inl gK)), (pD, .inl (cI, 16, .inl gD)), (pO, .inl (cI, 500, .inl gO))] (r_X4_set p0) := by
  refine CtI.mk (cc := cX4_set) (maxL := 3) (ret := (some .boolean)) (by decide) rfl (Nat.le_of_ble_eq_true rfl) ?_
  intro p e s m below meth c A hBeg ls hl
  obtain ⟨hx, hb, hr, hml, hts0, hown, hlocks, hin, hA, hK, hP, hD, hS⟩ := hBeg
  have hts := fun w h => hts0 w (List.mem_cons_of_mem _ h)
  have hown : s.vm.findClass RX4 = some m.cls := hown
  have hl : lv_has ls 3 [(0, .ref qm), (1, .int p0), (2, .int p1)] := hl
  skip
  refine lv_iload_n hx hb dX4_set_0 rfl (lv_at hl 1 rfl) ?_
  refine lv_bipush (v := 31) hx hb dX4_set_1 (by decide) ?_
  refine ctI_S (As := [.int p0, .int 31]) (rest := []) (wc := []) (wr := [(qm, .inr (4, [.ref pI, .ref pC, .ref pM, .ref pR, .int nT, .int nL, .int nC, .int nMar, .int nIn, .ref pP, .ref pH, .ref pK, .ref pD, .int nHand, .int nGiv, .int nCyc, .int nWai, .int nSw, .int nBeg, .int nOut, .ref pO, .int nRsel, .int nAluf, .int nBs, .int nF1, .int nF2, .int nSum, .int nSc])), (pI, .inl (cI, 1024, .inl gI)), (pC, .inl (cI, 256, .inl gC)), (pM, .inl (cI, 1024, .inl gM)), (pR, .inl (cI, 32, .inl gR)), (pP, .inl (cI, 16, .inl gP)), (pH, .inl (cI, 16, .inl gH)), (pK, .inl (cZ, 16, .inl gK)), (pD, .inl (cI, 16, .inl gD)), (pO, .inl (cI, 500, .inl gO))]) ⟨hx, hb, hml, hown, hts⟩ (c_X4_within l D cI cZ p0 31) (cwS 2 hts (gd_S wm_X4_42 wt_X4_within wz_X4 wo_X4_within) rfl rfl rfl (by decide +kernel) ⟨Nat.le_of_ble_eq_true rfl, Nat.le_of_ble_eq_true rfl⟩) hK hP hD hS hA [] [0, 1, 2, 3, 4, 5, 6, 7, 8, 9] rfl rfl (by decide) (by decide) (by decide) rfl rfl hl.1 (Nat.le_of_ble_eq_true rfl) dX4_set_3 ⟨Nat.le_of_ble_eq_true rfl, Nat.le_of_ble_eq_true rfl⟩ (fun H locs hP hD hS => ?_)
  have hP : va_P D classes [(qm, .inr (4, [.ref pI, .ref pC, .ref pM, .ref pR, .int nT, .int nL, .int nC, .int nMar, .int nIn, .ref pP, .ref pH, .ref pK, .ref pD, .int nHand, .int nGiv, .int nCyc, .int nWai, .int nSw, .int nBeg, .int nOut, .ref pO, .int nRsel, .int nAluf, .int nBs, .int nF1, .int nF2, .int nSum, .int nSc])), (pI, .inl (cI, 1024, .inl gI)), (pC, .inl (cI, 256, .inl gC)), (pM, .inl (cI, 1024, .inl gM)), (pR, .inl (cI, 32, .inl gR)), (pP, .inl (cI, 16, .inl gP)), (pH, .inl (cI, 16, .inl gH)), (pK, .inl (cZ, 16, .inl gK)), (pD, .inl (cI, 16, .inl gD)), (pO, .inl (cI, 500, .inl gO))] H := hP
  have hD : va_D A [(qm, .inr (4, [.ref pI, .ref pC, .ref pM, .ref pR, .int nT, .int nL, .int nC, .int nMar, .int nIn, .ref pP, .ref pH, .ref pK, .ref pD, .int nHand, .int nGiv, .int nCyc, .int nWai, .int nSw, .int nBeg, .int nOut, .ref pO, .int nRsel, .int nAluf, .int nBs, .int nF1, .int nF2, .int nSum, .int nSc])), (pI, .inl (cI, 1024, .inl gI)), (pC, .inl (cI, 256, .inl gC)), (pM, .inl (cI, 1024, .inl gM)), (pR, .inl (cI, 32, .inl gR)), (pP, .inl (cI, 16, .inl gP)), (pH, .inl (cI, 16, .inl gH)), (pK, .inl (cZ, 16, .inl gK)), (pD, .inl (cI, 16, .inl gD)), (pO, .inl (cI, 500, .inl gO))] := hD
  refine lv_if_ne (tgt := 11) hx hb dX4_set_6 (by decide) (fun c_1 => ?_) (fun c_1 => ?_)
  · skip
    refine lv_aload_n hx hb dX4_set_11 rfl (lv_at hl 0 rfl) ?_
    refine va_get (D := D) (ci := 4) (v := .ref pR) (C := RX4) (T := TX4) (N := 28) hx hb hts ilX4 hown hK hP 0 rfl rfl 3 (by decide) (hts _ wf_X4_19) (fun _ h9 => h9) rfl dX4_set_12 ?_
    refine lv_iload_n hx hb dX4_set_15 rfl (lv_at hl 1 rfl) ?_
    refine lv_iload_n hx hb dX4_set_16 rfl (lv_at hl 2 rfl) ?_
    refine lv_ldc (v := 65535) hx hb hown (hts _ wk_X4_46) dX4_set_17 ?_
    refine lv_iand hx hb dX4_set_19 ?_
    refine va_iast hx hb hK hP hD hS 4 0 rfl rfl (within_in (n := 32) (by decide) c_1) dX4_set_20 (fun H locs hP hD hS => ?_)
    have hP : va_P D classes [(qm, .inr (4, [.ref pI, .ref pC, .ref pM, .ref pR, .int nT, .int nL, .int nC, .int nMar, .int nIn, .ref pP, .ref pH, .ref pK, .ref pD, .int nHand, .int nGiv, .int nCyc, .int nWai, .int nSw, .int nBeg, .int nOut, .ref pO, .int nRsel, .int nAluf, .int nBs, .int nF1, .int nF2, .int nSum, .int nSc])), (pI, .inl (cI, 1024, .inl gI)), (pC, .inl (cI, 256, .inl gC)), (pM, .inl (cI, 1024, .inl gM)), (pR, .inl (cI, 32, .inl (upd gR (Int32.toNatClampNeg p0) (p1 &&& 65535)))), (pP, .inl (cI, 16, .inl gP)), (pH, .inl (cI, 16, .inl gH)), (pK, .inl (cZ, 16, .inl gK)), (pD, .inl (cI, 16, .inl gD)), (pO, .inl (cI, 500, .inl gO))] H := hP
    have hD : va_D A [(qm, .inr (4, [.ref pI, .ref pC, .ref pM, .ref pR, .int nT, .int nL, .int nC, .int nMar, .int nIn, .ref pP, .ref pH, .ref pK, .ref pD, .int nHand, .int nGiv, .int nCyc, .int nWai, .int nSw, .int nBeg, .int nOut, .ref pO, .int nRsel, .int nAluf, .int nBs, .int nF1, .int nF2, .int nSum, .int nSc])), (pI, .inl (cI, 1024, .inl gI)), (pC, .inl (cI, 256, .inl gC)), (pM, .inl (cI, 1024, .inl gM)), (pR, .inl (cI, 32, .inl (upd gR (Int32.toNatClampNeg p0) (p1 &&& 65535)))), (pP, .inl (cI, 16, .inl gP)), (pH, .inl (cI, 16, .inl gH)), (pK, .inl (cZ, 16, .inl gK)), (pD, .inl (cI, 16, .inl gD)), (pO, .inl (cI, 500, .inl gO))] := hD
    refine lv_iconst (v := 1) hx hb dX4_set_21 (by decide) ?_
    have e_1 : z_X4_set_pR gR p0 p1 = upd gR (Int32.toNatClampNeg p0) (p1 &&& 65535) := by simp only [z_X4_set_pR, if_neg c_1]
    have e_2 : r_X4_set p0 = 1 := by simp only [r_X4_set, if_neg c_1]
    exact ct_zret hx hb hr hlocks hP hD hS (by rw [e_1]) (by rw [e_2]) (Or.inr rfl) dX4_set_22
  · skip
    refine lv_iconst (v := 0) hx hb dX4_set_9 (by decide) ?_
    have e_1 : z_X4_set_pR gR p0 p1 = gR := by simp only [z_X4_set_pR, if_pos c_1]
    have e_2 : r_X4_set p0 = 0 := by simp only [r_X4_set, if_pos c_1]
    exact ct_zret hx hb hr hlocks hP hD hS (by rw [e_1]) (by rw [e_2]) (Or.inl rfl) dX4_set_10
set_option maxHeartbeats 4000000 in
set_option maxRecDepth 100000 in
theorem c_X4_port (l : Launch) (D : va_G) (cI cZ : ClassId) (qm : Nat) (pI : Nat) (pC : Nat) (pM : Nat) (pR : Nat) (pP : Nat) (pH : Nat) (pK : Nat) (pD : Nat) (pO : Nat) (gI : Nat → Int32) (gC : Nat → Int32) (gM : Nat → Int32) (gR : Nat → Int32) (gP : Nat → Int32) (gH : Nat → Int32) (gK : Nat → Int32) (gD : Nat → Int32) (gO : Nat → Int32) (nT : Int32) (nL : Int32) (nC : Int32) (nMar : Int32) (nIn : Int32) (nHand : Int32) (nGiv : Int32) (nCyc : Int32) (nWai : Int32) (nSw : Int32) (nBeg : Int32) (nOut : Int32) (nRsel : Int32) (nAluf : Int32) (nBs : Int32) (nF1 : Int32) (nF2 : Int32) (nSum : Int32) (nSc : Int32) (p0 : Int32) : CtV l D classes [(cI, .int), (cZ, .boolean)] yX4_port w_X4_port { frames := 0, cells := 0, slots := 0, locals := 0 } [.ref qm, .int p0] [(qm, .inr (4, [.ref pI, .ref pC, .ref pM, .ref pR, .int nT, .int nL, .int nC, .int nMar, .int nIn, .ref pP, .ref pH, .ref pK, .ref pD, .int nHand, .int nGiv, .int nCyc, .int nWai, .int nSw, .int nBeg, .int nOut, .ref pO, .int nRsel, .int nAluf, .int nBs, .int nF1, .int nF2, .int nSum, .int nSc])), (pI, .inl (cI, 1024, .inl gI)), (pC, .inl (cI, 256, .inl gC)), (pM, .inl (cI, 1024, .inl gM)), (pR, .inl (cI, 32, .inl gR)), (pP, .inl (cI, 16, .inl gP)), (pH, .inl (cI, 16, .inl gH)), (pK, .inl (cZ, 16, .inl gK)), (pD, .inl (cI, 16, .inl gD)), (pO, .inl (cI, 500, .inl gO))] (fun (_ : Unit) => [(qm, .inr (4, [.ref pI, .ref pC, .ref pM, .ref pR, .int nT, .int nL, .int nC, .int nMar, .int (p0 &&& 65535), .ref pP, .ref pH, .ref pK, .ref pD, .int nHand, .int nGiv, .int nCyc, .int nWai, .int nSw, .int nBeg, .int nOut, .ref pO, .int nRsel, .int nAluf, .int nBs, .int nF1, .int nF2, .int nSum, .int nSc])), (pI, .inl (cI, 1024, .inl gI)), (pC, .inl (cI, 256, .inl gC)), (pM, .inl (cI, 1024, .inl gM)), (pR, .inl (cI, 32, .inl gR)), (pP, .inl (cI, 16, .inl gP)), (pH, .inl (cI, 16, .inl gH)), (pK, .inl (cZ, 16, .inl gK)), (pD, .inl (cI, 16, .inl gD)), (pO, .inl (cI, 500, .inl gO))]) 0 0 := by
  refine CtV.mk (cc := cX4_port) (maxL := 2) (ret := none) (by decide) rfl (Nat.le_of_ble_eq_true rfl) ?_
  intro p e s m below meth c A hBeg ls hl
  obtain ⟨hx, hb, hr, hml, hts0, hown, hlocks, hin, hA, hK, hP, hD, hS⟩ := hBeg
  have hts := fun w h => hts0 w (List.mem_cons_of_mem _ h)
  have hown : s.vm.findClass RX4 = some m.cls := hown
  have hl : lv_has ls 2 [(0, .ref qm), (1, .int p0)] := hl
  skip
  refine lv_aload_n hx hb dX4_port_0 rfl (lv_at hl 0 rfl) ?_
  refine lv_iload_n hx hb dX4_port_1 rfl (lv_at hl 1 rfl) ?_
  refine lv_ldc (v := 65535) hx hb hown (hts _ wk_X4_46) dX4_port_2 ?_
  refine lv_iand hx hb dX4_port_4 ?_
  refine va_put (D := D) (ci := 4) (v := .int (p0 &&& 65535)) (ty := (.int)) (C := RX4) (T := TX4) (N := 28) hx hb hts ilX4 tyX4 tyX4_ok nmX4 hown hK hP hD hS 0 rfl rfl 8 (by decide) (hts _ wf_X4_47) (fun _ h9 => h9) rfl (by decide +kernel) rfl rfl (Nat.le_of_ble_eq_true rfl) dX4_port_5 (fun H locs hP hD hS => ?_)
  have hP : va_P D classes [(qm, .inr (4, [.ref pI, .ref pC, .ref pM, .ref pR, .int nT, .int nL, .int nC, .int nMar, .int (p0 &&& 65535), .ref pP, .ref pH, .ref pK, .ref pD, .int nHand, .int nGiv, .int nCyc, .int nWai, .int nSw, .int nBeg, .int nOut, .ref pO, .int nRsel, .int nAluf, .int nBs, .int nF1, .int nF2, .int nSum, .int nSc])), (pI, .inl (cI, 1024, .inl gI)), (pC, .inl (cI, 256, .inl gC)), (pM, .inl (cI, 1024, .inl gM)), (pR, .inl (cI, 32, .inl gR)), (pP, .inl (cI, 16, .inl gP)), (pH, .inl (cI, 16, .inl gH)), (pK, .inl (cZ, 16, .inl gK)), (pD, .inl (cI, 16, .inl gD)), (pO, .inl (cI, 500, .inl gO))] H := hP
  have hD : va_D A [(qm, .inr (4, [.ref pI, .ref pC, .ref pM, .ref pR, .int nT, .int nL, .int nC, .int nMar, .int (p0 &&& 65535), .ref pP, .ref pH, .ref pK, .ref pD, .int nHand, .int nGiv, .int nCyc, .int nWai, .int nSw, .int nBeg, .int nOut, .ref pO, .int nRsel, .int nAluf, .int nBs, .int nF1, .int nF2, .int nSum, .int nSc])), (pI, .inl (cI, 1024, .inl gI)), (pC, .inl (cI, 256, .inl gC)), (pM, .inl (cI, 1024, .inl gM)), (pR, .inl (cI, 32, .inl gR)), (pP, .inl (cI, 16, .inl gP)), (pH, .inl (cI, 16, .inl gH)), (pK, .inl (cZ, 16, .inl gK)), (pD, .inl (cI, 16, .inl gD)), (pO, .inl (cI, 500, .inl gO))] := hD
  exact ct_vret () hx hb hr hlocks hP hD hS rfl dX4_port_8
def z_X4_wake_pK (gK : Nat → Int32) (p0 : Int32) : Nat → Int32 := (if (r_X4_within p0 15) = 0 then gK else upd gK (Int32.toNatClampNeg p0) 1)
def r_X4_wake (gK : Nat → Int32) (p0 : Int32) : Int32 := (if (r_X4_within p0 15) = 0 then 0 else gK (Int32.toNatClampNeg p0))
set_option maxHeartbeats 4000000 in
set_option maxRecDepth 100000 in
theorem c_X4_wake (l : Launch) (D : va_G) (cI cZ : ClassId) (qm : Nat) (pI : Nat) (pC : Nat) (pM : Nat) (pR : Nat) (pP : Nat) (pH : Nat) (pK : Nat) (pD : Nat) (pO : Nat) (gI : Nat → Int32) (gC : Nat → Int32) (gM : Nat → Int32) (gR : Nat → Int32) (gP : Nat → Int32) (gH : Nat → Int32) (gK : Nat → Int32) (gD : Nat → Int32) (gO : Nat → Int32) (nT : Int32) (nL : Int32) (nC : Int32) (nMar : Int32) (nIn : Int32) (nHand : Int32) (nGiv : Int32) (nCyc : Int32) (nWai : Int32) (nSw : Int32) (nBeg : Int32) (nOut : Int32) (nRsel : Int32) (nAluf : Int32) (nBs : Int32) (nF1 : Int32) (nF2 : Int32) (nSum : Int32) (nSc : Int32) (p0 : Int32) (hz : ∀ j : Nat, gK j = 0 ∨ gK j = 1) : CtI l D classes [(cI, .int), (cZ, .boolean)] yX4_wake w_X4_wake { frames := 1, cells := 0, slots := 0, locals := 21 } [.ref qm, .int p0] [(qm, .inr (4, [.ref pI, .ref pC, .ref pM, .ref pR, .int nT, .int nL, .int nC, .int nMar, .int nIn, .ref pP, .ref pH, .ref pK, .ref pD, .int nHand, .int nGiv, .int nCyc, .int nWai, .int nSw, .int nBeg, .int nOut, .ref pO, .int nRsel, .int nAluf, .int nBs, .int nF1, .int nF2, .int nSum, .int nSc])), (pI, .inl (cI, 1024, .inl gI)), (pC, .inl (cI, 256, .inl gC)), (pM, .inl (cI, 1024, .inl gM)), (pR, .inl (cI, 32, .inl gR)), (pP, .inl (cI, 16, .inl gP)), (pH, .inl (cI, 16, .inl gH)), (pK, .inl (cZ, 16, .inl gK)), (pD, .inl (cI, 16, .inl gD)), (pO, .inl (cI, 500, .inl gO))] [(qm, .inr (4, [.ref pI, .ref pC, .ref pM, .ref pR, .int nT, .int nL, .int nC, .int nMar, .int nIn, .ref pP, .ref pH, .ref pK, .ref pD, .int nHand, .int nGiv, .int nCyc, .int nWai, .int nSw, .int nBeg, .int nOut, .ref pO, .int nRsel, .int nAluf, .int nBs, .int nF1, .int nF2, .int nSum, .int nSc])), (pI, .inl (cI, 1024, .inl gI)), (pC, .inl (cI, 256, .inl gC)), (pM, .inl (cI, 1024, .inl gM)), (pR, .inl (cI, 32, .inl gR)), (pP, .inl (cI, 16, .inl gP)), (pH, .inl (cI, 16, .inl gH)), (pK, .inl (cZ, 16, .inl (z_X4_wake_pK gK p0))), (pD, .inl (cI, 16, .inl gD)), (pO, .inl (cI, 500, .inl gO))] (r_X4_wake gK p0) := by
  refine CtI.mk (cc := cX4_wake) (maxL := 3) (ret := (some .boolean)) (by decide) rfl (Nat.le_of_ble_eq_true rfl) ?_
  intro p e s m below meth c A hBeg ls hl
  obtain ⟨hx, hb, hr, hml, hts0, hown, hlocks, hin, hA, hK, hP, hD, hS⟩ := hBeg
  have hts := fun w h => hts0 w (List.mem_cons_of_mem _ h)
  have hown : s.vm.findClass RX4 = some m.cls := hown
  have hl : lv_has ls 3 [(0, .ref qm), (1, .int p0)] := hl
  skip
  refine lv_iload_n hx hb dX4_wake_0 rfl (lv_at hl 1 rfl) ?_
  refine lv_bipush (v := 15) hx hb dX4_wake_1 (by decide) ?_
  refine ctI_S (As := [.int p0, .int 15]) (rest := []) (wc := []) (wr := [(qm, .inr (4, [.ref pI, .ref pC, .ref pM, .ref pR, .int nT, .int nL, .int nC, .int nMar, .int nIn, .ref pP, .ref pH, .ref pK, .ref pD, .int nHand, .int nGiv, .int nCyc, .int nWai, .int nSw, .int nBeg, .int nOut, .ref pO, .int nRsel, .int nAluf, .int nBs, .int nF1, .int nF2, .int nSum, .int nSc])), (pI, .inl (cI, 1024, .inl gI)), (pC, .inl (cI, 256, .inl gC)), (pM, .inl (cI, 1024, .inl gM)), (pR, .inl (cI, 32, .inl gR)), (pP, .inl (cI, 16, .inl gP)), (pH, .inl (cI, 16, .inl gH)), (pK, .inl (cZ, 16, .inl gK)), (pD, .inl (cI, 16, .inl gD)), (pO, .inl (cI, 500, .inl gO))]) ⟨hx, hb, hml, hown, hts⟩ (c_X4_within l D cI cZ p0 15) (cwS 2 hts (gd_S wm_X4_42 wt_X4_within wz_X4 wo_X4_within) rfl rfl rfl (by decide +kernel) ⟨Nat.le_of_ble_eq_true rfl, Nat.le_of_ble_eq_true rfl⟩) hK hP hD hS hA [] [0, 1, 2, 3, 4, 5, 6, 7, 8, 9] rfl rfl (by decide) (by decide) (by decide) rfl rfl hl.1 (Nat.le_of_ble_eq_true rfl) dX4_wake_3 ⟨Nat.le_of_ble_eq_true rfl, Nat.le_of_ble_eq_true rfl⟩ (fun H locs hP hD hS => ?_)
  have hP : va_P D classes [(qm, .inr (4, [.ref pI, .ref pC, .ref pM, .ref pR, .int nT, .int nL, .int nC, .int nMar, .int nIn, .ref pP, .ref pH, .ref pK, .ref pD, .int nHand, .int nGiv, .int nCyc, .int nWai, .int nSw, .int nBeg, .int nOut, .ref pO, .int nRsel, .int nAluf, .int nBs, .int nF1, .int nF2, .int nSum, .int nSc])), (pI, .inl (cI, 1024, .inl gI)), (pC, .inl (cI, 256, .inl gC)), (pM, .inl (cI, 1024, .inl gM)), (pR, .inl (cI, 32, .inl gR)), (pP, .inl (cI, 16, .inl gP)), (pH, .inl (cI, 16, .inl gH)), (pK, .inl (cZ, 16, .inl gK)), (pD, .inl (cI, 16, .inl gD)), (pO, .inl (cI, 500, .inl gO))] H := hP
  have hD : va_D A [(qm, .inr (4, [.ref pI, .ref pC, .ref pM, .ref pR, .int nT, .int nL, .int nC, .int nMar, .int nIn, .ref pP, .ref pH, .ref pK, .ref pD, .int nHand, .int nGiv, .int nCyc, .int nWai, .int nSw, .int nBeg, .int nOut, .ref pO, .int nRsel, .int nAluf, .int nBs, .int nF1, .int nF2, .int nSum, .int nSc])), (pI, .inl (cI, 1024, .inl gI)), (pC, .inl (cI, 256, .inl gC)), (pM, .inl (cI, 1024, .inl gM)), (pR, .inl (cI, 32, .inl gR)), (pP, .inl (cI, 16, .inl gP)), (pH, .inl (cI, 16, .inl gH)), (pK, .inl (cZ, 16, .inl gK)), (pD, .inl (cI, 16, .inl gD)), (pO, .inl (cI, 500, .inl gO))] := hD
  refine lv_if_ne (tgt := 11) hx hb dX4_wake_6 (by decide) (fun c_1 => ?_) (fun c_1 => ?_)
  · skip
    refine lv_aload_n hx hb dX4_wake_11 rfl (lv_at hl 0 rfl) ?_
    refine va_get (D := D) (ci := 4) (v := .ref pK) (C := RX4) (T := TX4) (N := 28) hx hb hts ilX4 hown hK hP 0 rfl rfl 11 (by decide) (hts _ wf_X4_28) (fun _ h9 => h9) rfl dX4_wake_12 ?_
    refine lv_iload_n hx hb dX4_wake_15 rfl (lv_at hl 1 rfl) ?_
    refine va_zald hx hb hK hP 7 1 rfl rfl (within_in (n := 16) (by decide) c_1) dX4_wake_16 ?_
    refine lv_istore_n (lv' := [(2, .int (gK (Int32.toNatClampNeg p0))), (0, .ref qm), (1, .int p0)]) hx hb dX4_wake_17 rfl hl (by decide) rfl (fun ls hl => ?_)
    refine lv_aload_n hx hb dX4_wake_18 rfl (lv_at hl 1 rfl) ?_
    refine va_get (D := D) (ci := 4) (v := .ref pK) (C := RX4) (T := TX4) (N := 28) hx hb hts ilX4 hown hK hP 0 rfl rfl 11 (by decide) (hts _ wf_X4_28) (fun _ h9 => h9) rfl dX4_wake_19 ?_
    refine lv_iload_n hx hb dX4_wake_22 rfl (lv_at hl 2 rfl) ?_
    refine lv_iconst (v := 1) hx hb dX4_wake_23 (by decide) ?_
    refine va_zast hx hb hK hP hD hS 7 1 rfl rfl (within_in (n := 16) (by decide) c_1) dX4_wake_24 (fun H locs hP hD hS => ?_)
    have hP : va_P D classes [(qm, .inr (4, [.ref pI, .ref pC, .ref pM, .ref pR, .int nT, .int nL, .int nC, .int nMar, .int nIn, .ref pP, .ref pH, .ref pK, .ref pD, .int nHand, .int nGiv, .int nCyc, .int nWai, .int nSw, .int nBeg, .int nOut, .ref pO, .int nRsel, .int nAluf, .int nBs, .int nF1, .int nF2, .int nSum, .int nSc])), (pI, .inl (cI, 1024, .inl gI)), (pC, .inl (cI, 256, .inl gC)), (pM, .inl (cI, 1024, .inl gM)), (pR, .inl (cI, 32, .inl gR)), (pP, .inl (cI, 16, .inl gP)), (pH, .inl (cI, 16, .inl gH)), (pK, .inl (cZ, 16, .inl (upd gK (Int32.toNatClampNeg p0) 1))), (pD, .inl (cI, 16, .inl gD)), (pO, .inl (cI, 500, .inl gO))] H := hP
    have hD : va_D A [(qm, .inr (4, [.ref pI, .ref pC, .ref pM, .ref pR, .int nT, .int nL, .int nC, .int nMar, .int nIn, .ref pP, .ref pH, .ref pK, .ref pD, .int nHand, .int nGiv, .int nCyc, .int nWai, .int nSw, .int nBeg, .int nOut, .ref pO, .int nRsel, .int nAluf, .int nBs, .int nF1, .int nF2, .int nSum, .int nSc])), (pI, .inl (cI, 1024, .inl gI)), (pC, .inl (cI, 256, .inl gC)), (pM, .inl (cI, 1024, .inl gM)), (pR, .inl (cI, 32, .inl gR)), (pP, .inl (cI, 16, .inl gP)), (pH, .inl (cI, 16, .inl gH)), (pK, .inl (cZ, 16, .inl (upd gK (Int32.toNatClampNeg p0) 1))), (pD, .inl (cI, 16, .inl gD)), (pO, .inl (cI, 500, .inl gO))] := hD
    refine lv_iload_n hx hb dX4_wake_25 rfl (lv_at hl 0 rfl) ?_
    have e_1 : z_X4_wake_pK gK p0 = upd gK (Int32.toNatClampNeg p0) 1 := by simp only [z_X4_wake_pK, if_neg c_1]
    have e_2 : r_X4_wake gK p0 = gK (Int32.toNatClampNeg p0) := by simp only [r_X4_wake, if_neg c_1]
    exact ct_zret hx hb hr hlocks hP hD hS (by rw [e_1]) (by rw [e_2]) (hz _) dX4_wake_26
  · skip
    refine lv_iconst (v := 0) hx hb dX4_wake_9 (by decide) ?_
    have e_1 : z_X4_wake_pK gK p0 = gK := by simp only [z_X4_wake_pK, if_pos c_1]
    have e_2 : r_X4_wake gK p0 = 0 := by simp only [r_X4_wake, if_pos c_1]
    exact ct_zret hx hb hr hlocks hP hD hS (by rw [e_1]) (by rw [e_2]) (Or.inl rfl) dX4_wake_10
def z_X4_start_pP (gP : Nat → Int32) (p0 : Int32) (p1 : Int32) : Nat → Int32 := (if (r_X4_within p0 15) = 0 then gP else (if (r_X4_within p1 1023) = 0 then gP else upd gP (Int32.toNatClampNeg p0) p1))
def z_X4_start_pH (gH : Nat → Int32) (p0 : Int32) (p1 : Int32) : Nat → Int32 := (if (r_X4_within p0 15) = 0 then gH else (if (r_X4_within p1 1023) = 0 then gH else upd gH (Int32.toNatClampNeg p0) 0))
def r_X4_start (p0 : Int32) (p1 : Int32) : Int32 := (if (r_X4_within p0 15) = 0 then 0 else (if (r_X4_within p1 1023) = 0 then 0 else 1))
set_option maxHeartbeats 4000000 in
set_option maxRecDepth 100000 in
theorem c_X4_start (l : Launch) (D : va_G) (cI cZ : ClassId) (qm : Nat) (pI : Nat) (pC : Nat) (pM : Nat) (pR : Nat) (pP : Nat) (pH : Nat) (pK : Nat) (pD : Nat) (pO : Nat) (gI : Nat → Int32) (gC : Nat → Int32) (gM : Nat → Int32) (gR : Nat → Int32) (gP : Nat → Int32) (gH : Nat → Int32) (gK : Nat → Int32) (gD : Nat → Int32) (gO : Nat → Int32) (nT : Int32) (nL : Int32) (nC : Int32) (nMar : Int32) (nIn : Int32) (nHand : Int32) (nGiv : Int32) (nCyc : Int32) (nWai : Int32) (nSw : Int32) (nBeg : Int32) (nOut : Int32) (nRsel : Int32) (nAluf : Int32) (nBs : Int32) (nF1 : Int32) (nF2 : Int32) (nSum : Int32) (nSc : Int32) (p0 : Int32) (p1 : Int32) : CtI l D classes [(cI, .int), (cZ, .boolean)] yX4_start w_X4_start { frames := 1, cells := 0, slots := 0, locals := 21 } [.ref qm, .int p0, .int p1] [(qm, .inr (4, [.ref pI, .ref pC, .ref pM, .ref pR, .int nT, .int nL, .int nC, .int nMar, .int nIn, .ref pP, .ref pH, .ref pK, .ref pD, .int nHand, .int nGiv, .int nCyc, .int nWai, .int nSw, .int nBeg, .int nOut, .ref pO, .int nRsel, .int nAluf, .int nBs, .int nF1, .int nF2, .int nSum, .int nSc])), (pI, .inl (cI, 1024, .inl gI)), (pC, .inl (cI, 256, .inl gC)), (pM, .inl (cI, 1024, .inl gM)), (pR, .inl (cI, 32, .inl gR)), (pP, .inl (cI, 16, .inl gP)), (pH, .inl (cI, 16, .inl gH)), (pK, .inl (cZ, 16, .inl gK)), (pD, .inl (cI, 16, .inl gD)), (pO, .inl (cI, 500, .inl gO))] [(qm, .inr (4, [.ref pI, .ref pC, .ref pM, .ref pR, .int nT, .int nL, .int nC, .int nMar, .int nIn, .ref pP, .ref pH, .ref pK, .ref pD, .int nHand, .int nGiv, .int nCyc, .int nWai, .int nSw, .int nBeg, .int nOut, .ref pO, .int nRsel, .int nAluf, .int nBs, .int nF1, .int nF2, .int nSum, .int nSc])), (pI, .inl (cI, 1024, .inl gI)), (pC, .inl (cI, 256, .inl gC)), (pM, .inl (cI, 1024, .inl gM)), (pR, .inl (cI, 32, .inl gR)), (pP, .inl (cI, 16, .inl (z_X4_start_pP gP p0 p1))), (pH, .inl (cI, 16, .inl (z_X4_start_pH gH p0 p1))), (pK, .inl (cZ, 16, .inl gK)), (pD, .inl (cI, 16, .inl gD)), (pO, .inl (cI, 500, .inl gO))] (r_X4_start p0 p1) := by
  refine CtI.mk (cc := cX4_start) (maxL := 3) (ret := (some .boolean)) (by decide) rfl (Nat.le_of_ble_eq_true rfl) ?_
  intro p e s m below meth c A hBeg ls hl
  obtain ⟨hx, hb, hr, hml, hts0, hown, hlocks, hin, hA, hK, hP, hD, hS⟩ := hBeg
  have hts := fun w h => hts0 w (List.mem_cons_of_mem _ h)
  have hown : s.vm.findClass RX4 = some m.cls := hown
  have hl : lv_has ls 3 [(0, .ref qm), (1, .int p0), (2, .int p1)] := hl
  skip
  refine lv_iload_n hx hb dX4_start_0 rfl (lv_at hl 1 rfl) ?_
  refine lv_bipush (v := 15) hx hb dX4_start_1 (by decide) ?_
  refine ctI_S (As := [.int p0, .int 15]) (rest := []) (wc := []) (wr := [(qm, .inr (4, [.ref pI, .ref pC, .ref pM, .ref pR, .int nT, .int nL, .int nC, .int nMar, .int nIn, .ref pP, .ref pH, .ref pK, .ref pD, .int nHand, .int nGiv, .int nCyc, .int nWai, .int nSw, .int nBeg, .int nOut, .ref pO, .int nRsel, .int nAluf, .int nBs, .int nF1, .int nF2, .int nSum, .int nSc])), (pI, .inl (cI, 1024, .inl gI)), (pC, .inl (cI, 256, .inl gC)), (pM, .inl (cI, 1024, .inl gM)), (pR, .inl (cI, 32, .inl gR)), (pP, .inl (cI, 16, .inl gP)), (pH, .inl (cI, 16, .inl gH)), (pK, .inl (cZ, 16, .inl gK)), (pD, .inl (cI, 16, .inl gD)), (pO, .inl (cI, 500, .inl gO))]) ⟨hx, hb, hml, hown, hts⟩ (c_X4_within l D cI cZ p0 15) (cwS 2 hts (gd_S wm_X4_42 wt_X4_within wz_X4 wo_X4_within) rfl rfl rfl (by decide +kernel) ⟨Nat.le_of_ble_eq_true rfl, Nat.le_of_ble_eq_true rfl⟩) hK hP hD hS hA [] [0, 1, 2, 3, 4, 5, 6, 7, 8, 9] rfl rfl (by decide) (by decide) (by decide) rfl rfl hl.1 (Nat.le_of_ble_eq_true rfl) dX4_start_3 ⟨Nat.le_of_ble_eq_true rfl, Nat.le_of_ble_eq_true rfl⟩ (fun H locs hP hD hS => ?_)
  have hP : va_P D classes [(qm, .inr (4, [.ref pI, .ref pC, .ref pM, .ref pR, .int nT, .int nL, .int nC, .int nMar, .int nIn, .ref pP, .ref pH, .ref pK, .ref pD, .int nHand, .int nGiv, .int nCyc, .int nWai, .int nSw, .int nBeg, .int nOut, .ref pO, .int nRsel, .int nAluf, .int nBs, .int nF1, .int nF2, .int nSum, .int nSc])), (pI, .inl (cI, 1024, .inl gI)), (pC, .inl (cI, 256, .inl gC)), (pM, .inl (cI, 1024, .inl gM)), (pR, .inl (cI, 32, .inl gR)), (pP, .inl (cI, 16, .inl gP)), (pH, .inl (cI, 16, .inl gH)), (pK, .inl (cZ, 16, .inl gK)), (pD, .inl (cI, 16, .inl gD)), (pO, .inl (cI, 500, .inl gO))] H := hP
  have hD : va_D A [(qm, .inr (4, [.ref pI, .ref pC, .ref pM, .ref pR, .int nT, .int nL, .int nC, .int nMar, .int nIn, .ref pP, .ref pH, .ref pK, .ref pD, .int nHand, .int nGiv, .int nCyc, .int nWai, .int nSw, .int nBeg, .int nOut, .ref pO, .int nRsel, .int nAluf, .int nBs, .int nF1, .int nF2, .int nSum, .int nSc])), (pI, .inl (cI, 1024, .inl gI)), (pC, .inl (cI, 256, .inl gC)), (pM, .inl (cI, 1024, .inl gM)), (pR, .inl (cI, 32, .inl gR)), (pP, .inl (cI, 16, .inl gP)), (pH, .inl (cI, 16, .inl gH)), (pK, .inl (cZ, 16, .inl gK)), (pD, .inl (cI, 16, .inl gD)), (pO, .inl (cI, 500, .inl gO))] := hD
  refine lv_if_eq (tgt := 19) hx hb dX4_start_6 (by decide) (fun c_1 => ?_) (fun c_1 => ?_)
  · skip
    refine lv_iconst (v := 0) hx hb dX4_start_19 (by decide) ?_
    have e_1 : z_X4_start_pP gP p0 p1 = gP := by simp only [z_X4_start_pP, if_pos c_1]
    have e_2 : z_X4_start_pH gH p0 p1 = gH := by simp only [z_X4_start_pH, if_pos c_1]
    have e_3 : r_X4_start p0 p1 = 0 := by simp only [r_X4_start, if_pos c_1]
    exact ct_zret hx hb hr hlocks hP hD hS (by rw [e_1, e_2]) (by rw [e_3]) (Or.inl rfl) dX4_start_20
  · skip
    refine lv_iload_n hx hb dX4_start_9 rfl (lv_at hl 2 rfl) ?_
    refine lv_sipush (v := 1023) hx hb dX4_start_10 (by decide) ?_
    refine ctI_S (As := [.int p1, .int 1023]) (rest := []) (wc := []) (wr := [(qm, .inr (4, [.ref pI, .ref pC, .ref pM, .ref pR, .int nT, .int nL, .int nC, .int nMar, .int nIn, .ref pP, .ref pH, .ref pK, .ref pD, .int nHand, .int nGiv, .int nCyc, .int nWai, .int nSw, .int nBeg, .int nOut, .ref pO, .int nRsel, .int nAluf, .int nBs, .int nF1, .int nF2, .int nSum, .int nSc])), (pI, .inl (cI, 1024, .inl gI)), (pC, .inl (cI, 256, .inl gC)), (pM, .inl (cI, 1024, .inl gM)), (pR, .inl (cI, 32, .inl gR)), (pP, .inl (cI, 16, .inl gP)), (pH, .inl (cI, 16, .inl gH)), (pK, .inl (cZ, 16, .inl gK)), (pD, .inl (cI, 16, .inl gD)), (pO, .inl (cI, 500, .inl gO))]) ⟨hx, hb, hml, hown, hts⟩ (c_X4_within l D cI cZ p1 1023) (cwS 2 hts (gd_S wm_X4_42 wt_X4_within wz_X4 wo_X4_within) rfl rfl rfl (by decide +kernel) ⟨Nat.le_of_ble_eq_true rfl, Nat.le_of_ble_eq_true rfl⟩) hK hP hD hS hA [] [0, 1, 2, 3, 4, 5, 6, 7, 8, 9] rfl rfl (by decide) (by decide) (by decide) rfl rfl hl.1 (Nat.le_of_ble_eq_true rfl) dX4_start_13 ⟨Nat.le_of_ble_eq_true rfl, Nat.le_of_ble_eq_true rfl⟩ (fun H locs hP hD hS => ?_)
    have hP : va_P D classes [(qm, .inr (4, [.ref pI, .ref pC, .ref pM, .ref pR, .int nT, .int nL, .int nC, .int nMar, .int nIn, .ref pP, .ref pH, .ref pK, .ref pD, .int nHand, .int nGiv, .int nCyc, .int nWai, .int nSw, .int nBeg, .int nOut, .ref pO, .int nRsel, .int nAluf, .int nBs, .int nF1, .int nF2, .int nSum, .int nSc])), (pI, .inl (cI, 1024, .inl gI)), (pC, .inl (cI, 256, .inl gC)), (pM, .inl (cI, 1024, .inl gM)), (pR, .inl (cI, 32, .inl gR)), (pP, .inl (cI, 16, .inl gP)), (pH, .inl (cI, 16, .inl gH)), (pK, .inl (cZ, 16, .inl gK)), (pD, .inl (cI, 16, .inl gD)), (pO, .inl (cI, 500, .inl gO))] H := hP
    have hD : va_D A [(qm, .inr (4, [.ref pI, .ref pC, .ref pM, .ref pR, .int nT, .int nL, .int nC, .int nMar, .int nIn, .ref pP, .ref pH, .ref pK, .ref pD, .int nHand, .int nGiv, .int nCyc, .int nWai, .int nSw, .int nBeg, .int nOut, .ref pO, .int nRsel, .int nAluf, .int nBs, .int nF1, .int nF2, .int nSum, .int nSc])), (pI, .inl (cI, 1024, .inl gI)), (pC, .inl (cI, 256, .inl gC)), (pM, .inl (cI, 1024, .inl gM)), (pR, .inl (cI, 32, .inl gR)), (pP, .inl (cI, 16, .inl gP)), (pH, .inl (cI, 16, .inl gH)), (pK, .inl (cZ, 16, .inl gK)), (pD, .inl (cI, 16, .inl gD)), (pO, .inl (cI, 500, .inl gO))] := hD
    refine lv_if_ne (tgt := 21) hx hb dX4_start_16 (by decide) (fun c_2 => ?_) (fun c_2 => ?_)
    · skip
      refine lv_aload_n hx hb dX4_start_21 rfl (lv_at hl 0 rfl) ?_
      refine va_get (D := D) (ci := 4) (v := .ref pP) (C := RX4) (T := TX4) (N := 28) hx hb hts ilX4 hown hK hP 0 rfl rfl 9 (by decide) (hts _ wf_X4_22) (fun _ h9 => h9) rfl dX4_start_22 ?_
      refine lv_iload_n hx hb dX4_start_25 rfl (lv_at hl 1 rfl) ?_
      refine lv_iload_n hx hb dX4_start_26 rfl (lv_at hl 2 rfl) ?_
      refine va_iast hx hb hK hP hD hS 5 0 rfl rfl (within_in (n := 16) (by decide) c_1) dX4_start_27 (fun H locs hP hD hS => ?_)
      have hP : va_P D classes [(qm, .inr (4, [.ref pI, .ref pC, .ref pM, .ref pR, .int nT, .int nL, .int nC, .int nMar, .int nIn, .ref pP, .ref pH, .ref pK, .ref pD, .int nHand, .int nGiv, .int nCyc, .int nWai, .int nSw, .int nBeg, .int nOut, .ref pO, .int nRsel, .int nAluf, .int nBs, .int nF1, .int nF2, .int nSum, .int nSc])), (pI, .inl (cI, 1024, .inl gI)), (pC, .inl (cI, 256, .inl gC)), (pM, .inl (cI, 1024, .inl gM)), (pR, .inl (cI, 32, .inl gR)), (pP, .inl (cI, 16, .inl (upd gP (Int32.toNatClampNeg p0) p1))), (pH, .inl (cI, 16, .inl gH)), (pK, .inl (cZ, 16, .inl gK)), (pD, .inl (cI, 16, .inl gD)), (pO, .inl (cI, 500, .inl gO))] H := hP
      have hD : va_D A [(qm, .inr (4, [.ref pI, .ref pC, .ref pM, .ref pR, .int nT, .int nL, .int nC, .int nMar, .int nIn, .ref pP, .ref pH, .ref pK, .ref pD, .int nHand, .int nGiv, .int nCyc, .int nWai, .int nSw, .int nBeg, .int nOut, .ref pO, .int nRsel, .int nAluf, .int nBs, .int nF1, .int nF2, .int nSum, .int nSc])), (pI, .inl (cI, 1024, .inl gI)), (pC, .inl (cI, 256, .inl gC)), (pM, .inl (cI, 1024, .inl gM)), (pR, .inl (cI, 32, .inl gR)), (pP, .inl (cI, 16, .inl (upd gP (Int32.toNatClampNeg p0) p1))), (pH, .inl (cI, 16, .inl gH)), (pK, .inl (cZ, 16, .inl gK)), (pD, .inl (cI, 16, .inl gD)), (pO, .inl (cI, 500, .inl gO))] := hD
      refine lv_aload_n hx hb dX4_start_28 rfl (lv_at hl 0 rfl) ?_
      refine va_get (D := D) (ci := 4) (v := .ref pH) (C := RX4) (T := TX4) (N := 28) hx hb hts ilX4 hown hK hP 0 rfl rfl 10 (by decide) (hts _ wf_X4_25) (fun _ h9 => h9) rfl dX4_start_29 ?_
      refine lv_iload_n hx hb dX4_start_32 rfl (lv_at hl 1 rfl) ?_
      refine lv_iconst (v := 0) hx hb dX4_start_33 (by decide) ?_
      refine va_iast hx hb hK hP hD hS 6 0 rfl rfl (within_in (n := 16) (by decide) c_1) dX4_start_34 (fun H locs hP hD hS => ?_)
      have hP : va_P D classes [(qm, .inr (4, [.ref pI, .ref pC, .ref pM, .ref pR, .int nT, .int nL, .int nC, .int nMar, .int nIn, .ref pP, .ref pH, .ref pK, .ref pD, .int nHand, .int nGiv, .int nCyc, .int nWai, .int nSw, .int nBeg, .int nOut, .ref pO, .int nRsel, .int nAluf, .int nBs, .int nF1, .int nF2, .int nSum, .int nSc])), (pI, .inl (cI, 1024, .inl gI)), (pC, .inl (cI, 256, .inl gC)), (pM, .inl (cI, 1024, .inl gM)), (pR, .inl (cI, 32, .inl gR)), (pP, .inl (cI, 16, .inl (upd gP (Int32.toNatClampNeg p0) p1))), (pH, .inl (cI, 16, .inl (upd gH (Int32.toNatClampNeg p0) 0))), (pK, .inl (cZ, 16, .inl gK)), (pD, .inl (cI, 16, .inl gD)), (pO, .inl (cI, 500, .inl gO))] H := hP
      have hD : va_D A [(qm, .inr (4, [.ref pI, .ref pC, .ref pM, .ref pR, .int nT, .int nL, .int nC, .int nMar, .int nIn, .ref pP, .ref pH, .ref pK, .ref pD, .int nHand, .int nGiv, .int nCyc, .int nWai, .int nSw, .int nBeg, .int nOut, .ref pO, .int nRsel, .int nAluf, .int nBs, .int nF1, .int nF2, .int nSum, .int nSc])), (pI, .inl (cI, 1024, .inl gI)), (pC, .inl (cI, 256, .inl gC)), (pM, .inl (cI, 1024, .inl gM)), (pR, .inl (cI, 32, .inl gR)), (pP, .inl (cI, 16, .inl (upd gP (Int32.toNatClampNeg p0) p1))), (pH, .inl (cI, 16, .inl (upd gH (Int32.toNatClampNeg p0) 0))), (pK, .inl (cZ, 16, .inl gK)), (pD, .inl (cI, 16, .inl gD)), (pO, .inl (cI, 500, .inl gO))] := hD
      refine lv_iconst (v := 1) hx hb dX4_start_35 (by decide) ?_
      have e_1 : z_X4_start_pP gP p0 p1 = upd gP (Int32.toNatClampNeg p0) p1 := by simp only [z_X4_start_pP, if_neg c_1, if_neg c_2]
      have e_2 : z_X4_start_pH gH p0 p1 = upd gH (Int32.toNatClampNeg p0) 0 := by simp only [z_X4_start_pH, if_neg c_1, if_neg c_2]
      have e_3 : r_X4_start p0 p1 = 1 := by simp only [r_X4_start, if_neg c_1, if_neg c_2]
      exact ct_zret hx hb hr hlocks hP hD hS (by rw [e_1, e_2]) (by rw [e_3]) (Or.inr rfl) dX4_start_36
    · skip
      refine lv_iconst (v := 0) hx hb dX4_start_19 (by decide) ?_
      have e_1 : z_X4_start_pP gP p0 p1 = gP := by simp only [z_X4_start_pP, if_neg c_1, if_pos c_2]
      have e_2 : z_X4_start_pH gH p0 p1 = gH := by simp only [z_X4_start_pH, if_neg c_1, if_pos c_2]
      have e_3 : r_X4_start p0 p1 = 0 := by simp only [r_X4_start, if_neg c_1, if_pos c_2]
      exact ct_zret hx hb hr hlocks hP hD hS (by rw [e_1, e_2]) (by rw [e_3]) (Or.inl rfl) dX4_start_20
def r_X4_register (gR : Nat → Int32) (nT : Int32) (nL : Int32) (nC : Int32) (nMar : Int32) (p0 : Int32) : Int32 := (if (r_X4_within p0 31) = 0 then (if p0 = 32 then nT else (if p0 = 33 then nL else (if p0 = 34 then nC else (if p0 = 35 then nMar else (-1))))) else gR (Int32.toNatClampNeg p0))
set_option maxHeartbeats 4000000 in
set_option maxRecDepth 100000 in
theorem c_X4_register (l : Launch) (D : va_G) (cI cZ : ClassId) (qm : Nat) (pI : Nat) (pC : Nat) (pM : Nat) (pR : Nat) (pP : Nat) (pH : Nat) (pK : Nat) (pD : Nat) (pO : Nat) (gI : Nat → Int32) (gC : Nat → Int32) (gM : Nat → Int32) (gR : Nat → Int32) (gP : Nat → Int32) (gH : Nat → Int32) (gK : Nat → Int32) (gD : Nat → Int32) (gO : Nat → Int32) (nT : Int32) (nL : Int32) (nC : Int32) (nMar : Int32) (nIn : Int32) (nHand : Int32) (nGiv : Int32) (nCyc : Int32) (nWai : Int32) (nSw : Int32) (nBeg : Int32) (nOut : Int32) (nRsel : Int32) (nAluf : Int32) (nBs : Int32) (nF1 : Int32) (nF2 : Int32) (nSum : Int32) (nSc : Int32) (p0 : Int32) : CtI l D classes [(cI, .int), (cZ, .boolean)] yX4_register w_X4_register { frames := 1, cells := 0, slots := 0, locals := 21 } [.ref qm, .int p0] [(qm, .inr (4, [.ref pI, .ref pC, .ref pM, .ref pR, .int nT, .int nL, .int nC, .int nMar, .int nIn, .ref pP, .ref pH, .ref pK, .ref pD, .int nHand, .int nGiv, .int nCyc, .int nWai, .int nSw, .int nBeg, .int nOut, .ref pO, .int nRsel, .int nAluf, .int nBs, .int nF1, .int nF2, .int nSum, .int nSc])), (pI, .inl (cI, 1024, .inl gI)), (pC, .inl (cI, 256, .inl gC)), (pM, .inl (cI, 1024, .inl gM)), (pR, .inl (cI, 32, .inl gR)), (pP, .inl (cI, 16, .inl gP)), (pH, .inl (cI, 16, .inl gH)), (pK, .inl (cZ, 16, .inl gK)), (pD, .inl (cI, 16, .inl gD)), (pO, .inl (cI, 500, .inl gO))] [(qm, .inr (4, [.ref pI, .ref pC, .ref pM, .ref pR, .int nT, .int nL, .int nC, .int nMar, .int nIn, .ref pP, .ref pH, .ref pK, .ref pD, .int nHand, .int nGiv, .int nCyc, .int nWai, .int nSw, .int nBeg, .int nOut, .ref pO, .int nRsel, .int nAluf, .int nBs, .int nF1, .int nF2, .int nSum, .int nSc])), (pI, .inl (cI, 1024, .inl gI)), (pC, .inl (cI, 256, .inl gC)), (pM, .inl (cI, 1024, .inl gM)), (pR, .inl (cI, 32, .inl gR)), (pP, .inl (cI, 16, .inl gP)), (pH, .inl (cI, 16, .inl gH)), (pK, .inl (cZ, 16, .inl gK)), (pD, .inl (cI, 16, .inl gD)), (pO, .inl (cI, 500, .inl gO))] (r_X4_register gR nT nL nC nMar p0) := by
  refine CtI.mk (cc := cX4_register) (maxL := 2) (ret := (some .int)) (by decide) rfl (Nat.le_of_ble_eq_true rfl) ?_
  intro p e s m below meth c A hBeg ls hl
  obtain ⟨hx, hb, hr, hml, hts0, hown, hlocks, hin, hA, hK, hP, hD, hS⟩ := hBeg
  have hts := fun w h => hts0 w (List.mem_cons_of_mem _ h)
  have hown : s.vm.findClass RX4 = some m.cls := hown
  have hl : lv_has ls 2 [(0, .ref qm), (1, .int p0)] := hl
  skip
  refine lv_iload_n hx hb dX4_register_0 rfl (lv_at hl 1 rfl) ?_
  refine lv_bipush (v := 31) hx hb dX4_register_1 (by decide) ?_
  refine ctI_S (As := [.int p0, .int 31]) (rest := []) (wc := []) (wr := [(qm, .inr (4, [.ref pI, .ref pC, .ref pM, .ref pR, .int nT, .int nL, .int nC, .int nMar, .int nIn, .ref pP, .ref pH, .ref pK, .ref pD, .int nHand, .int nGiv, .int nCyc, .int nWai, .int nSw, .int nBeg, .int nOut, .ref pO, .int nRsel, .int nAluf, .int nBs, .int nF1, .int nF2, .int nSum, .int nSc])), (pI, .inl (cI, 1024, .inl gI)), (pC, .inl (cI, 256, .inl gC)), (pM, .inl (cI, 1024, .inl gM)), (pR, .inl (cI, 32, .inl gR)), (pP, .inl (cI, 16, .inl gP)), (pH, .inl (cI, 16, .inl gH)), (pK, .inl (cZ, 16, .inl gK)), (pD, .inl (cI, 16, .inl gD)), (pO, .inl (cI, 500, .inl gO))]) ⟨hx, hb, hml, hown, hts⟩ (c_X4_within l D cI cZ p0 31) (cwS 2 hts (gd_S wm_X4_42 wt_X4_within wz_X4 wo_X4_within) rfl rfl rfl (by decide +kernel) ⟨Nat.le_of_ble_eq_true rfl, Nat.le_of_ble_eq_true rfl⟩) hK hP hD hS hA [] [0, 1, 2, 3, 4, 5, 6, 7, 8, 9] rfl rfl (by decide) (by decide) (by decide) rfl rfl hl.1 (Nat.le_of_ble_eq_true rfl) dX4_register_3 ⟨Nat.le_of_ble_eq_true rfl, Nat.le_of_ble_eq_true rfl⟩ (fun H locs hP hD hS => ?_)
  have hP : va_P D classes [(qm, .inr (4, [.ref pI, .ref pC, .ref pM, .ref pR, .int nT, .int nL, .int nC, .int nMar, .int nIn, .ref pP, .ref pH, .ref pK, .ref pD, .int nHand, .int nGiv, .int nCyc, .int nWai, .int nSw, .int nBeg, .int nOut, .ref pO, .int nRsel, .int nAluf, .int nBs, .int nF1, .int nF2, .int nSum, .int nSc])), (pI, .inl (cI, 1024, .inl gI)), (pC, .inl (cI, 256, .inl gC)), (pM, .inl (cI, 1024, .inl gM)), (pR, .inl (cI, 32, .inl gR)), (pP, .inl (cI, 16, .inl gP)), (pH, .inl (cI, 16, .inl gH)), (pK, .inl (cZ, 16, .inl gK)), (pD, .inl (cI, 16, .inl gD)), (pO, .inl (cI, 500, .inl gO))] H := hP
  have hD : va_D A [(qm, .inr (4, [.ref pI, .ref pC, .ref pM, .ref pR, .int nT, .int nL, .int nC, .int nMar, .int nIn, .ref pP, .ref pH, .ref pK, .ref pD, .int nHand, .int nGiv, .int nCyc, .int nWai, .int nSw, .int nBeg, .int nOut, .ref pO, .int nRsel, .int nAluf, .int nBs, .int nF1, .int nF2, .int nSum, .int nSc])), (pI, .inl (cI, 1024, .inl gI)), (pC, .inl (cI, 256, .inl gC)), (pM, .inl (cI, 1024, .inl gM)), (pR, .inl (cI, 32, .inl gR)), (pP, .inl (cI, 16, .inl gP)), (pH, .inl (cI, 16, .inl gH)), (pK, .inl (cZ, 16, .inl gK)), (pD, .inl (cI, 16, .inl gD)), (pO, .inl (cI, 500, .inl gO))] := hD
  refine lv_if_eq (tgt := 18) hx hb dX4_register_6 (by decide) (fun c_1 => ?_) (fun c_1 => ?_)
  · skip
    refine lv_iload_n hx hb dX4_register_18 rfl (lv_at hl 1 rfl) ?_
    refine lv_bipush (v := 32) hx hb dX4_register_19 (by decide) ?_
    refine lv_icmp_ne (tgt := 31) hx hb dX4_register_21 (by decide) (fun c_2 => ?_) (fun c_2 => ?_)
    · skip
      refine lv_iload_n hx hb dX4_register_31 rfl (lv_at hl 1 rfl) ?_
      refine lv_bipush (v := 33) hx hb dX4_register_32 (by decide) ?_
      refine lv_icmp_ne (tgt := 44) hx hb dX4_register_34 (by decide) (fun c_3 => ?_) (fun c_3 => ?_)
      · skip
        refine lv_iload_n hx hb dX4_register_44 rfl (lv_at hl 1 rfl) ?_
        refine lv_bipush (v := 34) hx hb dX4_register_45 (by decide) ?_
        refine lv_icmp_ne (tgt := 57) hx hb dX4_register_47 (by decide) (fun c_4 => ?_) (fun c_4 => ?_)
        · skip
          refine lv_iload_n hx hb dX4_register_57 rfl (lv_at hl 1 rfl) ?_
          refine lv_bipush (v := 35) hx hb dX4_register_58 (by decide) ?_
          refine lv_icmp_ne (tgt := 70) hx hb dX4_register_60 (by decide) (fun c_5 => ?_) (fun c_5 => ?_)
          · skip
            refine lv_iconst (v := (-1)) hx hb dX4_register_70 (by decide) ?_
            have e_1 : r_X4_register gR nT nL nC nMar p0 = (-1) := by simp only [r_X4_register, if_pos c_1, if_neg c_2, if_neg c_3, if_neg c_4, if_neg c_5]
            exact ct_iret hx hb hr hlocks hP hD hS rfl (by rw [e_1]) dX4_register_71
          · skip
            refine lv_aload_n hx hb dX4_register_63 rfl (lv_at hl 0 rfl) ?_
            refine va_get (D := D) (ci := 4) (v := .int nMar) (C := RX4) (T := TX4) (N := 28) hx hb hts ilX4 hown hK hP 0 rfl rfl 7 (by decide) (hts _ wf_X4_75) (fun _ h9 => h9) rfl dX4_register_64 ?_
            refine lv_goto (tgt := 71) hx hb dX4_register_67 (by decide) ?_
            have e_1 : r_X4_register gR nT nL nC nMar p0 = nMar := by simp only [r_X4_register, if_pos c_1, if_neg c_2, if_neg c_3, if_neg c_4, if_pos c_5]
            exact ct_iret hx hb hr hlocks hP hD hS rfl (by rw [e_1]) dX4_register_71
        · skip
          refine lv_aload_n hx hb dX4_register_50 rfl (lv_at hl 0 rfl) ?_
          refine va_get (D := D) (ci := 4) (v := .int nC) (C := RX4) (T := TX4) (N := 28) hx hb hts ilX4 hown hK hP 0 rfl rfl 6 (by decide) (hts _ wf_X4_98) (fun _ h9 => h9) rfl dX4_register_51 ?_
          refine lv_goto (tgt := 71) hx hb dX4_register_54 (by decide) ?_
          have e_1 : r_X4_register gR nT nL nC nMar p0 = nC := by simp only [r_X4_register, if_pos c_1, if_neg c_2, if_neg c_3, if_pos c_4]
          exact ct_iret hx hb hr hlocks hP hD hS rfl (by rw [e_1]) dX4_register_71
      · skip
        refine lv_aload_n hx hb dX4_register_37 rfl (lv_at hl 0 rfl) ?_
        refine va_get (D := D) (ci := 4) (v := .int nL) (C := RX4) (T := TX4) (N := 28) hx hb hts ilX4 hown hK hP 0 rfl rfl 5 (by decide) (hts _ wf_X4_66) (fun _ h9 => h9) rfl dX4_register_38 ?_
        refine lv_goto (tgt := 71) hx hb dX4_register_41 (by decide) ?_
        have e_1 : r_X4_register gR nT nL nC nMar p0 = nL := by simp only [r_X4_register, if_pos c_1, if_neg c_2, if_pos c_3]
        exact ct_iret hx hb hr hlocks hP hD hS rfl (by rw [e_1]) dX4_register_71
    · skip
      refine lv_aload_n hx hb dX4_register_24 rfl (lv_at hl 0 rfl) ?_
      refine va_get (D := D) (ci := 4) (v := .int nT) (C := RX4) (T := TX4) (N := 28) hx hb hts ilX4 hown hK hP 0 rfl rfl 4 (by decide) (hts _ wf_X4_87) (fun _ h9 => h9) rfl dX4_register_25 ?_
      refine lv_goto (tgt := 71) hx hb dX4_register_28 (by decide) ?_
      have e_1 : r_X4_register gR nT nL nC nMar p0 = nT := by simp only [r_X4_register, if_pos c_1, if_pos c_2]
      exact ct_iret hx hb hr hlocks hP hD hS rfl (by rw [e_1]) dX4_register_71
  · skip
    refine lv_aload_n hx hb dX4_register_9 rfl (lv_at hl 0 rfl) ?_
    refine va_get (D := D) (ci := 4) (v := .ref pR) (C := RX4) (T := TX4) (N := 28) hx hb hts ilX4 hown hK hP 0 rfl rfl 3 (by decide) (hts _ wf_X4_19) (fun _ h9 => h9) rfl dX4_register_10 ?_
    refine lv_iload_n hx hb dX4_register_13 rfl (lv_at hl 1 rfl) ?_
    refine va_iald hx hb hK hP 4 0 rfl rfl (within_in (n := 32) (by decide) c_1) dX4_register_14 ?_
    refine lv_goto (tgt := 71) hx hb dX4_register_15 (by decide) ?_
    have e_1 : r_X4_register gR nT nL nC nMar p0 = gR (Int32.toNatClampNeg p0) := by simp only [r_X4_register, if_neg c_1]
    exact ct_iret hx hb hr hlocks hP hD hS rfl (by rw [e_1]) dX4_register_71
def r_X4_peek (gM : Nat → Int32) (p0 : Int32) : Int32 := (if (r_X4_within p0 1023) = 0 then (-1) else gM (Int32.toNatClampNeg p0))
set_option maxHeartbeats 4000000 in
set_option maxRecDepth 100000 in
theorem c_X4_peek (l : Launch) (D : va_G) (cI cZ : ClassId) (qm : Nat) (pI : Nat) (pC : Nat) (pM : Nat) (pR : Nat) (pP : Nat) (pH : Nat) (pK : Nat) (pD : Nat) (pO : Nat) (gI : Nat → Int32) (gC : Nat → Int32) (gM : Nat → Int32) (gR : Nat → Int32) (gP : Nat → Int32) (gH : Nat → Int32) (gK : Nat → Int32) (gD : Nat → Int32) (gO : Nat → Int32) (nT : Int32) (nL : Int32) (nC : Int32) (nMar : Int32) (nIn : Int32) (nHand : Int32) (nGiv : Int32) (nCyc : Int32) (nWai : Int32) (nSw : Int32) (nBeg : Int32) (nOut : Int32) (nRsel : Int32) (nAluf : Int32) (nBs : Int32) (nF1 : Int32) (nF2 : Int32) (nSum : Int32) (nSc : Int32) (p0 : Int32) : CtI l D classes [(cI, .int), (cZ, .boolean)] yX4_peek w_X4_peek { frames := 1, cells := 0, slots := 0, locals := 21 } [.ref qm, .int p0] [(qm, .inr (4, [.ref pI, .ref pC, .ref pM, .ref pR, .int nT, .int nL, .int nC, .int nMar, .int nIn, .ref pP, .ref pH, .ref pK, .ref pD, .int nHand, .int nGiv, .int nCyc, .int nWai, .int nSw, .int nBeg, .int nOut, .ref pO, .int nRsel, .int nAluf, .int nBs, .int nF1, .int nF2, .int nSum, .int nSc])), (pI, .inl (cI, 1024, .inl gI)), (pC, .inl (cI, 256, .inl gC)), (pM, .inl (cI, 1024, .inl gM)), (pR, .inl (cI, 32, .inl gR)), (pP, .inl (cI, 16, .inl gP)), (pH, .inl (cI, 16, .inl gH)), (pK, .inl (cZ, 16, .inl gK)), (pD, .inl (cI, 16, .inl gD)), (pO, .inl (cI, 500, .inl gO))] [(qm, .inr (4, [.ref pI, .ref pC, .ref pM, .ref pR, .int nT, .int nL, .int nC, .int nMar, .int nIn, .ref pP, .ref pH, .ref pK, .ref pD, .int nHand, .int nGiv, .int nCyc, .int nWai, .int nSw, .int nBeg, .int nOut, .ref pO, .int nRsel, .int nAluf, .int nBs, .int nF1, .int nF2, .int nSum, .int nSc])), (pI, .inl (cI, 1024, .inl gI)), (pC, .inl (cI, 256, .inl gC)), (pM, .inl (cI, 1024, .inl gM)), (pR, .inl (cI, 32, .inl gR)), (pP, .inl (cI, 16, .inl gP)), (pH, .inl (cI, 16, .inl gH)), (pK, .inl (cZ, 16, .inl gK)), (pD, .inl (cI, 16, .inl gD)), (pO, .inl (cI, 500, .inl gO))] (r_X4_peek gM p0) := by
  refine CtI.mk (cc := cX4_peek) (maxL := 2) (ret := (some .int)) (by decide) rfl (Nat.le_of_ble_eq_true rfl) ?_
  intro p e s m below meth c A hBeg ls hl
  obtain ⟨hx, hb, hr, hml, hts0, hown, hlocks, hin, hA, hK, hP, hD, hS⟩ := hBeg
  have hts := fun w h => hts0 w (List.mem_cons_of_mem _ h)
  have hown : s.vm.findClass RX4 = some m.cls := hown
  have hl : lv_has ls 2 [(0, .ref qm), (1, .int p0)] := hl
  skip
  refine lv_iload_n hx hb dX4_peek_0 rfl (lv_at hl 1 rfl) ?_
  refine lv_sipush (v := 1023) hx hb dX4_peek_1 (by decide) ?_
  refine ctI_S (As := [.int p0, .int 1023]) (rest := []) (wc := []) (wr := [(qm, .inr (4, [.ref pI, .ref pC, .ref pM, .ref pR, .int nT, .int nL, .int nC, .int nMar, .int nIn, .ref pP, .ref pH, .ref pK, .ref pD, .int nHand, .int nGiv, .int nCyc, .int nWai, .int nSw, .int nBeg, .int nOut, .ref pO, .int nRsel, .int nAluf, .int nBs, .int nF1, .int nF2, .int nSum, .int nSc])), (pI, .inl (cI, 1024, .inl gI)), (pC, .inl (cI, 256, .inl gC)), (pM, .inl (cI, 1024, .inl gM)), (pR, .inl (cI, 32, .inl gR)), (pP, .inl (cI, 16, .inl gP)), (pH, .inl (cI, 16, .inl gH)), (pK, .inl (cZ, 16, .inl gK)), (pD, .inl (cI, 16, .inl gD)), (pO, .inl (cI, 500, .inl gO))]) ⟨hx, hb, hml, hown, hts⟩ (c_X4_within l D cI cZ p0 1023) (cwS 2 hts (gd_S wm_X4_42 wt_X4_within wz_X4 wo_X4_within) rfl rfl rfl (by decide +kernel) ⟨Nat.le_of_ble_eq_true rfl, Nat.le_of_ble_eq_true rfl⟩) hK hP hD hS hA [] [0, 1, 2, 3, 4, 5, 6, 7, 8, 9] rfl rfl (by decide) (by decide) (by decide) rfl rfl hl.1 (Nat.le_of_ble_eq_true rfl) dX4_peek_4 ⟨Nat.le_of_ble_eq_true rfl, Nat.le_of_ble_eq_true rfl⟩ (fun H locs hP hD hS => ?_)
  have hP : va_P D classes [(qm, .inr (4, [.ref pI, .ref pC, .ref pM, .ref pR, .int nT, .int nL, .int nC, .int nMar, .int nIn, .ref pP, .ref pH, .ref pK, .ref pD, .int nHand, .int nGiv, .int nCyc, .int nWai, .int nSw, .int nBeg, .int nOut, .ref pO, .int nRsel, .int nAluf, .int nBs, .int nF1, .int nF2, .int nSum, .int nSc])), (pI, .inl (cI, 1024, .inl gI)), (pC, .inl (cI, 256, .inl gC)), (pM, .inl (cI, 1024, .inl gM)), (pR, .inl (cI, 32, .inl gR)), (pP, .inl (cI, 16, .inl gP)), (pH, .inl (cI, 16, .inl gH)), (pK, .inl (cZ, 16, .inl gK)), (pD, .inl (cI, 16, .inl gD)), (pO, .inl (cI, 500, .inl gO))] H := hP
  have hD : va_D A [(qm, .inr (4, [.ref pI, .ref pC, .ref pM, .ref pR, .int nT, .int nL, .int nC, .int nMar, .int nIn, .ref pP, .ref pH, .ref pK, .ref pD, .int nHand, .int nGiv, .int nCyc, .int nWai, .int nSw, .int nBeg, .int nOut, .ref pO, .int nRsel, .int nAluf, .int nBs, .int nF1, .int nF2, .int nSum, .int nSc])), (pI, .inl (cI, 1024, .inl gI)), (pC, .inl (cI, 256, .inl gC)), (pM, .inl (cI, 1024, .inl gM)), (pR, .inl (cI, 32, .inl gR)), (pP, .inl (cI, 16, .inl gP)), (pH, .inl (cI, 16, .inl gH)), (pK, .inl (cZ, 16, .inl gK)), (pD, .inl (cI, 16, .inl gD)), (pO, .inl (cI, 500, .inl gO))] := hD
  refine lv_if_eq (tgt := 19) hx hb dX4_peek_7 (by decide) (fun c_1 => ?_) (fun c_1 => ?_)
  · skip
    refine lv_iconst (v := (-1)) hx hb dX4_peek_19 (by decide) ?_
    have e_1 : r_X4_peek gM p0 = (-1) := by simp only [r_X4_peek, if_pos c_1]
    exact ct_iret hx hb hr hlocks hP hD hS rfl (by rw [e_1]) dX4_peek_20
  · skip
    refine lv_aload_n hx hb dX4_peek_10 rfl (lv_at hl 0 rfl) ?_
    refine va_get (D := D) (ci := 4) (v := .ref pM) (C := RX4) (T := TX4) (N := 28) hx hb hts ilX4 hown hK hP 0 rfl rfl 2 (by decide) (hts _ wf_X4_16) (fun _ h9 => h9) rfl dX4_peek_11 ?_
    refine lv_iload_n hx hb dX4_peek_14 rfl (lv_at hl 1 rfl) ?_
    refine va_iald hx hb hK hP 3 0 rfl rfl (within_in (n := 1024) (by decide) c_1) dX4_peek_15 ?_
    refine lv_goto (tgt := 20) hx hb dX4_peek_16 (by decide) ?_
    have e_1 : r_X4_peek gM p0 = gM (Int32.toNatClampNeg p0) := by simp only [r_X4_peek, if_neg c_1]
    exact ct_iret hx hb hr hlocks hP hD hS rfl (by rw [e_1]) dX4_peek_20
def r_X4_task (gP : Nat → Int32) (gH : Nat → Int32) (gK : Nat → Int32) (gD : Nat → Int32) (p0 : Int32) (p1 : Int32) : Int32 := (if (r_X4_within p0 15) = 0 then (-1) else (if (r_X4_within p1 3) = 0 then (-1) else (if p1 = 0 then gP (Int32.toNatClampNeg p0) else (if p1 = 1 then gH (Int32.toNatClampNeg p0) else (if p1 = 2 then (if (gK (Int32.toNatClampNeg p0)) = 0 then 0 else 1) else gD (Int32.toNatClampNeg p0))))))
set_option maxHeartbeats 4000000 in
set_option maxRecDepth 100000 in
theorem c_X4_task (l : Launch) (D : va_G) (cI cZ : ClassId) (qm : Nat) (pI : Nat) (pC : Nat) (pM : Nat) (pR : Nat) (pP : Nat) (pH : Nat) (pK : Nat) (pD : Nat) (pO : Nat) (gI : Nat → Int32) (gC : Nat → Int32) (gM : Nat → Int32) (gR : Nat → Int32) (gP : Nat → Int32) (gH : Nat → Int32) (gK : Nat → Int32) (gD : Nat → Int32) (gO : Nat → Int32) (nT : Int32) (nL : Int32) (nC : Int32) (nMar : Int32) (nIn : Int32) (nHand : Int32) (nGiv : Int32) (nCyc : Int32) (nWai : Int32) (nSw : Int32) (nBeg : Int32) (nOut : Int32) (nRsel : Int32) (nAluf : Int32) (nBs : Int32) (nF1 : Int32) (nF2 : Int32) (nSum : Int32) (nSc : Int32) (p0 : Int32) (p1 : Int32) : CtI l D classes [(cI, .int), (cZ, .boolean)] yX4_task w_X4_task { frames := 1, cells := 0, slots := 0, locals := 21 } [.ref qm, .int p0, .int p1] [(qm, .inr (4, [.ref pI, .ref pC, .ref pM, .ref pR, .int nT, .int nL, .int nC, .int nMar, .int nIn, .ref pP, .ref pH, .ref pK, .ref pD, .int nHand, .int nGiv, .int nCyc, .int nWai, .int nSw, .int nBeg, .int nOut, .ref pO, .int nRsel, .int nAluf, .int nBs, .int nF1, .int nF2, .int nSum, .int nSc])), (pI, .inl (cI, 1024, .inl gI)), (pC, .inl (cI, 256, .inl gC)), (pM, .inl (cI, 1024, .inl gM)), (pR, .inl (cI, 32, .inl gR)), (pP, .inl (cI, 16, .inl gP)), (pH, .inl (cI, 16, .inl gH)), (pK, .inl (cZ, 16, .inl gK)), (pD, .inl (cI, 16, .inl gD)), (pO, .inl (cI, 500, .inl gO))] [(qm, .inr (4, [.ref pI, .ref pC, .ref pM, .ref pR, .int nT, .int nL, .int nC, .int nMar, .int nIn, .ref pP, .ref pH, .ref pK, .ref pD, .int nHand, .int nGiv, .int nCyc, .int nWai, .int nSw, .int nBeg, .int nOut, .ref pO, .int nRsel, .int nAluf, .int nBs, .int nF1, .int nF2, .int nSum, .int nSc])), (pI, .inl (cI, 1024, .inl gI)), (pC, .inl (cI, 256, .inl gC)), (pM, .inl (cI, 1024, .inl gM)), (pR, .inl (cI, 32, .inl gR)), (pP, .inl (cI, 16, .inl gP)), (pH, .inl (cI, 16, .inl gH)), (pK, .inl (cZ, 16, .inl gK)), (pD, .inl (cI, 16, .inl gD)), (pO, .inl (cI, 500, .inl gO))] (r_X4_task gP gH gK gD p0 p1) := by
  refine CtI.mk (cc := cX4_task) (maxL := 3) (ret := (some .int)) (by decide) rfl (Nat.le_of_ble_eq_true rfl) ?_
  intro p e s m below meth c A hBeg ls hl
  obtain ⟨hx, hb, hr, hml, hts0, hown, hlocks, hin, hA, hK, hP, hD, hS⟩ := hBeg
  have hts := fun w h => hts0 w (List.mem_cons_of_mem _ h)
  have hown : s.vm.findClass RX4 = some m.cls := hown
  have hl : lv_has ls 3 [(0, .ref qm), (1, .int p0), (2, .int p1)] := hl
  skip
  refine lv_iload_n hx hb dX4_task_0 rfl (lv_at hl 1 rfl) ?_
  refine lv_bipush (v := 15) hx hb dX4_task_1 (by decide) ?_
  refine ctI_S (As := [.int p0, .int 15]) (rest := []) (wc := []) (wr := [(qm, .inr (4, [.ref pI, .ref pC, .ref pM, .ref pR, .int nT, .int nL, .int nC, .int nMar, .int nIn, .ref pP, .ref pH, .ref pK, .ref pD, .int nHand, .int nGiv, .int nCyc, .int nWai, .int nSw, .int nBeg, .int nOut, .ref pO, .int nRsel, .int nAluf, .int nBs, .int nF1, .int nF2, .int nSum, .int nSc])), (pI, .inl (cI, 1024, .inl gI)), (pC, .inl (cI, 256, .inl gC)), (pM, .inl (cI, 1024, .inl gM)), (pR, .inl (cI, 32, .inl gR)), (pP, .inl (cI, 16, .inl gP)), (pH, .inl (cI, 16, .inl gH)), (pK, .inl (cZ, 16, .inl gK)), (pD, .inl (cI, 16, .inl gD)), (pO, .inl (cI, 500, .inl gO))]) ⟨hx, hb, hml, hown, hts⟩ (c_X4_within l D cI cZ p0 15) (cwS 2 hts (gd_S wm_X4_42 wt_X4_within wz_X4 wo_X4_within) rfl rfl rfl (by decide +kernel) ⟨Nat.le_of_ble_eq_true rfl, Nat.le_of_ble_eq_true rfl⟩) hK hP hD hS hA [] [0, 1, 2, 3, 4, 5, 6, 7, 8, 9] rfl rfl (by decide) (by decide) (by decide) rfl rfl hl.1 (Nat.le_of_ble_eq_true rfl) dX4_task_3 ⟨Nat.le_of_ble_eq_true rfl, Nat.le_of_ble_eq_true rfl⟩ (fun H locs hP hD hS => ?_)
  have hP : va_P D classes [(qm, .inr (4, [.ref pI, .ref pC, .ref pM, .ref pR, .int nT, .int nL, .int nC, .int nMar, .int nIn, .ref pP, .ref pH, .ref pK, .ref pD, .int nHand, .int nGiv, .int nCyc, .int nWai, .int nSw, .int nBeg, .int nOut, .ref pO, .int nRsel, .int nAluf, .int nBs, .int nF1, .int nF2, .int nSum, .int nSc])), (pI, .inl (cI, 1024, .inl gI)), (pC, .inl (cI, 256, .inl gC)), (pM, .inl (cI, 1024, .inl gM)), (pR, .inl (cI, 32, .inl gR)), (pP, .inl (cI, 16, .inl gP)), (pH, .inl (cI, 16, .inl gH)), (pK, .inl (cZ, 16, .inl gK)), (pD, .inl (cI, 16, .inl gD)), (pO, .inl (cI, 500, .inl gO))] H := hP
  have hD : va_D A [(qm, .inr (4, [.ref pI, .ref pC, .ref pM, .ref pR, .int nT, .int nL, .int nC, .int nMar, .int nIn, .ref pP, .ref pH, .ref pK, .ref pD, .int nHand, .int nGiv, .int nCyc, .int nWai, .int nSw, .int nBeg, .int nOut, .ref pO, .int nRsel, .int nAluf, .int nBs, .int nF1, .int nF2, .int nSum, .int nSc])), (pI, .inl (cI, 1024, .inl gI)), (pC, .inl (cI, 256, .inl gC)), (pM, .inl (cI, 1024, .inl gM)), (pR, .inl (cI, 32, .inl gR)), (pP, .inl (cI, 16, .inl gP)), (pH, .inl (cI, 16, .inl gH)), (pK, .inl (cZ, 16, .inl gK)), (pD, .inl (cI, 16, .inl gD)), (pO, .inl (cI, 500, .inl gO))] := hD
  refine lv_if_eq (tgt := 17) hx hb dX4_task_6 (by decide) (fun c_1 => ?_) (fun c_1 => ?_)
  · skip
    refine lv_iconst (v := (-1)) hx hb dX4_task_17 (by decide) ?_
    have e_1 : r_X4_task gP gH gK gD p0 p1 = (-1) := by simp only [r_X4_task, if_pos c_1]
    exact ct_iret hx hb hr hlocks hP hD hS rfl (by rw [e_1]) dX4_task_18
  · skip
    refine lv_iload_n hx hb dX4_task_9 rfl (lv_at hl 2 rfl) ?_
    refine lv_iconst (v := 3) hx hb dX4_task_10 (by decide) ?_
    refine ctI_S (As := [.int p1, .int 3]) (rest := []) (wc := []) (wr := [(qm, .inr (4, [.ref pI, .ref pC, .ref pM, .ref pR, .int nT, .int nL, .int nC, .int nMar, .int nIn, .ref pP, .ref pH, .ref pK, .ref pD, .int nHand, .int nGiv, .int nCyc, .int nWai, .int nSw, .int nBeg, .int nOut, .ref pO, .int nRsel, .int nAluf, .int nBs, .int nF1, .int nF2, .int nSum, .int nSc])), (pI, .inl (cI, 1024, .inl gI)), (pC, .inl (cI, 256, .inl gC)), (pM, .inl (cI, 1024, .inl gM)), (pR, .inl (cI, 32, .inl gR)), (pP, .inl (cI, 16, .inl gP)), (pH, .inl (cI, 16, .inl gH)), (pK, .inl (cZ, 16, .inl gK)), (pD, .inl (cI, 16, .inl gD)), (pO, .inl (cI, 500, .inl gO))]) ⟨hx, hb, hml, hown, hts⟩ (c_X4_within l D cI cZ p1 3) (cwS 2 hts (gd_S wm_X4_42 wt_X4_within wz_X4 wo_X4_within) rfl rfl rfl (by decide +kernel) ⟨Nat.le_of_ble_eq_true rfl, Nat.le_of_ble_eq_true rfl⟩) hK hP hD hS hA [] [0, 1, 2, 3, 4, 5, 6, 7, 8, 9] rfl rfl (by decide) (by decide) (by decide) rfl rfl hl.1 (Nat.le_of_ble_eq_true rfl) dX4_task_11 ⟨Nat.le_of_ble_eq_true rfl, Nat.le_of_ble_eq_true rfl⟩ (fun H locs hP hD hS => ?_)
    have hP : va_P D classes [(qm, .inr (4, [.ref pI, .ref pC, .ref pM, .ref pR, .int nT, .int nL, .int nC, .int nMar, .int nIn, .ref pP, .ref pH, .ref pK, .ref pD, .int nHand, .int nGiv, .int nCyc, .int nWai, .int nSw, .int nBeg, .int nOut, .ref pO, .int nRsel, .int nAluf, .int nBs, .int nF1, .int nF2, .int nSum, .int nSc])), (pI, .inl (cI, 1024, .inl gI)), (pC, .inl (cI, 256, .inl gC)), (pM, .inl (cI, 1024, .inl gM)), (pR, .inl (cI, 32, .inl gR)), (pP, .inl (cI, 16, .inl gP)), (pH, .inl (cI, 16, .inl gH)), (pK, .inl (cZ, 16, .inl gK)), (pD, .inl (cI, 16, .inl gD)), (pO, .inl (cI, 500, .inl gO))] H := hP
    have hD : va_D A [(qm, .inr (4, [.ref pI, .ref pC, .ref pM, .ref pR, .int nT, .int nL, .int nC, .int nMar, .int nIn, .ref pP, .ref pH, .ref pK, .ref pD, .int nHand, .int nGiv, .int nCyc, .int nWai, .int nSw, .int nBeg, .int nOut, .ref pO, .int nRsel, .int nAluf, .int nBs, .int nF1, .int nF2, .int nSum, .int nSc])), (pI, .inl (cI, 1024, .inl gI)), (pC, .inl (cI, 256, .inl gC)), (pM, .inl (cI, 1024, .inl gM)), (pR, .inl (cI, 32, .inl gR)), (pP, .inl (cI, 16, .inl gP)), (pH, .inl (cI, 16, .inl gH)), (pK, .inl (cZ, 16, .inl gK)), (pD, .inl (cI, 16, .inl gD)), (pO, .inl (cI, 500, .inl gO))] := hD
    refine lv_if_ne (tgt := 19) hx hb dX4_task_14 (by decide) (fun c_2 => ?_) (fun c_2 => ?_)
    · skip
      refine lv_iload_n hx hb dX4_task_19 rfl (lv_at hl 2 rfl) ?_
      refine lv_if_ne (tgt := 32) hx hb dX4_task_20 (by decide) (fun c_3 => ?_) (fun c_3 => ?_)
      · skip
        refine lv_iload_n hx hb dX4_task_32 rfl (lv_at hl 2 rfl) ?_
        refine lv_iconst (v := 1) hx hb dX4_task_33 (by decide) ?_
        refine lv_icmp_ne (tgt := 46) hx hb dX4_task_34 (by decide) (fun c_4 => ?_) (fun c_4 => ?_)
        · skip
          refine lv_iload_n hx hb dX4_task_46 rfl (lv_at hl 2 rfl) ?_
          refine lv_iconst (v := 2) hx hb dX4_task_47 (by decide) ?_
          refine lv_icmp_ne (tgt := 68) hx hb dX4_task_48 (by decide) (fun c_5 => ?_) (fun c_5 => ?_)
          · skip
            refine lv_aload_n hx hb dX4_task_68 rfl (lv_at hl 0 rfl) ?_
            refine va_get (D := D) (ci := 4) (v := .ref pD) (C := RX4) (T := TX4) (N := 28) hx hb hts ilX4 hown hK hP 0 rfl rfl 12 (by decide) (hts _ wf_X4_32) (fun _ h9 => h9) rfl dX4_task_69 ?_
            refine lv_iload_n hx hb dX4_task_72 rfl (lv_at hl 1 rfl) ?_
            refine va_iald hx hb hK hP 8 0 rfl rfl (within_in (n := 16) (by decide) c_1) dX4_task_73 ?_
            have e_1 : r_X4_task gP gH gK gD p0 p1 = gD (Int32.toNatClampNeg p0) := by simp only [r_X4_task, if_neg c_1, if_neg c_2, if_neg c_3, if_neg c_4, if_neg c_5]
            exact ct_iret hx hb hr hlocks hP hD hS rfl (by rw [e_1]) dX4_task_74
          · skip
            refine lv_aload_n hx hb dX4_task_51 rfl (lv_at hl 0 rfl) ?_
            refine va_get (D := D) (ci := 4) (v := .ref pK) (C := RX4) (T := TX4) (N := 28) hx hb hts ilX4 hown hK hP 0 rfl rfl 11 (by decide) (hts _ wf_X4_28) (fun _ h9 => h9) rfl dX4_task_52 ?_
            refine lv_iload_n hx hb dX4_task_55 rfl (lv_at hl 1 rfl) ?_
            refine va_zald hx hb hK hP 7 1 rfl rfl (within_in (n := 16) (by decide) c_1) dX4_task_56 ?_
            refine lv_if_eq (tgt := 64) hx hb dX4_task_57 (by decide) (fun c_6 => ?_) (fun c_6 => ?_)
            · skip
              refine lv_iconst (v := 0) hx hb dX4_task_64 (by decide) ?_
              refine lv_goto (tgt := 74) hx hb dX4_task_65 (by decide) ?_
              have e_1 : r_X4_task gP gH gK gD p0 p1 = 0 := by simp only [r_X4_task, if_neg c_1, if_neg c_2, if_neg c_3, if_neg c_4, if_pos c_5, if_pos c_6]
              exact ct_iret hx hb hr hlocks hP hD hS rfl (by rw [e_1]) dX4_task_74
            · skip
              refine lv_iconst (v := 1) hx hb dX4_task_60 (by decide) ?_
              refine lv_goto (tgt := 74) hx hb dX4_task_61 (by decide) ?_
              have e_1 : r_X4_task gP gH gK gD p0 p1 = 1 := by simp only [r_X4_task, if_neg c_1, if_neg c_2, if_neg c_3, if_neg c_4, if_pos c_5, if_neg c_6]
              exact ct_iret hx hb hr hlocks hP hD hS rfl (by rw [e_1]) dX4_task_74
        · skip
          refine lv_aload_n hx hb dX4_task_37 rfl (lv_at hl 0 rfl) ?_
          refine va_get (D := D) (ci := 4) (v := .ref pH) (C := RX4) (T := TX4) (N := 28) hx hb hts ilX4 hown hK hP 0 rfl rfl 10 (by decide) (hts _ wf_X4_25) (fun _ h9 => h9) rfl dX4_task_38 ?_
          refine lv_iload_n hx hb dX4_task_41 rfl (lv_at hl 1 rfl) ?_
          refine va_iald hx hb hK hP 6 0 rfl rfl (within_in (n := 16) (by decide) c_1) dX4_task_42 ?_
          refine lv_goto (tgt := 74) hx hb dX4_task_43 (by decide) ?_
          have e_1 : r_X4_task gP gH gK gD p0 p1 = gH (Int32.toNatClampNeg p0) := by simp only [r_X4_task, if_neg c_1, if_neg c_2, if_neg c_3, if_pos c_4]
          exact ct_iret hx hb hr hlocks hP hD hS rfl (by rw [e_1]) dX4_task_74
      · skip
        refine lv_aload_n hx hb dX4_task_23 rfl (lv_at hl 0 rfl) ?_
        refine va_get (D := D) (ci := 4) (v := .ref pP) (C := RX4) (T := TX4) (N := 28) hx hb hts ilX4 hown hK hP 0 rfl rfl 9 (by decide) (hts _ wf_X4_22) (fun _ h9 => h9) rfl dX4_task_24 ?_
        refine lv_iload_n hx hb dX4_task_27 rfl (lv_at hl 1 rfl) ?_
        refine va_iald hx hb hK hP 5 0 rfl rfl (within_in (n := 16) (by decide) c_1) dX4_task_28 ?_
        refine lv_goto (tgt := 74) hx hb dX4_task_29 (by decide) ?_
        have e_1 : r_X4_task gP gH gK gD p0 p1 = gP (Int32.toNatClampNeg p0) := by simp only [r_X4_task, if_neg c_1, if_neg c_2, if_pos c_3]
        exact ct_iret hx hb hr hlocks hP hD hS rfl (by rw [e_1]) dX4_task_74
    · skip
      refine lv_iconst (v := (-1)) hx hb dX4_task_17 (by decide) ?_
      have e_1 : r_X4_task gP gH gK gD p0 p1 = (-1) := by simp only [r_X4_task, if_neg c_1, if_pos c_2]
      exact ct_iret hx hb hr hlocks hP hD hS rfl (by rw [e_1]) dX4_task_18
set_option maxHeartbeats 4000000 in
set_option maxRecDepth 100000 in
theorem c_X4_now (l : Launch) (D : va_G) (cI cZ : ClassId) (qm : Nat) (pI : Nat) (pC : Nat) (pM : Nat) (pR : Nat) (pP : Nat) (pH : Nat) (pK : Nat) (pD : Nat) (pO : Nat) (gI : Nat → Int32) (gC : Nat → Int32) (gM : Nat → Int32) (gR : Nat → Int32) (gP : Nat → Int32) (gH : Nat → Int32) (gK : Nat → Int32) (gD : Nat → Int32) (gO : Nat → Int32) (nT : Int32) (nL : Int32) (nC : Int32) (nMar : Int32) (nIn : Int32) (nHand : Int32) (nGiv : Int32) (nCyc : Int32) (nWai : Int32) (nSw : Int32) (nBeg : Int32) (nOut : Int32) (nRsel : Int32) (nAluf : Int32) (nBs : Int32) (nF1 : Int32) (nF2 : Int32) (nSum : Int32) (nSc : Int32) : CtI l D classes [(cI, .int), (cZ, .boolean)] yX4_now w_X4_now { frames := 0, cells := 0, slots := 0, locals := 0 } [.ref qm] [(qm, .inr (4, [.ref pI, .ref pC, .ref pM, .ref pR, .int nT, .int nL, .int nC, .int nMar, .int nIn, .ref pP, .ref pH, .ref pK, .ref pD, .int nHand, .int nGiv, .int nCyc, .int nWai, .int nSw, .int nBeg, .int nOut, .ref pO, .int nRsel, .int nAluf, .int nBs, .int nF1, .int nF2, .int nSum, .int nSc])), (pI, .inl (cI, 1024, .inl gI)), (pC, .inl (cI, 256, .inl gC)), (pM, .inl (cI, 1024, .inl gM)), (pR, .inl (cI, 32, .inl gR)), (pP, .inl (cI, 16, .inl gP)), (pH, .inl (cI, 16, .inl gH)), (pK, .inl (cZ, 16, .inl gK)), (pD, .inl (cI, 16, .inl gD)), (pO, .inl (cI, 500, .inl gO))] [(qm, .inr (4, [.ref pI, .ref pC, .ref pM, .ref pR, .int nT, .int nL, .int nC, .int nMar, .int nIn, .ref pP, .ref pH, .ref pK, .ref pD, .int nHand, .int nGiv, .int nCyc, .int nWai, .int nSw, .int nBeg, .int nOut, .ref pO, .int nRsel, .int nAluf, .int nBs, .int nF1, .int nF2, .int nSum, .int nSc])), (pI, .inl (cI, 1024, .inl gI)), (pC, .inl (cI, 256, .inl gC)), (pM, .inl (cI, 1024, .inl gM)), (pR, .inl (cI, 32, .inl gR)), (pP, .inl (cI, 16, .inl gP)), (pH, .inl (cI, 16, .inl gH)), (pK, .inl (cZ, 16, .inl gK)), (pD, .inl (cI, 16, .inl gD)), (pO, .inl (cI, 500, .inl gO))] nHand := by
  refine CtI.mk (cc := cX4_now) (maxL := 1) (ret := (some .int)) (by decide) rfl (Nat.le_of_ble_eq_true rfl) ?_
  intro p e s m below meth c A hBeg ls hl
  obtain ⟨hx, hb, hr, hml, hts0, hown, hlocks, hin, hA, hK, hP, hD, hS⟩ := hBeg
  have hts := fun w h => hts0 w (List.mem_cons_of_mem _ h)
  have hown : s.vm.findClass RX4 = some m.cls := hown
  have hl : lv_has ls 1 [(0, .ref qm)] := hl
  skip
  refine lv_aload_n hx hb dX4_now_0 rfl (lv_at hl 0 rfl) ?_
  refine va_get (D := D) (ci := 4) (v := .int nHand) (C := RX4) (T := TX4) (N := 28) hx hb hts ilX4 hown hK hP 0 rfl rfl 13 (by decide) (hts _ wf_X4_72) (fun _ h9 => h9) rfl dX4_now_1 ?_
  exact ct_iret hx hb hr hlocks hP hD hS rfl rfl dX4_now_4
def r_X4_out (gO : Nat → Int32) (nOut : Int32) (p0 : Int32) : Int32 := (if p0 < 0 then (-1) else (if nOut ≤ p0 then (-1) else (if 500 ≤ p0 then (-1) else gO (Int32.toNatClampNeg p0))))
set_option maxHeartbeats 4000000 in
set_option maxRecDepth 100000 in
theorem c_X4_out (l : Launch) (D : va_G) (cI cZ : ClassId) (qm : Nat) (pI : Nat) (pC : Nat) (pM : Nat) (pR : Nat) (pP : Nat) (pH : Nat) (pK : Nat) (pD : Nat) (pO : Nat) (gI : Nat → Int32) (gC : Nat → Int32) (gM : Nat → Int32) (gR : Nat → Int32) (gP : Nat → Int32) (gH : Nat → Int32) (gK : Nat → Int32) (gD : Nat → Int32) (gO : Nat → Int32) (nT : Int32) (nL : Int32) (nC : Int32) (nMar : Int32) (nIn : Int32) (nHand : Int32) (nGiv : Int32) (nCyc : Int32) (nWai : Int32) (nSw : Int32) (nBeg : Int32) (nOut : Int32) (nRsel : Int32) (nAluf : Int32) (nBs : Int32) (nF1 : Int32) (nF2 : Int32) (nSum : Int32) (nSc : Int32) (p0 : Int32) : CtI l D classes [(cI, .int), (cZ, .boolean)] yX4_out w_X4_out { frames := 0, cells := 0, slots := 0, locals := 0 } [.ref qm, .int p0] [(qm, .inr (4, [.ref pI, .ref pC, .ref pM, .ref pR, .int nT, .int nL, .int nC, .int nMar, .int nIn, .ref pP, .ref pH, .ref pK, .ref pD, .int nHand, .int nGiv, .int nCyc, .int nWai, .int nSw, .int nBeg, .int nOut, .ref pO, .int nRsel, .int nAluf, .int nBs, .int nF1, .int nF2, .int nSum, .int nSc])), (pI, .inl (cI, 1024, .inl gI)), (pC, .inl (cI, 256, .inl gC)), (pM, .inl (cI, 1024, .inl gM)), (pR, .inl (cI, 32, .inl gR)), (pP, .inl (cI, 16, .inl gP)), (pH, .inl (cI, 16, .inl gH)), (pK, .inl (cZ, 16, .inl gK)), (pD, .inl (cI, 16, .inl gD)), (pO, .inl (cI, 500, .inl gO))] [(qm, .inr (4, [.ref pI, .ref pC, .ref pM, .ref pR, .int nT, .int nL, .int nC, .int nMar, .int nIn, .ref pP, .ref pH, .ref pK, .ref pD, .int nHand, .int nGiv, .int nCyc, .int nWai, .int nSw, .int nBeg, .int nOut, .ref pO, .int nRsel, .int nAluf, .int nBs, .int nF1, .int nF2, .int nSum, .int nSc])), (pI, .inl (cI, 1024, .inl gI)), (pC, .inl (cI, 256, .inl gC)), (pM, .inl (cI, 1024, .inl gM)), (pR, .inl (cI, 32, .inl gR)), (pP, .inl (cI, 16, .inl gP)), (pH, .inl (cI, 16, .inl gH)), (pK, .inl (cZ, 16, .inl gK)), (pD, .inl (cI, 16, .inl gD)), (pO, .inl (cI, 500, .inl gO))] (r_X4_out gO nOut p0) := by
  refine CtI.mk (cc := cX4_out) (maxL := 2) (ret := (some .int)) (by decide) rfl (Nat.le_of_ble_eq_true rfl) ?_
  intro p e s m below meth c A hBeg ls hl
  obtain ⟨hx, hb, hr, hml, hts0, hown, hlocks, hin, hA, hK, hP, hD, hS⟩ := hBeg
  have hts := fun w h => hts0 w (List.mem_cons_of_mem _ h)
  have hown : s.vm.findClass RX4 = some m.cls := hown
  have hl : lv_has ls 2 [(0, .ref qm), (1, .int p0)] := hl
  skip
  refine lv_iload_n hx hb dX4_out_0 rfl (lv_at hl 1 rfl) ?_
  refine lv_if_lt (tgt := 28) hx hb dX4_out_1 (by decide) (fun c_1 => ?_) (fun c_1 => ?_)
  · skip
    refine lv_iconst (v := (-1)) hx hb dX4_out_28 (by decide) ?_
    have e_1 : r_X4_out gO nOut p0 = (-1) := by simp only [r_X4_out, if_pos c_1]
    exact ct_iret hx hb hr hlocks hP hD hS rfl (by rw [e_1]) dX4_out_29
  · skip
    refine lv_iload_n hx hb dX4_out_4 rfl (lv_at hl 1 rfl) ?_
    refine lv_aload_n hx hb dX4_out_5 rfl (lv_at hl 0 rfl) ?_
    refine va_get (D := D) (ci := 4) (v := .int nOut) (C := RX4) (T := TX4) (N := 28) hx hb hts ilX4 hown hK hP 0 rfl rfl 19 (by decide) (hts _ wf_X4_118) (fun _ h9 => h9) rfl dX4_out_6 ?_
    refine lv_icmp_ge (tgt := 28) hx hb dX4_out_9 (by decide) (fun c_2 => ?_) (fun c_2 => ?_)
    · skip
      refine lv_iconst (v := (-1)) hx hb dX4_out_28 (by decide) ?_
      have e_1 : r_X4_out gO nOut p0 = (-1) := by simp only [r_X4_out, if_neg c_1, if_pos c_2]
      exact ct_iret hx hb hr hlocks hP hD hS rfl (by rw [e_1]) dX4_out_29
    · skip
      refine lv_iload_n hx hb dX4_out_12 rfl (lv_at hl 1 rfl) ?_
      refine lv_sipush (v := 500) hx hb dX4_out_13 (by decide) ?_
      refine lv_icmp_ge (tgt := 28) hx hb dX4_out_16 (by decide) (fun c_3 => ?_) (fun c_3 => ?_)
      · skip
        refine lv_iconst (v := (-1)) hx hb dX4_out_28 (by decide) ?_
        have e_1 : r_X4_out gO nOut p0 = (-1) := by simp only [r_X4_out, if_neg c_1, if_neg c_2, if_pos c_3]
        exact ct_iret hx hb hr hlocks hP hD hS rfl (by rw [e_1]) dX4_out_29
      · skip
        refine lv_aload_n hx hb dX4_out_19 rfl (lv_at hl 0 rfl) ?_
        refine va_get (D := D) (ci := 4) (v := .ref pO) (C := RX4) (T := TX4) (N := 28) hx hb hts ilX4 hown hK hP 0 rfl rfl 20 (by decide) (hts _ wf_X4_39) (fun _ h9 => h9) rfl dX4_out_20 ?_
        refine lv_iload_n hx hb dX4_out_23 rfl (lv_at hl 1 rfl) ?_
        refine va_iald hx hb hK hP 9 0 rfl rfl (vp_of2 (y := 500) (by decide) c_1 c_3) dX4_out_24 ?_
        refine lv_goto (tgt := 29) hx hb dX4_out_25 (by decide) ?_
        have e_1 : r_X4_out gO nOut p0 = gO (Int32.toNatClampNeg p0) := by simp only [r_X4_out, if_neg c_1, if_neg c_2, if_neg c_3]
        exact ct_iret hx hb hr hlocks hP hD hS rfl (by rw [e_1]) dX4_out_29
def r_X4_count (nCyc : Int32) (nWai : Int32) (nSw : Int32) (nOut : Int32) (p0 : Int32) : Int32 := (if p0 = 0 then nCyc else (if p0 = 1 then nWai else (if p0 = 2 then nOut else (if p0 = 3 then nSw else (-1)))))
set_option maxHeartbeats 4000000 in
set_option maxRecDepth 100000 in
theorem c_X4_count (l : Launch) (D : va_G) (cI cZ : ClassId) (qm : Nat) (pI : Nat) (pC : Nat) (pM : Nat) (pR : Nat) (pP : Nat) (pH : Nat) (pK : Nat) (pD : Nat) (pO : Nat) (gI : Nat → Int32) (gC : Nat → Int32) (gM : Nat → Int32) (gR : Nat → Int32) (gP : Nat → Int32) (gH : Nat → Int32) (gK : Nat → Int32) (gD : Nat → Int32) (gO : Nat → Int32) (nT : Int32) (nL : Int32) (nC : Int32) (nMar : Int32) (nIn : Int32) (nHand : Int32) (nGiv : Int32) (nCyc : Int32) (nWai : Int32) (nSw : Int32) (nBeg : Int32) (nOut : Int32) (nRsel : Int32) (nAluf : Int32) (nBs : Int32) (nF1 : Int32) (nF2 : Int32) (nSum : Int32) (nSc : Int32) (p0 : Int32) : CtI l D classes [(cI, .int), (cZ, .boolean)] yX4_count w_X4_count { frames := 0, cells := 0, slots := 0, locals := 0 } [.ref qm, .int p0] [(qm, .inr (4, [.ref pI, .ref pC, .ref pM, .ref pR, .int nT, .int nL, .int nC, .int nMar, .int nIn, .ref pP, .ref pH, .ref pK, .ref pD, .int nHand, .int nGiv, .int nCyc, .int nWai, .int nSw, .int nBeg, .int nOut, .ref pO, .int nRsel, .int nAluf, .int nBs, .int nF1, .int nF2, .int nSum, .int nSc])), (pI, .inl (cI, 1024, .inl gI)), (pC, .inl (cI, 256, .inl gC)), (pM, .inl (cI, 1024, .inl gM)), (pR, .inl (cI, 32, .inl gR)), (pP, .inl (cI, 16, .inl gP)), (pH, .inl (cI, 16, .inl gH)), (pK, .inl (cZ, 16, .inl gK)), (pD, .inl (cI, 16, .inl gD)), (pO, .inl (cI, 500, .inl gO))] [(qm, .inr (4, [.ref pI, .ref pC, .ref pM, .ref pR, .int nT, .int nL, .int nC, .int nMar, .int nIn, .ref pP, .ref pH, .ref pK, .ref pD, .int nHand, .int nGiv, .int nCyc, .int nWai, .int nSw, .int nBeg, .int nOut, .ref pO, .int nRsel, .int nAluf, .int nBs, .int nF1, .int nF2, .int nSum, .int nSc])), (pI, .inl (cI, 1024, .inl gI)), (pC, .inl (cI, 256, .inl gC)), (pM, .inl (cI, 1024, .inl gM)), (pR, .inl (cI, 32, .inl gR)), (pP, .inl (cI, 16, .inl gP)), (pH, .inl (cI, 16, .inl gH)), (pK, .inl (cZ, 16, .inl gK)), (pD, .inl (cI, 16, .inl gD)), (pO, .inl (cI, 500, .inl gO))] (r_X4_count nCyc nWai nSw nOut p0) := by
  refine CtI.mk (cc := cX4_count) (maxL := 2) (ret := (some .int)) (by decide) rfl (Nat.le_of_ble_eq_true rfl) ?_
  intro p e s m below meth c A hBeg ls hl
  obtain ⟨hx, hb, hr, hml, hts0, hown, hlocks, hin, hA, hK, hP, hD, hS⟩ := hBeg
  have hts := fun w h => hts0 w (List.mem_cons_of_mem _ h)
  have hown : s.vm.findClass RX4 = some m.cls := hown
  have hl : lv_has ls 2 [(0, .ref qm), (1, .int p0)] := hl
  skip
  refine lv_iload_n hx hb dX4_count_0 rfl (lv_at hl 1 rfl) ?_
  by_cases s_1 : p0 = 0
  · skip
    refine lv_tableIn (tgt := 32) (off := 31) hx hb dX4_count_1 (by rw [s_1]; decide) (by rw [s_1]; decide) (by rw [s_1]; rfl) (by decide) ?_
    refine lv_aload_n hx hb dX4_count_32 rfl (lv_at hl 0 rfl) ?_
    refine va_get (D := D) (ci := 4) (v := .int nCyc) (C := RX4) (T := TX4) (N := 28) hx hb hts ilX4 hown hK hP 0 rfl rfl 15 (by decide) (hts _ wf_X4_56) (fun _ h9 => h9) rfl dX4_count_33 ?_
    have e_1 : r_X4_count nCyc nWai nSw nOut p0 = nCyc := by simp only [r_X4_count, if_pos s_1]
    exact ct_iret hx hb hr hlocks hP hD hS rfl (by rw [e_1]) dX4_count_36
  by_cases s_2 : p0 = 1
  · skip
    refine lv_tableIn (tgt := 37) (off := 36) hx hb dX4_count_1 (by rw [s_2]; decide) (by rw [s_2]; decide) (by rw [s_2]; rfl) (by decide) ?_
    refine lv_aload_n hx hb dX4_count_37 rfl (lv_at hl 0 rfl) ?_
    refine va_get (D := D) (ci := 4) (v := .int nWai) (C := RX4) (T := TX4) (N := 28) hx hb hts ilX4 hown hK hP 0 rfl rfl 16 (by decide) (hts _ wf_X4_131) (fun _ h9 => h9) rfl dX4_count_38 ?_
    have e_1 : r_X4_count nCyc nWai nSw nOut p0 = nWai := by simp only [r_X4_count, if_neg s_1, if_pos s_2]
    exact ct_iret hx hb hr hlocks hP hD hS rfl (by rw [e_1]) dX4_count_41
  by_cases s_3 : p0 = 2
  · skip
    refine lv_tableIn (tgt := 42) (off := 41) hx hb dX4_count_1 (by rw [s_3]; decide) (by rw [s_3]; decide) (by rw [s_3]; rfl) (by decide) ?_
    refine lv_aload_n hx hb dX4_count_42 rfl (lv_at hl 0 rfl) ?_
    refine va_get (D := D) (ci := 4) (v := .int nOut) (C := RX4) (T := TX4) (N := 28) hx hb hts ilX4 hown hK hP 0 rfl rfl 19 (by decide) (hts _ wf_X4_118) (fun _ h9 => h9) rfl dX4_count_43 ?_
    have e_1 : r_X4_count nCyc nWai nSw nOut p0 = nOut := by simp only [r_X4_count, if_neg s_1, if_neg s_2, if_pos s_3]
    exact ct_iret hx hb hr hlocks hP hD hS rfl (by rw [e_1]) dX4_count_46
  by_cases s_4 : p0 = 3
  · skip
    refine lv_tableIn (tgt := 47) (off := 46) hx hb dX4_count_1 (by rw [s_4]; decide) (by rw [s_4]; decide) (by rw [s_4]; rfl) (by decide) ?_
    refine lv_aload_n hx hb dX4_count_47 rfl (lv_at hl 0 rfl) ?_
    refine va_get (D := D) (ci := 4) (v := .int nSw) (C := RX4) (T := TX4) (N := 28) hx hb hts ilX4 hown hK hP 0 rfl rfl 17 (by decide) (hts _ wf_X4_125) (fun _ h9 => h9) rfl dX4_count_48 ?_
    have e_1 : r_X4_count nCyc nWai nSw nOut p0 = nSw := by simp only [r_X4_count, if_neg s_1, if_neg s_2, if_neg s_3, if_pos s_4]
    exact ct_iret hx hb hr hlocks hP hD hS rfl (by rw [e_1]) dX4_count_51
  refine lv_tableOut (tgt := 52) hx hb dX4_count_1 (by have h_s_1 := lv_neT (k := 0) (a := 0) s_1 (by decide); have h_s_2 := lv_neT (k := 1) (a := 1) s_2 (by decide); have h_s_3 := lv_neT (k := 2) (a := 2) s_3 (by decide); have h_s_4 := lv_neT (k := 3) (a := 3) s_4 (by decide); omega) (by decide) ?_
  refine lv_iconst (v := (-1)) hx hb dX4_count_52 (by decide) ?_
  have e_1 : r_X4_count nCyc nWai nSw nOut p0 = (-1) := by simp only [r_X4_count, if_neg s_1, if_neg s_2, if_neg s_3, if_neg s_4]
  exact ct_iret hx hb hr hlocks hP hD hS rfl (by rw [e_1]) dX4_count_53
end
