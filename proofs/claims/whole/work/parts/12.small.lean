section
set_option maxHeartbeats 4000000 in
set_option maxRecDepth 100000 in
theorem c_X3_init (l : Launch) (D : va_G) (cI cZ : ClassId) (qx : Nat) (rT : Int32) (rL : Int32) (rC : Int32) (rIn : Int32) (cyc : Int32) (wai : Int32) : CtV l D classes [(cI, .int), (cZ, .boolean)] yX3_init w_X3_init { frames := 2, cells := 12, slots := 2913, locals := 32 } [.ref qx] [(qx, .inr (3, [.null, .null, .null, .null, .null, .null, .int rT, .int rL, .int rC, .int rIn, .int cyc, .int wai]))] (fun (u : Nat × Nat × Nat × Nat × Nat × Nat × Nat × Nat × Nat × Nat × Nat × Nat) => match u with | (qR, qC, qI, qM, qW, qT, qp, qc, qd, qk, qO, qo) => [(qx, .inr (3, [.ref qR, .ref qC, .ref qI, .ref qM, .ref qT, .ref qO, .int rT, .int rL, .int rC, .int rIn, .int cyc, .int wai])), (qR, .inl (cI, 32, .inl (fun _ => 0))), (qC, .inl (cI, 256, .inl (fun _ => 0))), (qI, .inl (cI, 1024, .inl (fun _ => 0))), (qM, .inr (0, [.ref qW, .int 0, .int 5])), (qW, .inl (cI, 1024, .inl (fun _ => 0))), (qT, .inr (2, [.ref qp, .ref qc, .ref qd, .ref qk, .int 0, .int 0, .int 0])), (qp, .inl (cI, 16, .inl (fun _ => 0))), (qc, .inl (cI, 16, .inl (fun _ => 0))), (qd, .inl (cI, 16, .inl (fun _ => 0))), (qk, .inl (cZ, 16, .inl (upd (fun _ => 0) (Int32.toNatClampNeg 0) 1))), (qO, .inr (1, [.ref qo, .int 0, .int 0])), (qo, .inl (cI, 500, .inl (fun _ => 0)))]) 12 2913 := by
  refine CtV.mk (cc := cX3_init) (maxL := 1) (ret := none) (by decide) rfl (Nat.le_of_ble_eq_true rfl) ?_
  intro p e s m below meth c A hBeg ls hl
  obtain ⟨hx, hb, hr, hml, hts0, hown, hlocks, hin, hA, hK, hP, hD, hS⟩ := hBeg
  have hts := fun w h => hts0 w (List.mem_cons_of_mem _ h)
  have hown : s.vm.findClass RX3 = some m.cls := hown
  have hl : lv_has ls 1 [(0, .ref qx)] := hl
  skip
  refine lv_aload_n hx hb dX3_init_0 rfl (lv_at hl 0 rfl) ?_
  refine W.objInit hx hb hown (hts _ wm_X3_3) (hts _ wi_obj) (hts _ wo_obj) rfl (by rw [hml]; exact hl.1) rfl dX3_init_1 (Nat.le_of_ble_eq_true rfl) (Nat.le_of_ble_eq_true rfl) ?_
  refine W.eq (g2 := F0 m 4 ls []) rfl ?_
  refine lv_aload_n hx hb dX3_init_4 rfl (lv_at hl 0 rfl) ?_
  refine lv_bipush (v := 32) hx hb dX3_init_5 (by decide) ?_
  refine va_newa (atype := .int) (ty := .int) (N' := 32) (a0 := (32, .inl (fun _ => 0))) hx hb (hts _ wa_int) rfl hK hP hD hS hA (fun _ => rfl) (by decide) (by decide) (by decide) (Nat.le_of_ble_eq_true rfl) (Nat.le_of_ble_eq_true rfl) dX3_init_7 (fun q1 cA1 H hK1 hP hD hS => ?_)
  have hcA : cI = cA1 := Option.some.inj ((va_nm_int (hK.2 0 (cI, .int) rfl).2).symm.trans (va_nm_int (hK1.2 2 (cA1, .int) rfl).2))
  subst hcA
  clear hK1
  have hP : va_P D classes [(qx, .inr (3, [.null, .null, .null, .null, .null, .null, .int rT, .int rL, .int rC, .int rIn, .int cyc, .int wai])), (q1, .inl (cI, 32, .inl (fun _ => 0)))] H := hP
  have hD : va_D A [(qx, .inr (3, [.null, .null, .null, .null, .null, .null, .int rT, .int rL, .int rC, .int rIn, .int cyc, .int wai])), (q1, .inl (cI, 32, .inl (fun _ => 0)))] := hD
  refine W.widen (k := 1) (n := 32) (by omega) (by omega) ?_
  refine va_putF (D := D) (ci := 3) (v := .ref q1) (ty := (.array .int)) (C := RX3) (T := TX3) (N := 12) hx hb hts ilX3 tyX3 tyX3_ok nmX3 hown hK hP hD hS 0 rfl rfl 0 (by decide) (hts _ wf_X3_9) (fun _ h9 => h9) rfl hin rfl (by decide +kernel) rfl rfl (Nat.le_of_ble_eq_true rfl) dX3_init_9 (fun H locs hP hD hS => ?_)
  have hP : va_P D classes [(qx, .inr (3, [.ref q1, .null, .null, .null, .null, .null, .int rT, .int rL, .int rC, .int rIn, .int cyc, .int wai])), (q1, .inl (cI, 32, .inl (fun _ => 0)))] H := hP
  have hD : va_D A [(qx, .inr (3, [.ref q1, .null, .null, .null, .null, .null, .int rT, .int rL, .int rC, .int rIn, .int cyc, .int wai])), (q1, .inl (cI, 32, .inl (fun _ => 0)))] := hD
  refine lv_aload_n hx hb dX3_init_12 rfl (lv_at hl 0 rfl) ?_
  refine lv_sipush (v := 256) hx hb dX3_init_13 (by decide) ?_
  refine va_newa (atype := .int) (ty := .int) (N' := 256) (a0 := (256, .inl (fun _ => 0))) hx hb (hts _ wa_int) rfl hK hP hD hS hA (fun _ => rfl) (by decide) (by decide) (by decide) (Nat.le_of_ble_eq_true rfl) (Nat.le_of_ble_eq_true rfl) dX3_init_16 (fun q2 cA2 H hK1 hP hD hS => ?_)
  have hcA : cI = cA2 := Option.some.inj ((va_nm_int (hK.2 0 (cI, .int) rfl).2).symm.trans (va_nm_int (hK1.2 2 (cA2, .int) rfl).2))
  subst hcA
  clear hK1
  have hP : va_P D classes [(qx, .inr (3, [.ref q1, .null, .null, .null, .null, .null, .int rT, .int rL, .int rC, .int rIn, .int cyc, .int wai])), (q1, .inl (cI, 32, .inl (fun _ => 0))), (q2, .inl (cI, 256, .inl (fun _ => 0)))] H := hP
  have hD : va_D A [(qx, .inr (3, [.ref q1, .null, .null, .null, .null, .null, .int rT, .int rL, .int rC, .int rIn, .int cyc, .int wai])), (q1, .inl (cI, 32, .inl (fun _ => 0))), (q2, .inl (cI, 256, .inl (fun _ => 0)))] := hD
  refine W.widen (k := 2) (n := 288) (by omega) (by omega) ?_
  refine va_putF (D := D) (ci := 3) (v := .ref q2) (ty := (.array .int)) (C := RX3) (T := TX3) (N := 12) hx hb hts ilX3 tyX3 tyX3_ok nmX3 hown hK hP hD hS 0 rfl rfl 1 (by decide) (hts _ wf_X3_13) (fun _ h9 => h9) rfl hin rfl (by decide +kernel) rfl rfl (Nat.le_of_ble_eq_true rfl) dX3_init_18 (fun H locs hP hD hS => ?_)
  have hP : va_P D classes [(qx, .inr (3, [.ref q1, .ref q2, .null, .null, .null, .null, .int rT, .int rL, .int rC, .int rIn, .int cyc, .int wai])), (q1, .inl (cI, 32, .inl (fun _ => 0))), (q2, .inl (cI, 256, .inl (fun _ => 0)))] H := hP
  have hD : va_D A [(qx, .inr (3, [.ref q1, .ref q2, .null, .null, .null, .null, .int rT, .int rL, .int rC, .int rIn, .int cyc, .int wai])), (q1, .inl (cI, 32, .inl (fun _ => 0))), (q2, .inl (cI, 256, .inl (fun _ => 0)))] := hD
  refine lv_aload_n hx hb dX3_init_21 rfl (lv_at hl 0 rfl) ?_
  refine lv_sipush (v := 1024) hx hb dX3_init_22 (by decide) ?_
  refine va_newa (atype := .int) (ty := .int) (N' := 1024) (a0 := (1024, .inl (fun _ => 0))) hx hb (hts _ wa_int) rfl hK hP hD hS hA (fun _ => rfl) (by decide) (by decide) (by decide) (Nat.le_of_ble_eq_true rfl) (Nat.le_of_ble_eq_true rfl) dX3_init_25 (fun q3 cA3 H hK1 hP hD hS => ?_)
  have hcA : cI = cA3 := Option.some.inj ((va_nm_int (hK.2 0 (cI, .int) rfl).2).symm.trans (va_nm_int (hK1.2 2 (cA3, .int) rfl).2))
  subst hcA
  clear hK1
  have hP : va_P D classes [(qx, .inr (3, [.ref q1, .ref q2, .null, .null, .null, .null, .int rT, .int rL, .int rC, .int rIn, .int cyc, .int wai])), (q1, .inl (cI, 32, .inl (fun _ => 0))), (q2, .inl (cI, 256, .inl (fun _ => 0))), (q3, .inl (cI, 1024, .inl (fun _ => 0)))] H := hP
  have hD : va_D A [(qx, .inr (3, [.ref q1, .ref q2, .null, .null, .null, .null, .int rT, .int rL, .int rC, .int rIn, .int cyc, .int wai])), (q1, .inl (cI, 32, .inl (fun _ => 0))), (q2, .inl (cI, 256, .inl (fun _ => 0))), (q3, .inl (cI, 1024, .inl (fun _ => 0)))] := hD
  refine W.widen (k := 3) (n := 1312) (by omega) (by omega) ?_
  refine va_putF (D := D) (ci := 3) (v := .ref q3) (ty := (.array .int)) (C := RX3) (T := TX3) (N := 12) hx hb hts ilX3 tyX3 tyX3_ok nmX3 hown hK hP hD hS 0 rfl rfl 2 (by decide) (hts _ wf_X3_16) (fun _ h9 => h9) rfl hin rfl (by decide +kernel) rfl rfl (Nat.le_of_ble_eq_true rfl) dX3_init_27 (fun H locs hP hD hS => ?_)
  have hP : va_P D classes [(qx, .inr (3, [.ref q1, .ref q2, .ref q3, .null, .null, .null, .int rT, .int rL, .int rC, .int rIn, .int cyc, .int wai])), (q1, .inl (cI, 32, .inl (fun _ => 0))), (q2, .inl (cI, 256, .inl (fun _ => 0))), (q3, .inl (cI, 1024, .inl (fun _ => 0)))] H := hP
  have hD : va_D A [(qx, .inr (3, [.ref q1, .ref q2, .ref q3, .null, .null, .null, .int rT, .int rL, .int rC, .int rIn, .int cyc, .int wai])), (q1, .inl (cI, 32, .inl (fun _ => 0))), (q2, .inl (cI, 256, .inl (fun _ => 0))), (q3, .inl (cI, 1024, .inl (fun _ => 0)))] := hD
  refine lv_aload_n hx hb dX3_init_30 rfl (lv_at hl 0 rfl) ?_
  refine va_new (ci := 0) (fs := [.null, .int 0, .int 0]) (C := RX0) (T := TX0) (N := 3) hx hb hts ilX0 tyX0 tyX0_ok hown (hts _ wc_X3_19) (hts _ wn_X0) (hts _ wz_X0) hK hP hD hS hA rfl (fun j hj => by rcases (show j = 0 ∨ j = 1 ∨ j = 2 by omega) with rfl | rfl | rfl <;> rfl) (Nat.le_of_ble_eq_true rfl) (Nat.le_of_ble_eq_true rfl) dX3_init_31 (fun q4 H hP hD hS => ?_)
  have hP : va_P D classes [(qx, .inr (3, [.ref q1, .ref q2, .ref q3, .null, .null, .null, .int rT, .int rL, .int rC, .int rIn, .int cyc, .int wai])), (q1, .inl (cI, 32, .inl (fun _ => 0))), (q2, .inl (cI, 256, .inl (fun _ => 0))), (q3, .inl (cI, 1024, .inl (fun _ => 0))), (q4, .inr (0, [.null, .int 0, .int 0]))] H := hP
  have hD : va_D A [(qx, .inr (3, [.ref q1, .ref q2, .ref q3, .null, .null, .null, .int rT, .int rL, .int rC, .int rIn, .int cyc, .int wai])), (q1, .inl (cI, 32, .inl (fun _ => 0))), (q2, .inl (cI, 256, .inl (fun _ => 0))), (q3, .inl (cI, 1024, .inl (fun _ => 0))), (q4, .inr (0, [.null, .int 0, .int 0]))] := hD
  refine W.widen (k := 4) (n := 1315) (by omega) (by omega) ?_
  refine lv_dup hx hb dX3_init_34 rfl ?_
  refine ctV_I (As := []) (rest := [.ref q4, .ref qx]) (wc := [(q4, .inr (0, [.null, .int 0, .int 0]))]) (wr := [(qx, .inr (3, [.ref q1, .ref q2, .ref q3, .null, .null, .null, .int rT, .int rL, .int rC, .int rIn, .int cyc, .int wai])), (q1, .inl (cI, 32, .inl (fun _ => 0))), (q2, .inl (cI, 256, .inl (fun _ => 0))), (q3, .inl (cI, 1024, .inl (fun _ => 0)))]) ⟨hx, hb, hml, hown, hts⟩ (c_X0_init l D cI cZ q4 0 0) (cwI 0 hts (gd_C wo_X0_init) rfl rfl rfl (hts _ wz_X0) (hts _ wm_X3_21) (hts _ wi_X0_init) rfl (by decide +kernel) ⟨Nat.le_of_ble_eq_true rfl, Nat.le_of_ble_eq_true rfl⟩) hK hP hD hS hA [4] [0, 1, 2, 3] rfl rfl (by decide) (by decide) (by decide) rfl rfl hl.1 (Nat.le_of_ble_eq_true rfl) dX3_init_35 ⟨Nat.le_of_ble_eq_true rfl, Nat.le_of_ble_eq_true rfl⟩ (fun u H locs hP hD hS => ?_)
  obtain ⟨q5, rfl⟩ : ∃ z, z = u := ⟨_, rfl⟩
  have hP : va_P D classes [(qx, .inr (3, [.ref q1, .ref q2, .ref q3, .null, .null, .null, .int rT, .int rL, .int rC, .int rIn, .int cyc, .int wai])), (q1, .inl (cI, 32, .inl (fun _ => 0))), (q2, .inl (cI, 256, .inl (fun _ => 0))), (q3, .inl (cI, 1024, .inl (fun _ => 0))), (q4, .inr (0, [.ref q5, .int 0, .int 5])), (q5, .inl (cI, 1024, .inl (fun _ => 0)))] H := hP
  have hD : va_D A [(qx, .inr (3, [.ref q1, .ref q2, .ref q3, .null, .null, .null, .int rT, .int rL, .int rC, .int rIn, .int cyc, .int wai])), (q1, .inl (cI, 32, .inl (fun _ => 0))), (q2, .inl (cI, 256, .inl (fun _ => 0))), (q3, .inl (cI, 1024, .inl (fun _ => 0))), (q4, .inr (0, [.ref q5, .int 0, .int 5])), (q5, .inl (cI, 1024, .inl (fun _ => 0)))] := hD
  refine W.widen (k := 5) (n := 2339) (by omega) (by omega) ?_
  refine va_putF (D := D) (ci := 3) (v := .ref q4) (ty := (.object "MicroTasks$Memory")) (C := RX3) (T := TX3) (N := 12) hx hb hts ilX3 tyX3 tyX3_ok nmX3 hown hK hP hD hS 0 rfl rfl 3 (by decide) (hts _ wf_X3_22) (fun _ h9 => h9) rfl hin rfl (by decide +kernel) rfl rfl (Nat.le_of_ble_eq_true rfl) dX3_init_38 (fun H locs hP hD hS => ?_)
  have hP : va_P D classes [(qx, .inr (3, [.ref q1, .ref q2, .ref q3, .ref q4, .null, .null, .int rT, .int rL, .int rC, .int rIn, .int cyc, .int wai])), (q1, .inl (cI, 32, .inl (fun _ => 0))), (q2, .inl (cI, 256, .inl (fun _ => 0))), (q3, .inl (cI, 1024, .inl (fun _ => 0))), (q4, .inr (0, [.ref q5, .int 0, .int 5])), (q5, .inl (cI, 1024, .inl (fun _ => 0)))] H := hP
  have hD : va_D A [(qx, .inr (3, [.ref q1, .ref q2, .ref q3, .ref q4, .null, .null, .int rT, .int rL, .int rC, .int rIn, .int cyc, .int wai])), (q1, .inl (cI, 32, .inl (fun _ => 0))), (q2, .inl (cI, 256, .inl (fun _ => 0))), (q3, .inl (cI, 1024, .inl (fun _ => 0))), (q4, .inr (0, [.ref q5, .int 0, .int 5])), (q5, .inl (cI, 1024, .inl (fun _ => 0)))] := hD
  refine lv_aload_n hx hb dX3_init_41 rfl (lv_at hl 0 rfl) ?_
  refine va_new (ci := 2) (fs := [.null, .null, .null, .null, .int 0, .int 0, .int 0]) (C := RX2) (T := TX2) (N := 7) hx hb hts ilX2 tyX2 tyX2_ok hown (hts _ wc_X3_26) (hts _ wn_X2) (hts _ wz_X2) hK hP hD hS hA rfl (fun j hj => by rcases (show j = 0 ∨ j = 1 ∨ j = 2 ∨ j = 3 ∨ j = 4 ∨ j = 5 ∨ j = 6 by omega) with rfl | rfl | rfl | rfl | rfl | rfl | rfl <;> rfl) (Nat.le_of_ble_eq_true rfl) (Nat.le_of_ble_eq_true rfl) dX3_init_42 (fun q6 H hP hD hS => ?_)
  have hP : va_P D classes [(qx, .inr (3, [.ref q1, .ref q2, .ref q3, .ref q4, .null, .null, .int rT, .int rL, .int rC, .int rIn, .int cyc, .int wai])), (q1, .inl (cI, 32, .inl (fun _ => 0))), (q2, .inl (cI, 256, .inl (fun _ => 0))), (q3, .inl (cI, 1024, .inl (fun _ => 0))), (q4, .inr (0, [.ref q5, .int 0, .int 5])), (q5, .inl (cI, 1024, .inl (fun _ => 0))), (q6, .inr (2, [.null, .null, .null, .null, .int 0, .int 0, .int 0]))] H := hP
  have hD : va_D A [(qx, .inr (3, [.ref q1, .ref q2, .ref q3, .ref q4, .null, .null, .int rT, .int rL, .int rC, .int rIn, .int cyc, .int wai])), (q1, .inl (cI, 32, .inl (fun _ => 0))), (q2, .inl (cI, 256, .inl (fun _ => 0))), (q3, .inl (cI, 1024, .inl (fun _ => 0))), (q4, .inr (0, [.ref q5, .int 0, .int 5])), (q5, .inl (cI, 1024, .inl (fun _ => 0))), (q6, .inr (2, [.null, .null, .null, .null, .int 0, .int 0, .int 0]))] := hD
  refine W.widen (k := 6) (n := 2346) (by omega) (by omega) ?_
  refine lv_dup hx hb dX3_init_45 rfl ?_
  refine ctV_I (As := []) (rest := [.ref q6, .ref qx]) (wc := [(q6, .inr (2, [.null, .null, .null, .null, .int 0, .int 0, .int 0]))]) (wr := [(qx, .inr (3, [.ref q1, .ref q2, .ref q3, .ref q4, .null, .null, .int rT, .int rL, .int rC, .int rIn, .int cyc, .int wai])), (q1, .inl (cI, 32, .inl (fun _ => 0))), (q2, .inl (cI, 256, .inl (fun _ => 0))), (q3, .inl (cI, 1024, .inl (fun _ => 0))), (q4, .inr (0, [.ref q5, .int 0, .int 5])), (q5, .inl (cI, 1024, .inl (fun _ => 0)))]) ⟨hx, hb, hml, hown, hts⟩ (c_X2_init l D cI cZ q6 0 0 0) (cwI 0 hts (gd_C wo_X2_init) rfl rfl rfl (hts _ wz_X2) (hts _ wm_X3_28) (hts _ wi_X2_init) rfl (by decide +kernel) ⟨Nat.le_of_ble_eq_true rfl, Nat.le_of_ble_eq_true rfl⟩) hK hP hD hS hA [6] [0, 1, 2, 3, 4, 5] rfl rfl (by decide) (by decide) (by decide) rfl rfl hl.1 (Nat.le_of_ble_eq_true rfl) dX3_init_46 ⟨Nat.le_of_ble_eq_true rfl, Nat.le_of_ble_eq_true rfl⟩ (fun u H locs hP hD hS => ?_)
  obtain ⟨q7, q8, q9, q10⟩ := u
  have hP : va_P D classes [(qx, .inr (3, [.ref q1, .ref q2, .ref q3, .ref q4, .null, .null, .int rT, .int rL, .int rC, .int rIn, .int cyc, .int wai])), (q1, .inl (cI, 32, .inl (fun _ => 0))), (q2, .inl (cI, 256, .inl (fun _ => 0))), (q3, .inl (cI, 1024, .inl (fun _ => 0))), (q4, .inr (0, [.ref q5, .int 0, .int 5])), (q5, .inl (cI, 1024, .inl (fun _ => 0))), (q6, .inr (2, [.ref q7, .ref q8, .ref q9, .ref q10, .int 0, .int 0, .int 0])), (q7, .inl (cI, 16, .inl (fun _ => 0))), (q8, .inl (cI, 16, .inl (fun _ => 0))), (q9, .inl (cI, 16, .inl (fun _ => 0))), (q10, .inl (cZ, 16, .inl (upd (fun _ => 0) (Int32.toNatClampNeg 0) 1)))] H := hP
  have hD : va_D A [(qx, .inr (3, [.ref q1, .ref q2, .ref q3, .ref q4, .null, .null, .int rT, .int rL, .int rC, .int rIn, .int cyc, .int wai])), (q1, .inl (cI, 32, .inl (fun _ => 0))), (q2, .inl (cI, 256, .inl (fun _ => 0))), (q3, .inl (cI, 1024, .inl (fun _ => 0))), (q4, .inr (0, [.ref q5, .int 0, .int 5])), (q5, .inl (cI, 1024, .inl (fun _ => 0))), (q6, .inr (2, [.ref q7, .ref q8, .ref q9, .ref q10, .int 0, .int 0, .int 0])), (q7, .inl (cI, 16, .inl (fun _ => 0))), (q8, .inl (cI, 16, .inl (fun _ => 0))), (q9, .inl (cI, 16, .inl (fun _ => 0))), (q10, .inl (cZ, 16, .inl (upd (fun _ => 0) (Int32.toNatClampNeg 0) 1)))] := hD
  refine W.widen (k := 10) (n := 2410) (by omega) (by omega) ?_
  refine va_putF (D := D) (ci := 3) (v := .ref q6) (ty := (.object "MicroTasks$Tasks")) (C := RX3) (T := TX3) (N := 12) hx hb hts ilX3 tyX3 tyX3_ok nmX3 hown hK hP hD hS 0 rfl rfl 4 (by decide) (hts _ wf_X3_29) (fun _ h9 => h9) rfl hin rfl (by decide +kernel) rfl rfl (Nat.le_of_ble_eq_true rfl) dX3_init_49 (fun H locs hP hD hS => ?_)
  have hP : va_P D classes [(qx, .inr (3, [.ref q1, .ref q2, .ref q3, .ref q4, .ref q6, .null, .int rT, .int rL, .int rC, .int rIn, .int cyc, .int wai])), (q1, .inl (cI, 32, .inl (fun _ => 0))), (q2, .inl (cI, 256, .inl (fun _ => 0))), (q3, .inl (cI, 1024, .inl (fun _ => 0))), (q4, .inr (0, [.ref q5, .int 0, .int 5])), (q5, .inl (cI, 1024, .inl (fun _ => 0))), (q6, .inr (2, [.ref q7, .ref q8, .ref q9, .ref q10, .int 0, .int 0, .int 0])), (q7, .inl (cI, 16, .inl (fun _ => 0))), (q8, .inl (cI, 16, .inl (fun _ => 0))), (q9, .inl (cI, 16, .inl (fun _ => 0))), (q10, .inl (cZ, 16, .inl (upd (fun _ => 0) (Int32.toNatClampNeg 0) 1)))] H := hP
  have hD : va_D A [(qx, .inr (3, [.ref q1, .ref q2, .ref q3, .ref q4, .ref q6, .null, .int rT, .int rL, .int rC, .int rIn, .int cyc, .int wai])), (q1, .inl (cI, 32, .inl (fun _ => 0))), (q2, .inl (cI, 256, .inl (fun _ => 0))), (q3, .inl (cI, 1024, .inl (fun _ => 0))), (q4, .inr (0, [.ref q5, .int 0, .int 5])), (q5, .inl (cI, 1024, .inl (fun _ => 0))), (q6, .inr (2, [.ref q7, .ref q8, .ref q9, .ref q10, .int 0, .int 0, .int 0])), (q7, .inl (cI, 16, .inl (fun _ => 0))), (q8, .inl (cI, 16, .inl (fun _ => 0))), (q9, .inl (cI, 16, .inl (fun _ => 0))), (q10, .inl (cZ, 16, .inl (upd (fun _ => 0) (Int32.toNatClampNeg 0) 1)))] := hD
  refine lv_aload_n hx hb dX3_init_52 rfl (lv_at hl 0 rfl) ?_
  refine va_new (ci := 1) (fs := [.null, .int 0, .int 0]) (C := RX1) (T := TX1) (N := 3) hx hb hts ilX1 tyX1 tyX1_ok hown (hts _ wc_X3_33) (hts _ wn_X1) (hts _ wz_X1) hK hP hD hS hA rfl (fun j hj => by rcases (show j = 0 ∨ j = 1 ∨ j = 2 by omega) with rfl | rfl | rfl <;> rfl) (Nat.le_of_ble_eq_true rfl) (Nat.le_of_ble_eq_true rfl) dX3_init_53 (fun q11 H hP hD hS => ?_)
  have hP : va_P D classes [(qx, .inr (3, [.ref q1, .ref q2, .ref q3, .ref q4, .ref q6, .null, .int rT, .int rL, .int rC, .int rIn, .int cyc, .int wai])), (q1, .inl (cI, 32, .inl (fun _ => 0))), (q2, .inl (cI, 256, .inl (fun _ => 0))), (q3, .inl (cI, 1024, .inl (fun _ => 0))), (q4, .inr (0, [.ref q5, .int 0, .int 5])), (q5, .inl (cI, 1024, .inl (fun _ => 0))), (q6, .inr (2, [.ref q7, .ref q8, .ref q9, .ref q10, .int 0, .int 0, .int 0])), (q7, .inl (cI, 16, .inl (fun _ => 0))), (q8, .inl (cI, 16, .inl (fun _ => 0))), (q9, .inl (cI, 16, .inl (fun _ => 0))), (q10, .inl (cZ, 16, .inl (upd (fun _ => 0) (Int32.toNatClampNeg 0) 1))), (q11, .inr (1, [.null, .int 0, .int 0]))] H := hP
  have hD : va_D A [(qx, .inr (3, [.ref q1, .ref q2, .ref q3, .ref q4, .ref q6, .null, .int rT, .int rL, .int rC, .int rIn, .int cyc, .int wai])), (q1, .inl (cI, 32, .inl (fun _ => 0))), (q2, .inl (cI, 256, .inl (fun _ => 0))), (q3, .inl (cI, 1024, .inl (fun _ => 0))), (q4, .inr (0, [.ref q5, .int 0, .int 5])), (q5, .inl (cI, 1024, .inl (fun _ => 0))), (q6, .inr (2, [.ref q7, .ref q8, .ref q9, .ref q10, .int 0, .int 0, .int 0])), (q7, .inl (cI, 16, .inl (fun _ => 0))), (q8, .inl (cI, 16, .inl (fun _ => 0))), (q9, .inl (cI, 16, .inl (fun _ => 0))), (q10, .inl (cZ, 16, .inl (upd (fun _ => 0) (Int32.toNatClampNeg 0) 1))), (q11, .inr (1, [.null, .int 0, .int 0]))] := hD
  refine W.widen (k := 11) (n := 2413) (by omega) (by omega) ?_
  refine lv_dup hx hb dX3_init_56 rfl ?_
  refine ctV_I (As := []) (rest := [.ref q11, .ref qx]) (wc := [(q11, .inr (1, [.null, .int 0, .int 0]))]) (wr := [(qx, .inr (3, [.ref q1, .ref q2, .ref q3, .ref q4, .ref q6, .null, .int rT, .int rL, .int rC, .int rIn, .int cyc, .int wai])), (q1, .inl (cI, 32, .inl (fun _ => 0))), (q2, .inl (cI, 256, .inl (fun _ => 0))), (q3, .inl (cI, 1024, .inl (fun _ => 0))), (q4, .inr (0, [.ref q5, .int 0, .int 5])), (q5, .inl (cI, 1024, .inl (fun _ => 0))), (q6, .inr (2, [.ref q7, .ref q8, .ref q9, .ref q10, .int 0, .int 0, .int 0])), (q7, .inl (cI, 16, .inl (fun _ => 0))), (q8, .inl (cI, 16, .inl (fun _ => 0))), (q9, .inl (cI, 16, .inl (fun _ => 0))), (q10, .inl (cZ, 16, .inl (upd (fun _ => 0) (Int32.toNatClampNeg 0) 1)))]) ⟨hx, hb, hml, hown, hts⟩ (c_X1_init l D cI cZ q11 0 0) (cwI 0 hts (gd_C wo_X1_init) rfl rfl rfl (hts _ wz_X1) (hts _ wm_X3_35) (hts _ wi_X1_init) rfl (by decide +kernel) ⟨Nat.le_of_ble_eq_true rfl, Nat.le_of_ble_eq_true rfl⟩) hK hP hD hS hA [11] [0, 1, 2, 3, 4, 5, 6, 7, 8, 9, 10] rfl rfl (by decide) (by decide) (by decide) rfl rfl hl.1 (Nat.le_of_ble_eq_true rfl) dX3_init_57 ⟨Nat.le_of_ble_eq_true rfl, Nat.le_of_ble_eq_true rfl⟩ (fun u H locs hP hD hS => ?_)
  obtain ⟨q12, rfl⟩ : ∃ z, z = u := ⟨_, rfl⟩
  have hP : va_P D classes [(qx, .inr (3, [.ref q1, .ref q2, .ref q3, .ref q4, .ref q6, .null, .int rT, .int rL, .int rC, .int rIn, .int cyc, .int wai])), (q1, .inl (cI, 32, .inl (fun _ => 0))), (q2, .inl (cI, 256, .inl (fun _ => 0))), (q3, .inl (cI, 1024, .inl (fun _ => 0))), (q4, .inr (0, [.ref q5, .int 0, .int 5])), (q5, .inl (cI, 1024, .inl (fun _ => 0))), (q6, .inr (2, [.ref q7, .ref q8, .ref q9, .ref q10, .int 0, .int 0, .int 0])), (q7, .inl (cI, 16, .inl (fun _ => 0))), (q8, .inl (cI, 16, .inl (fun _ => 0))), (q9, .inl (cI, 16, .inl (fun _ => 0))), (q10, .inl (cZ, 16, .inl (upd (fun _ => 0) (Int32.toNatClampNeg 0) 1))), (q11, .inr (1, [.ref q12, .int 0, .int 0])), (q12, .inl (cI, 500, .inl (fun _ => 0)))] H := hP
  have hD : va_D A [(qx, .inr (3, [.ref q1, .ref q2, .ref q3, .ref q4, .ref q6, .null, .int rT, .int rL, .int rC, .int rIn, .int cyc, .int wai])), (q1, .inl (cI, 32, .inl (fun _ => 0))), (q2, .inl (cI, 256, .inl (fun _ => 0))), (q3, .inl (cI, 1024, .inl (fun _ => 0))), (q4, .inr (0, [.ref q5, .int 0, .int 5])), (q5, .inl (cI, 1024, .inl (fun _ => 0))), (q6, .inr (2, [.ref q7, .ref q8, .ref q9, .ref q10, .int 0, .int 0, .int 0])), (q7, .inl (cI, 16, .inl (fun _ => 0))), (q8, .inl (cI, 16, .inl (fun _ => 0))), (q9, .inl (cI, 16, .inl (fun _ => 0))), (q10, .inl (cZ, 16, .inl (upd (fun _ => 0) (Int32.toNatClampNeg 0) 1))), (q11, .inr (1, [.ref q12, .int 0, .int 0])), (q12, .inl (cI, 500, .inl (fun _ => 0)))] := hD
  refine W.widen (k := 12) (n := 2913) (by omega) (by omega) ?_
  refine va_putF (D := D) (ci := 3) (v := .ref q11) (ty := (.object "MicroTasks$Output")) (C := RX3) (T := TX3) (N := 12) hx hb hts ilX3 tyX3 tyX3_ok nmX3 hown hK hP hD hS 0 rfl rfl 5 (by decide) (hts _ wf_X3_36) (fun _ h9 => h9) rfl hin rfl (by decide +kernel) rfl rfl (Nat.le_of_ble_eq_true rfl) dX3_init_60 (fun H locs hP hD hS => ?_)
  have hP : va_P D classes [(qx, .inr (3, [.ref q1, .ref q2, .ref q3, .ref q4, .ref q6, .ref q11, .int rT, .int rL, .int rC, .int rIn, .int cyc, .int wai])), (q1, .inl (cI, 32, .inl (fun _ => 0))), (q2, .inl (cI, 256, .inl (fun _ => 0))), (q3, .inl (cI, 1024, .inl (fun _ => 0))), (q4, .inr (0, [.ref q5, .int 0, .int 5])), (q5, .inl (cI, 1024, .inl (fun _ => 0))), (q6, .inr (2, [.ref q7, .ref q8, .ref q9, .ref q10, .int 0, .int 0, .int 0])), (q7, .inl (cI, 16, .inl (fun _ => 0))), (q8, .inl (cI, 16, .inl (fun _ => 0))), (q9, .inl (cI, 16, .inl (fun _ => 0))), (q10, .inl (cZ, 16, .inl (upd (fun _ => 0) (Int32.toNatClampNeg 0) 1))), (q11, .inr (1, [.ref q12, .int 0, .int 0])), (q12, .inl (cI, 500, .inl (fun _ => 0)))] H := hP
  have hD : va_D A [(qx, .inr (3, [.ref q1, .ref q2, .ref q3, .ref q4, .ref q6, .ref q11, .int rT, .int rL, .int rC, .int rIn, .int cyc, .int wai])), (q1, .inl (cI, 32, .inl (fun _ => 0))), (q2, .inl (cI, 256, .inl (fun _ => 0))), (q3, .inl (cI, 1024, .inl (fun _ => 0))), (q4, .inr (0, [.ref q5, .int 0, .int 5])), (q5, .inl (cI, 1024, .inl (fun _ => 0))), (q6, .inr (2, [.ref q7, .ref q8, .ref q9, .ref q10, .int 0, .int 0, .int 0])), (q7, .inl (cI, 16, .inl (fun _ => 0))), (q8, .inl (cI, 16, .inl (fun _ => 0))), (q9, .inl (cI, 16, .inl (fun _ => 0))), (q10, .inl (cZ, 16, .inl (upd (fun _ => 0) (Int32.toNatClampNeg 0) 1))), (q11, .inr (1, [.ref q12, .int 0, .int 0])), (q12, .inl (cI, 500, .inl (fun _ => 0)))] := hD
  exact ct_vret (q1, q2, q3, q4, q5, q6, q7, q8, q9, q10, q11, q12) hx hb hr hlocks hP hD hS rfl dX3_init_63
def z_X3_keep_qa (fa : Nat → Int32) (n : Nat) (p0 : Int32) (p1 : Int32) : Nat → Int32 := (if p0 < 0 then fa else (if p0 < (Int32.ofNat n) then upd fa (Int32.toNatClampNeg p0) p1 else fa))
def r_X3_keep (n : Nat) (p0 : Int32) : Int32 := (if p0 < 0 then 0 else (if p0 < (Int32.ofNat n) then 1 else 0))
set_option maxHeartbeats 4000000 in
set_option maxRecDepth 100000 in
theorem c_X3_keep (l : Launch) (D : va_G) (cI cZ : ClassId) (qa : Nat) (fa : Nat → Int32) (n : Nat) (p0 : Int32) (p1 : Int32) (hn : n < 2147483648) : CtI l D classes [(cI, .int), (cZ, .boolean)] yX3_keep w_X3_keep { frames := 0, cells := 0, slots := 0, locals := 0 } [.ref qa, .int p0, .int p1] [(qa, .inl (cI, n, .inl fa))] [(qa, .inl (cI, n, .inl (z_X3_keep_qa fa n p0 p1)))] (r_X3_keep n p0) := by
  refine CtI.mk (cc := cX3_keep) (maxL := 3) (ret := (some .boolean)) (by decide) rfl (Nat.le_of_ble_eq_true rfl) ?_
  intro p e s m below meth c A hBeg ls hl
  obtain ⟨hx, hb, hr, hml, hts0, hown, hlocks, hin, hA, hK, hP, hD, hS⟩ := hBeg
  have hts := fun w h => hts0 w (List.mem_cons_of_mem _ h)
  have hown : s.vm.findClass RX3 = some m.cls := hown
  have hl : lv_has ls 3 [(0, .ref qa), (1, .int p0), (2, .int p1)] := hl
  skip
  refine lv_iload_n hx hb dX3_keep_0 rfl (lv_at hl 1 rfl) ?_
  refine lv_if_lt (tgt := 10) hx hb dX3_keep_1 (by decide) (fun c_1 => ?_) (fun c_1 => ?_)
  · skip
    refine lv_iconst (v := 0) hx hb dX3_keep_10 (by decide) ?_
    have e_1 : z_X3_keep_qa fa n p0 p1 = fa := by simp only [z_X3_keep_qa, if_pos c_1]
    have e_2 : r_X3_keep n p0 = 0 := by simp only [r_X3_keep, if_pos c_1]
    exact ct_zret hx hb hr hlocks hP hD hS (by rw [e_1]) (by rw [e_2]) (Or.inl rfl) dX3_keep_11
  · skip
    refine lv_iload_n hx hb dX3_keep_4 rfl (lv_at hl 1 rfl) ?_
    refine lv_aload_n hx hb dX3_keep_5 rfl (lv_at hl 0 rfl) ?_
    refine va_alen (v := Int32.ofNat n) hx hb hK hP 0 0 rfl rfl rfl dX3_keep_6 ?_
    refine lv_icmp_lt (tgt := 12) hx hb dX3_keep_7 (by decide) (fun c_2 => ?_) (fun c_2 => ?_)
    · skip
      refine lv_aload_n hx hb dX3_keep_12 rfl (lv_at hl 0 rfl) ?_
      refine lv_iload_n hx hb dX3_keep_13 rfl (lv_at hl 1 rfl) ?_
      refine lv_iload_n hx hb dX3_keep_14 rfl (lv_at hl 2 rfl) ?_
      refine va_iast hx hb hK hP hD hS 0 0 rfl rfl (vp_of4 hn c_1 c_2) dX3_keep_15 (fun H locs hP hD hS => ?_)
      have hP : va_P D classes [(qa, .inl (cI, n, .inl (upd fa (Int32.toNatClampNeg p0) p1)))] H := hP
      have hD : va_D A [(qa, .inl (cI, n, .inl (upd fa (Int32.toNatClampNeg p0) p1)))] := hD
      refine lv_iconst (v := 1) hx hb dX3_keep_16 (by decide) ?_
      have e_1 : z_X3_keep_qa fa n p0 p1 = upd fa (Int32.toNatClampNeg p0) p1 := by simp only [z_X3_keep_qa, if_neg c_1, if_pos c_2]
      have e_2 : r_X3_keep n p0 = 1 := by simp only [r_X3_keep, if_neg c_1, if_pos c_2]
      exact ct_zret hx hb hr hlocks hP hD hS (by rw [e_1]) (by rw [e_2]) (Or.inr rfl) dX3_keep_17
    · skip
      refine lv_iconst (v := 0) hx hb dX3_keep_10 (by decide) ?_
      have e_1 : z_X3_keep_qa fa n p0 p1 = fa := by simp only [z_X3_keep_qa, if_neg c_1, if_neg c_2]
      have e_2 : r_X3_keep n p0 = 0 := by simp only [r_X3_keep, if_neg c_1, if_neg c_2]
      exact ct_zret hx hb hr hlocks hP hD hS (by rw [e_1]) (by rw [e_2]) (Or.inl rfl) dX3_keep_11
theorem b_X3_keep (n : Nat) (p0 : Int32) : r_X3_keep n p0 = 0 ∨ r_X3_keep n p0 = 1 := by
  unfold r_X3_keep
  repeat' split
  all_goals first | exact Or.inl rfl | exact Or.inr rfl
def r_X3_ask (fa : Nat → Int32) (n : Nat) (p0 : Int32) : Int32 := (if p0 < 0 then (-1) else (if (Int32.ofNat n) ≤ p0 then (-1) else fa (Int32.toNatClampNeg p0)))
set_option maxHeartbeats 4000000 in
set_option maxRecDepth 100000 in
theorem c_X3_ask (l : Launch) (D : va_G) (cI cZ : ClassId) (qa : Nat) (fa : Nat → Int32) (n : Nat) (p0 : Int32) (hn : n < 2147483648) : CtI l D classes [(cI, .int), (cZ, .boolean)] yX3_ask w_X3_ask { frames := 0, cells := 0, slots := 0, locals := 0 } [.ref qa, .int p0] [(qa, .inl (cI, n, .inl fa))] [(qa, .inl (cI, n, .inl fa))] (r_X3_ask fa n p0) := by
  refine CtI.mk (cc := cX3_ask) (maxL := 2) (ret := (some .int)) (by decide) rfl (Nat.le_of_ble_eq_true rfl) ?_
  intro p e s m below meth c A hBeg ls hl
  obtain ⟨hx, hb, hr, hml, hts0, hown, hlocks, hin, hA, hK, hP, hD, hS⟩ := hBeg
  have hts := fun w h => hts0 w (List.mem_cons_of_mem _ h)
  have hown : s.vm.findClass RX3 = some m.cls := hown
  have hl : lv_has ls 2 [(0, .ref qa), (1, .int p0)] := hl
  skip
  refine lv_iload_n hx hb dX3_ask_0 rfl (lv_at hl 1 rfl) ?_
  refine lv_if_lt (tgt := 16) hx hb dX3_ask_1 (by decide) (fun c_1 => ?_) (fun c_1 => ?_)
  · skip
    refine lv_iconst (v := (-1)) hx hb dX3_ask_16 (by decide) ?_
    have e_1 : r_X3_ask fa n p0 = (-1) := by simp only [r_X3_ask, if_pos c_1]
    exact ct_iret hx hb hr hlocks hP hD hS rfl (by rw [e_1]) dX3_ask_17
  · skip
    refine lv_iload_n hx hb dX3_ask_4 rfl (lv_at hl 1 rfl) ?_
    refine lv_aload_n hx hb dX3_ask_5 rfl (lv_at hl 0 rfl) ?_
    refine va_alen (v := Int32.ofNat n) hx hb hK hP 0 0 rfl rfl rfl dX3_ask_6 ?_
    refine lv_icmp_ge (tgt := 16) hx hb dX3_ask_7 (by decide) (fun c_2 => ?_) (fun c_2 => ?_)
    · skip
      refine lv_iconst (v := (-1)) hx hb dX3_ask_16 (by decide) ?_
      have e_1 : r_X3_ask fa n p0 = (-1) := by simp only [r_X3_ask, if_neg c_1, if_pos c_2]
      exact ct_iret hx hb hr hlocks hP hD hS rfl (by rw [e_1]) dX3_ask_17
    · skip
      refine lv_aload_n hx hb dX3_ask_10 rfl (lv_at hl 0 rfl) ?_
      refine lv_iload_n hx hb dX3_ask_11 rfl (lv_at hl 1 rfl) ?_
      refine va_iald hx hb hK hP 0 0 rfl rfl (vp_of3 hn c_1 c_2) dX3_ask_12 ?_
      refine lv_goto (tgt := 17) hx hb dX3_ask_13 (by decide) ?_
      have e_1 : r_X3_ask fa n p0 = fa (Int32.toNatClampNeg p0) := by simp only [r_X3_ask, if_neg c_1, if_neg c_2]
      exact ct_iret hx hb hr hlocks hP hD hS rfl (by rw [e_1]) dX3_ask_17
def r_X3_isTask (p0 : Int32) : Int32 := (if p0 < 0 then 0 else (if 16 ≤ p0 then 0 else 1))
set_option maxHeartbeats 4000000 in
set_option maxRecDepth 100000 in
theorem c_X3_isTask (l : Launch) (D : va_G) (cI cZ : ClassId) (p0 : Int32) : CtI l D classes [(cI, .int), (cZ, .boolean)] yX3_isTask w_X3_isTask { frames := 0, cells := 0, slots := 0, locals := 0 } [.int p0] [] [] (r_X3_isTask p0) := by
  refine CtI.mk (cc := cX3_isTask) (maxL := 1) (ret := (some .boolean)) (by decide) rfl (Nat.le_of_ble_eq_true rfl) ?_
  intro p e s m below meth c A hBeg ls hl
  obtain ⟨hx, hb, hr, hml, hts0, hown, hlocks, hin, hA, hK, hP, hD, hS⟩ := hBeg
  have hts := fun w h => hts0 w (List.mem_cons_of_mem _ h)
  have hown : s.vm.findClass RX3 = some m.cls := hown
  have hl : lv_has ls 1 [(0, .int p0)] := hl
  skip
  refine lv_iload_n hx hb dX3_isTask_0 rfl (lv_at hl 0 rfl) ?_
  refine lv_if_lt (tgt := 14) hx hb dX3_isTask_1 (by decide) (fun c_1 => ?_) (fun c_1 => ?_)
  · skip
    refine lv_iconst (v := 0) hx hb dX3_isTask_14 (by decide) ?_
    have e_1 : r_X3_isTask p0 = 0 := by simp only [r_X3_isTask, if_pos c_1]
    exact ct_zret hx hb hr hlocks hP hD hS rfl (by rw [e_1]) (Or.inl rfl) dX3_isTask_15
  · skip
    refine lv_iload_n hx hb dX3_isTask_4 rfl (lv_at hl 0 rfl) ?_
    refine lv_bipush (v := 16) hx hb dX3_isTask_5 (by decide) ?_
    refine lv_icmp_ge (tgt := 14) hx hb dX3_isTask_7 (by decide) (fun c_2 => ?_) (fun c_2 => ?_)
    · skip
      refine lv_iconst (v := 0) hx hb dX3_isTask_14 (by decide) ?_
      have e_1 : r_X3_isTask p0 = 0 := by simp only [r_X3_isTask, if_neg c_1, if_pos c_2]
      exact ct_zret hx hb hr hlocks hP hD hS rfl (by rw [e_1]) (Or.inl rfl) dX3_isTask_15
    · skip
      refine lv_iconst (v := 1) hx hb dX3_isTask_10 (by decide) ?_
      refine lv_goto (tgt := 15) hx hb dX3_isTask_11 (by decide) ?_
      have e_1 : r_X3_isTask p0 = 1 := by simp only [r_X3_isTask, if_neg c_1, if_neg c_2]
      exact ct_zret hx hb hr hlocks hP hD hS rfl (by rw [e_1]) (Or.inr rfl) dX3_isTask_15
theorem isTask_in {p0 : Int32} (h : ¬ r_X3_isTask p0 = 0) : vp_in p0 16 := by
  unfold r_X3_isTask at h
  by_cases h0 : p0 < 0
  · rw [if_pos h0] at h; exact absurd rfl h
  · by_cases h1 : 16 ≤ p0
    · rw [if_neg h0, if_pos h1] at h; exact absurd rfl h
    · exact vp_of2 (y := 16) (by decide) h0 h1
def r_X3_givesAluToT (p0 : Int32) : Int32 := (if p0 = 0 then 1 else (if p0 = 1 then 0 else (if p0 = 2 then 1 else (if p0 = 3 then 0 else (if p0 = 4 then 0 else (if p0 = 5 then 1 else (if p0 = 6 then 1 else (if p0 = 7 then 0 else (if p0 = 8 then 0 else (if p0 = 9 then 0 else (if p0 = 10 then 1 else (if p0 = 11 then 1 else (if p0 = 12 then 1 else 0)))))))))))))
set_option maxHeartbeats 4000000 in
set_option maxRecDepth 100000 in
theorem c_X3_givesAluToT (l : Launch) (D : va_G) (cI cZ : ClassId) (p0 : Int32) : CtI l D classes [(cI, .int), (cZ, .boolean)] yX3_givesAluToT w_X3_givesAluToT { frames := 0, cells := 0, slots := 0, locals := 0 } [.int p0] [] [] (r_X3_givesAluToT p0) := by
  refine CtI.mk (cc := cX3_givesAluToT) (maxL := 1) (ret := (some .boolean)) (by decide) rfl (Nat.le_of_ble_eq_true rfl) ?_
  intro p e s m below meth c A hBeg ls hl
  obtain ⟨hx, hb, hr, hml, hts0, hown, hlocks, hin, hA, hK, hP, hD, hS⟩ := hBeg
  have hts := fun w h => hts0 w (List.mem_cons_of_mem _ h)
  have hown : s.vm.findClass RX3 = some m.cls := hown
  have hl : lv_has ls 1 [(0, .int p0)] := hl
  skip
  refine lv_iload_n hx hb dX3_givesAluToT_0 rfl (lv_at hl 0 rfl) ?_
  by_cases s_1 : p0 = 0
  · skip
    refine lv_tableIn (tgt := 68) (off := 67) hx hb dX3_givesAluToT_1 (by rw [s_1]; decide) (by rw [s_1]; decide) (by rw [s_1]; rfl) (by decide) ?_
    refine lv_iconst (v := 1) hx hb dX3_givesAluToT_68 (by decide) ?_
    have e_1 : r_X3_givesAluToT p0 = 1 := by simp only [r_X3_givesAluToT, if_pos s_1]
    exact ct_zret hx hb hr hlocks hP hD hS rfl (by rw [e_1]) (Or.inr rfl) dX3_givesAluToT_69
  by_cases s_2 : p0 = 1
  · skip
    refine lv_tableIn (tgt := 70) (off := 69) hx hb dX3_givesAluToT_1 (by rw [s_2]; decide) (by rw [s_2]; decide) (by rw [s_2]; rfl) (by decide) ?_
    refine lv_iconst (v := 0) hx hb dX3_givesAluToT_70 (by decide) ?_
    have e_1 : r_X3_givesAluToT p0 = 0 := by simp only [r_X3_givesAluToT, if_neg s_1, if_pos s_2]
    exact ct_zret hx hb hr hlocks hP hD hS rfl (by rw [e_1]) (Or.inl rfl) dX3_givesAluToT_71
  by_cases s_3 : p0 = 2
  · skip
    refine lv_tableIn (tgt := 68) (off := 67) hx hb dX3_givesAluToT_1 (by rw [s_3]; decide) (by rw [s_3]; decide) (by rw [s_3]; rfl) (by decide) ?_
    refine lv_iconst (v := 1) hx hb dX3_givesAluToT_68 (by decide) ?_
    have e_1 : r_X3_givesAluToT p0 = 1 := by simp only [r_X3_givesAluToT, if_neg s_1, if_neg s_2, if_pos s_3]
    exact ct_zret hx hb hr hlocks hP hD hS rfl (by rw [e_1]) (Or.inr rfl) dX3_givesAluToT_69
  by_cases s_4 : p0 = 3
  · skip
    refine lv_tableIn (tgt := 70) (off := 69) hx hb dX3_givesAluToT_1 (by rw [s_4]; decide) (by rw [s_4]; decide) (by rw [s_4]; rfl) (by decide) ?_
    refine lv_iconst (v := 0) hx hb dX3_givesAluToT_70 (by decide) ?_
    have e_1 : r_X3_givesAluToT p0 = 0 := by simp only [r_X3_givesAluToT, if_neg s_1, if_neg s_2, if_neg s_3, if_pos s_4]
    exact ct_zret hx hb hr hlocks hP hD hS rfl (by rw [e_1]) (Or.inl rfl) dX3_givesAluToT_71
  by_cases s_5 : p0 = 4
  · skip
    refine lv_tableIn (tgt := 70) (off := 69) hx hb dX3_givesAluToT_1 (by rw [s_5]; decide) (by rw [s_5]; decide) (by rw [s_5]; rfl) (by decide) ?_
    refine lv_iconst (v := 0) hx hb dX3_givesAluToT_70 (by decide) ?_
    have e_1 : r_X3_givesAluToT p0 = 0 := by simp only [r_X3_givesAluToT, if_neg s_1, if_neg s_2, if_neg s_3, if_neg s_4, if_pos s_5]
    exact ct_zret hx hb hr hlocks hP hD hS rfl (by rw [e_1]) (Or.inl rfl) dX3_givesAluToT_71
  by_cases s_6 : p0 = 5
  · skip
    refine lv_tableIn (tgt := 68) (off := 67) hx hb dX3_givesAluToT_1 (by rw [s_6]; decide) (by rw [s_6]; decide) (by rw [s_6]; rfl) (by decide) ?_
    refine lv_iconst (v := 1) hx hb dX3_givesAluToT_68 (by decide) ?_
    have e_1 : r_X3_givesAluToT p0 = 1 := by simp only [r_X3_givesAluToT, if_neg s_1, if_neg s_2, if_neg s_3, if_neg s_4, if_neg s_5, if_pos s_6]
    exact ct_zret hx hb hr hlocks hP hD hS rfl (by rw [e_1]) (Or.inr rfl) dX3_givesAluToT_69
  by_cases s_7 : p0 = 6
  · skip
    refine lv_tableIn (tgt := 68) (off := 67) hx hb dX3_givesAluToT_1 (by rw [s_7]; decide) (by rw [s_7]; decide) (by rw [s_7]; rfl) (by decide) ?_
    refine lv_iconst (v := 1) hx hb dX3_givesAluToT_68 (by decide) ?_
    have e_1 : r_X3_givesAluToT p0 = 1 := by simp only [r_X3_givesAluToT, if_neg s_1, if_neg s_2, if_neg s_3, if_neg s_4, if_neg s_5, if_neg s_6, if_pos s_7]
    exact ct_zret hx hb hr hlocks hP hD hS rfl (by rw [e_1]) (Or.inr rfl) dX3_givesAluToT_69
  by_cases s_8 : p0 = 7
  · skip
    refine lv_tableIn (tgt := 70) (off := 69) hx hb dX3_givesAluToT_1 (by rw [s_8]; decide) (by rw [s_8]; decide) (by rw [s_8]; rfl) (by decide) ?_
    refine lv_iconst (v := 0) hx hb dX3_givesAluToT_70 (by decide) ?_
    have e_1 : r_X3_givesAluToT p0 = 0 := by simp only [r_X3_givesAluToT, if_neg s_1, if_neg s_2, if_neg s_3, if_neg s_4, if_neg s_5, if_neg s_6, if_neg s_7, if_pos s_8]
    exact ct_zret hx hb hr hlocks hP hD hS rfl (by rw [e_1]) (Or.inl rfl) dX3_givesAluToT_71
  by_cases s_9 : p0 = 8
  · skip
    refine lv_tableIn (tgt := 70) (off := 69) hx hb dX3_givesAluToT_1 (by rw [s_9]; decide) (by rw [s_9]; decide) (by rw [s_9]; rfl) (by decide) ?_
    refine lv_iconst (v := 0) hx hb dX3_givesAluToT_70 (by decide) ?_
    have e_1 : r_X3_givesAluToT p0 = 0 := by simp only [r_X3_givesAluToT, if_neg s_1, if_neg s_2, if_neg s_3, if_neg s_4, if_neg s_5, if_neg s_6, if_neg s_7, if_neg s_8, if_pos s_9]
    exact ct_zret hx hb hr hlocks hP hD hS rfl (by rw [e_1]) (Or.inl rfl) dX3_givesAluToT_71
  by_cases s_10 : p0 = 9
  · skip
    refine lv_tableIn (tgt := 70) (off := 69) hx hb dX3_givesAluToT_1 (by rw [s_10]; decide) (by rw [s_10]; decide) (by rw [s_10]; rfl) (by decide) ?_
    refine lv_iconst (v := 0) hx hb dX3_givesAluToT_70 (by decide) ?_
    have e_1 : r_X3_givesAluToT p0 = 0 := by simp only [r_X3_givesAluToT, if_neg s_1, if_neg s_2, if_neg s_3, if_neg s_4, if_neg s_5, if_neg s_6, if_neg s_7, if_neg s_8, if_neg s_9, if_pos s_10]
    exact ct_zret hx hb hr hlocks hP hD hS rfl (by rw [e_1]) (Or.inl rfl) dX3_givesAluToT_71
  by_cases s_11 : p0 = 10
  · skip
    refine lv_tableIn (tgt := 68) (off := 67) hx hb dX3_givesAluToT_1 (by rw [s_11]; decide) (by rw [s_11]; decide) (by rw [s_11]; rfl) (by decide) ?_
    refine lv_iconst (v := 1) hx hb dX3_givesAluToT_68 (by decide) ?_
    have e_1 : r_X3_givesAluToT p0 = 1 := by simp only [r_X3_givesAluToT, if_neg s_1, if_neg s_2, if_neg s_3, if_neg s_4, if_neg s_5, if_neg s_6, if_neg s_7, if_neg s_8, if_neg s_9, if_neg s_10, if_pos s_11]
    exact ct_zret hx hb hr hlocks hP hD hS rfl (by rw [e_1]) (Or.inr rfl) dX3_givesAluToT_69
  by_cases s_12 : p0 = 11
  · skip
    refine lv_tableIn (tgt := 68) (off := 67) hx hb dX3_givesAluToT_1 (by rw [s_12]; decide) (by rw [s_12]; decide) (by rw [s_12]; rfl) (by decide) ?_
    refine lv_iconst (v := 1) hx hb dX3_givesAluToT_68 (by decide) ?_
    have e_1 : r_X3_givesAluToT p0 = 1 := by simp only [r_X3_givesAluToT, if_neg s_1, if_neg s_2, if_neg s_3, if_neg s_4, if_neg s_5, if_neg s_6, if_neg s_7, if_neg s_8, if_neg s_9, if_neg s_10, if_neg s_11, if_pos s_12]
    exact ct_zret hx hb hr hlocks hP hD hS rfl (by rw [e_1]) (Or.inr rfl) dX3_givesAluToT_69
  by_cases s_13 : p0 = 12
  · skip
    refine lv_tableIn (tgt := 68) (off := 67) hx hb dX3_givesAluToT_1 (by rw [s_13]; decide) (by rw [s_13]; decide) (by rw [s_13]; rfl) (by decide) ?_
    refine lv_iconst (v := 1) hx hb dX3_givesAluToT_68 (by decide) ?_
    have e_1 : r_X3_givesAluToT p0 = 1 := by simp only [r_X3_givesAluToT, if_neg s_1, if_neg s_2, if_neg s_3, if_neg s_4, if_neg s_5, if_neg s_6, if_neg s_7, if_neg s_8, if_neg s_9, if_neg s_10, if_neg s_11, if_neg s_12, if_pos s_13]
    exact ct_zret hx hb hr hlocks hP hD hS rfl (by rw [e_1]) (Or.inr rfl) dX3_givesAluToT_69
  refine lv_tableOut (tgt := 70) hx hb dX3_givesAluToT_1 (by have h_s_1 := lv_neT (k := 0) (a := 0) s_1 (by decide); have h_s_2 := lv_neT (k := 1) (a := 1) s_2 (by decide); have h_s_3 := lv_neT (k := 2) (a := 2) s_3 (by decide); have h_s_4 := lv_neT (k := 3) (a := 3) s_4 (by decide); have h_s_5 := lv_neT (k := 4) (a := 4) s_5 (by decide); have h_s_6 := lv_neT (k := 5) (a := 5) s_6 (by decide); have h_s_7 := lv_neT (k := 6) (a := 6) s_7 (by decide); have h_s_8 := lv_neT (k := 7) (a := 7) s_8 (by decide); have h_s_9 := lv_neT (k := 8) (a := 8) s_9 (by decide); have h_s_10 := lv_neT (k := 9) (a := 9) s_10 (by decide); have h_s_11 := lv_neT (k := 10) (a := 10) s_11 (by decide); have h_s_12 := lv_neT (k := 11) (a := 11) s_12 (by decide); have h_s_13 := lv_neT (k := 12) (a := 12) s_13 (by decide); omega) (by decide) ?_
  refine lv_iconst (v := 0) hx hb dX3_givesAluToT_70 (by decide) ?_
  have e_1 : r_X3_givesAluToT p0 = 0 := by simp only [r_X3_givesAluToT, if_neg s_1, if_neg s_2, if_neg s_3, if_neg s_4, if_neg s_5, if_neg s_6, if_neg s_7, if_neg s_8, if_neg s_9, if_neg s_10, if_neg s_11, if_neg s_12, if_neg s_13]
  exact ct_zret hx hb hr hlocks hP hD hS rfl (by rw [e_1]) (Or.inl rfl) dX3_givesAluToT_71
set_option maxHeartbeats 4000000 in
set_option maxRecDepth 100000 in
theorem c_X3_rselOf (l : Launch) (D : va_G) (cI cZ : ClassId) (p0 : Int32) : CtI l D classes [(cI, .int), (cZ, .boolean)] yX3_rselOf w_X3_rselOf { frames := 0, cells := 0, slots := 0, locals := 0 } [.int p0] [] [] (jushr p0 27) := by
  refine CtI.mk (cc := cX3_rselOf) (maxL := 1) (ret := (some .int)) (by decide) rfl (Nat.le_of_ble_eq_true rfl) ?_
  intro p e s m below meth c A hBeg ls hl
  obtain ⟨hx, hb, hr, hml, hts0, hown, hlocks, hin, hA, hK, hP, hD, hS⟩ := hBeg
  have hts := fun w h => hts0 w (List.mem_cons_of_mem _ h)
  have hown : s.vm.findClass RX3 = some m.cls := hown
  have hl : lv_has ls 1 [(0, .int p0)] := hl
  skip
  refine lv_iload_n hx hb dX3_rselOf_0 rfl (lv_at hl 0 rfl) ?_
  refine lv_bipush (v := 27) hx hb dX3_rselOf_1 (by decide) ?_
  refine lv_iushr (v := jushr p0 27) hx hb dX3_rselOf_3 rfl ?_
  exact ct_iret hx hb hr hlocks hP hD hS rfl rfl dX3_rselOf_4
set_option maxHeartbeats 4000000 in
set_option maxRecDepth 100000 in
theorem c_X3_alufOf (l : Launch) (D : va_G) (cI cZ : ClassId) (p0 : Int32) : CtI l D classes [(cI, .int), (cZ, .boolean)] yX3_alufOf w_X3_alufOf { frames := 0, cells := 0, slots := 0, locals := 0 } [.int p0] [] [] ((p0 >>> (23 &&& 31)) &&& 15) := by
  refine CtI.mk (cc := cX3_alufOf) (maxL := 1) (ret := (some .int)) (by decide) rfl (Nat.le_of_ble_eq_true rfl) ?_
  intro p e s m below meth c A hBeg ls hl
  obtain ⟨hx, hb, hr, hml, hts0, hown, hlocks, hin, hA, hK, hP, hD, hS⟩ := hBeg
  have hts := fun w h => hts0 w (List.mem_cons_of_mem _ h)
  have hown : s.vm.findClass RX3 = some m.cls := hown
  have hl : lv_has ls 1 [(0, .int p0)] := hl
  skip
  refine lv_iload_n hx hb dX3_alufOf_0 rfl (lv_at hl 0 rfl) ?_
  refine lv_bipush (v := 23) hx hb dX3_alufOf_1 (by decide) ?_
  refine lv_ishr hx hb dX3_alufOf_3 ?_
  refine lv_bipush (v := 15) hx hb dX3_alufOf_4 (by decide) ?_
  refine lv_iand hx hb dX3_alufOf_6 ?_
  exact ct_iret hx hb hr hlocks hP hD hS rfl rfl dX3_alufOf_7
set_option maxHeartbeats 4000000 in
set_option maxRecDepth 100000 in
theorem c_X3_bsOf (l : Launch) (D : va_G) (cI cZ : ClassId) (p0 : Int32) : CtI l D classes [(cI, .int), (cZ, .boolean)] yX3_bsOf w_X3_bsOf { frames := 0, cells := 0, slots := 0, locals := 0 } [.int p0] [] [] ((p0 >>> (20 &&& 31)) &&& 7) := by
  refine CtI.mk (cc := cX3_bsOf) (maxL := 1) (ret := (some .int)) (by decide) rfl (Nat.le_of_ble_eq_true rfl) ?_
  intro p e s m below meth c A hBeg ls hl
  obtain ⟨hx, hb, hr, hml, hts0, hown, hlocks, hin, hA, hK, hP, hD, hS⟩ := hBeg
  have hts := fun w h => hts0 w (List.mem_cons_of_mem _ h)
  have hown : s.vm.findClass RX3 = some m.cls := hown
  have hl : lv_has ls 1 [(0, .int p0)] := hl
  skip
  refine lv_iload_n hx hb dX3_bsOf_0 rfl (lv_at hl 0 rfl) ?_
  refine lv_bipush (v := 20) hx hb dX3_bsOf_1 (by decide) ?_
  refine lv_ishr hx hb dX3_bsOf_3 ?_
  refine lv_bipush (v := 7) hx hb dX3_bsOf_4 (by decide) ?_
  refine lv_iand hx hb dX3_bsOf_6 ?_
  exact ct_iret hx hb hr hlocks hP hD hS rfl rfl dX3_bsOf_7
set_option maxHeartbeats 4000000 in
set_option maxRecDepth 100000 in
theorem c_X3_f1Of (l : Launch) (D : va_G) (cI cZ : ClassId) (p0 : Int32) : CtI l D classes [(cI, .int), (cZ, .boolean)] yX3_f1Of w_X3_f1Of { frames := 0, cells := 0, slots := 0, locals := 0 } [.int p0] [] [] ((p0 >>> (16 &&& 31)) &&& 15) := by
  refine CtI.mk (cc := cX3_f1Of) (maxL := 1) (ret := (some .int)) (by decide) rfl (Nat.le_of_ble_eq_true rfl) ?_
  intro p e s m below meth c A hBeg ls hl
  obtain ⟨hx, hb, hr, hml, hts0, hown, hlocks, hin, hA, hK, hP, hD, hS⟩ := hBeg
  have hts := fun w h => hts0 w (List.mem_cons_of_mem _ h)
  have hown : s.vm.findClass RX3 = some m.cls := hown
  have hl : lv_has ls 1 [(0, .int p0)] := hl
  skip
  refine lv_iload_n hx hb dX3_f1Of_0 rfl (lv_at hl 0 rfl) ?_
  refine lv_bipush (v := 16) hx hb dX3_f1Of_1 (by decide) ?_
  refine lv_ishr hx hb dX3_f1Of_3 ?_
  refine lv_bipush (v := 15) hx hb dX3_f1Of_4 (by decide) ?_
  refine lv_iand hx hb dX3_f1Of_6 ?_
  exact ct_iret hx hb hr hlocks hP hD hS rfl rfl dX3_f1Of_7
set_option maxHeartbeats 4000000 in
set_option maxRecDepth 100000 in
theorem c_X3_f2Of (l : Launch) (D : va_G) (cI cZ : ClassId) (p0 : Int32) : CtI l D classes [(cI, .int), (cZ, .boolean)] yX3_f2Of w_X3_f2Of { frames := 0, cells := 0, slots := 0, locals := 0 } [.int p0] [] [] ((p0 >>> (12 &&& 31)) &&& 15) := by
  refine CtI.mk (cc := cX3_f2Of) (maxL := 1) (ret := (some .int)) (by decide) rfl (Nat.le_of_ble_eq_true rfl) ?_
  intro p e s m below meth c A hBeg ls hl
  obtain ⟨hx, hb, hr, hml, hts0, hown, hlocks, hin, hA, hK, hP, hD, hS⟩ := hBeg
  have hts := fun w h => hts0 w (List.mem_cons_of_mem _ h)
  have hown : s.vm.findClass RX3 = some m.cls := hown
  have hl : lv_has ls 1 [(0, .int p0)] := hl
  skip
  refine lv_iload_n hx hb dX3_f2Of_0 rfl (lv_at hl 0 rfl) ?_
  refine lv_bipush (v := 12) hx hb dX3_f2Of_1 (by decide) ?_
  refine lv_ishr hx hb dX3_f2Of_3 ?_
  refine lv_bipush (v := 15) hx hb dX3_f2Of_4 (by decide) ?_
  refine lv_iand hx hb dX3_f2Of_6 ?_
  exact ct_iret hx hb hr hlocks hP hD hS rfl rfl dX3_f2Of_7
def r_X3_loadsT (p0 : Int32) : Int32 := (if ((p0 >>> (11 &&& 31)) &&& 1) = 1 then 1 else 0)
set_option maxHeartbeats 4000000 in
set_option maxRecDepth 100000 in
theorem c_X3_loadsT (l : Launch) (D : va_G) (cI cZ : ClassId) (p0 : Int32) : CtI l D classes [(cI, .int), (cZ, .boolean)] yX3_loadsT w_X3_loadsT { frames := 0, cells := 0, slots := 0, locals := 0 } [.int p0] [] [] (r_X3_loadsT p0) := by
  refine CtI.mk (cc := cX3_loadsT) (maxL := 1) (ret := (some .boolean)) (by decide) rfl (Nat.le_of_ble_eq_true rfl) ?_
  intro p e s m below meth c A hBeg ls hl
  obtain ⟨hx, hb, hr, hml, hts0, hown, hlocks, hin, hA, hK, hP, hD, hS⟩ := hBeg
  have hts := fun w h => hts0 w (List.mem_cons_of_mem _ h)
  have hown : s.vm.findClass RX3 = some m.cls := hown
  have hl : lv_has ls 1 [(0, .int p0)] := hl
  skip
  refine lv_iload_n hx hb dX3_loadsT_0 rfl (lv_at hl 0 rfl) ?_
  refine lv_bipush (v := 11) hx hb dX3_loadsT_1 (by decide) ?_
  refine lv_ishr hx hb dX3_loadsT_3 ?_
  refine lv_iconst (v := 1) hx hb dX3_loadsT_4 (by decide) ?_
  refine lv_iand hx hb dX3_loadsT_5 ?_
  refine lv_iconst (v := 1) hx hb dX3_loadsT_6 (by decide) ?_
  refine lv_icmp_ne (tgt := 14) hx hb dX3_loadsT_7 (by decide) (fun c_1 => ?_) (fun c_1 => ?_)
  · skip
    refine lv_iconst (v := 0) hx hb dX3_loadsT_14 (by decide) ?_
    have e_1 : r_X3_loadsT p0 = 0 := by simp only [r_X3_loadsT, if_neg c_1]
    exact ct_zret hx hb hr hlocks hP hD hS rfl (by rw [e_1]) (Or.inl rfl) dX3_loadsT_15
  · skip
    refine lv_iconst (v := 1) hx hb dX3_loadsT_10 (by decide) ?_
    refine lv_goto (tgt := 15) hx hb dX3_loadsT_11 (by decide) ?_
    have e_1 : r_X3_loadsT p0 = 1 := by simp only [r_X3_loadsT, if_pos c_1]
    exact ct_zret hx hb hr hlocks hP hD hS rfl (by rw [e_1]) (Or.inr rfl) dX3_loadsT_15
def r_X3_loadsL (p0 : Int32) : Int32 := (if ((p0 >>> (10 &&& 31)) &&& 1) = 1 then 1 else 0)
set_option maxHeartbeats 4000000 in
set_option maxRecDepth 100000 in
theorem c_X3_loadsL (l : Launch) (D : va_G) (cI cZ : ClassId) (p0 : Int32) : CtI l D classes [(cI, .int), (cZ, .boolean)] yX3_loadsL w_X3_loadsL { frames := 0, cells := 0, slots := 0, locals := 0 } [.int p0] [] [] (r_X3_loadsL p0) := by
  refine CtI.mk (cc := cX3_loadsL) (maxL := 1) (ret := (some .boolean)) (by decide) rfl (Nat.le_of_ble_eq_true rfl) ?_
  intro p e s m below meth c A hBeg ls hl
  obtain ⟨hx, hb, hr, hml, hts0, hown, hlocks, hin, hA, hK, hP, hD, hS⟩ := hBeg
  have hts := fun w h => hts0 w (List.mem_cons_of_mem _ h)
  have hown : s.vm.findClass RX3 = some m.cls := hown
  have hl : lv_has ls 1 [(0, .int p0)] := hl
  skip
  refine lv_iload_n hx hb dX3_loadsL_0 rfl (lv_at hl 0 rfl) ?_
  refine lv_bipush (v := 10) hx hb dX3_loadsL_1 (by decide) ?_
  refine lv_ishr hx hb dX3_loadsL_3 ?_
  refine lv_iconst (v := 1) hx hb dX3_loadsL_4 (by decide) ?_
  refine lv_iand hx hb dX3_loadsL_5 ?_
  refine lv_iconst (v := 1) hx hb dX3_loadsL_6 (by decide) ?_
  refine lv_icmp_ne (tgt := 14) hx hb dX3_loadsL_7 (by decide) (fun c_1 => ?_) (fun c_1 => ?_)
  · skip
    refine lv_iconst (v := 0) hx hb dX3_loadsL_14 (by decide) ?_
    have e_1 : r_X3_loadsL p0 = 0 := by simp only [r_X3_loadsL, if_neg c_1]
    exact ct_zret hx hb hr hlocks hP hD hS rfl (by rw [e_1]) (Or.inl rfl) dX3_loadsL_15
  · skip
    refine lv_iconst (v := 1) hx hb dX3_loadsL_10 (by decide) ?_
    refine lv_goto (tgt := 15) hx hb dX3_loadsL_11 (by decide) ?_
    have e_1 : r_X3_loadsL p0 = 1 := by simp only [r_X3_loadsL, if_pos c_1]
    exact ct_zret hx hb hr hlocks hP hD hS rfl (by rw [e_1]) (Or.inr rfl) dX3_loadsL_15
set_option maxHeartbeats 4000000 in
set_option maxRecDepth 100000 in
theorem c_X3_nextOf (l : Launch) (D : va_G) (cI cZ : ClassId) (p0 : Int32) : CtI l D classes [(cI, .int), (cZ, .boolean)] yX3_nextOf w_X3_nextOf { frames := 0, cells := 0, slots := 0, locals := 0 } [.int p0] [] [] (p0 &&& 1023) := by
  refine CtI.mk (cc := cX3_nextOf) (maxL := 1) (ret := (some .int)) (by decide) rfl (Nat.le_of_ble_eq_true rfl) ?_
  intro p e s m below meth c A hBeg ls hl
  obtain ⟨hx, hb, hr, hml, hts0, hown, hlocks, hin, hA, hK, hP, hD, hS⟩ := hBeg
  have hts := fun w h => hts0 w (List.mem_cons_of_mem _ h)
  have hown : s.vm.findClass RX3 = some m.cls := hown
  have hl : lv_has ls 1 [(0, .int p0)] := hl
  skip
  refine lv_iload_n hx hb dX3_nextOf_0 rfl (lv_at hl 0 rfl) ?_
  refine lv_sipush (v := 1023) hx hb dX3_nextOf_1 (by decide) ?_
  refine lv_iand hx hb dX3_nextOf_4 ?_
  exact ct_iret hx hb hr hlocks hP hD hS rfl rfl dX3_nextOf_5
def r_X3_hasConstant (p0 : Int32) : Int32 := (if ((p0 >>> (16 &&& 31)) &&& 15) = 7 then 1 else (if ((p0 >>> (12 &&& 31)) &&& 15) = 7 then 1 else 0))
set_option maxHeartbeats 4000000 in
set_option maxRecDepth 100000 in
theorem c_X3_hasConstant (l : Launch) (D : va_G) (cI cZ : ClassId) (p0 : Int32) : CtI l D classes [(cI, .int), (cZ, .boolean)] yX3_hasConstant w_X3_hasConstant { frames := 1, cells := 0, slots := 0, locals := 20 } [.int p0] [] [] (r_X3_hasConstant p0) := by
  refine CtI.mk (cc := cX3_hasConstant) (maxL := 1) (ret := (some .boolean)) (by decide) rfl (Nat.le_of_ble_eq_true rfl) ?_
  intro p e s m below meth c A hBeg ls hl
  obtain ⟨hx, hb, hr, hml, hts0, hown, hlocks, hin, hA, hK, hP, hD, hS⟩ := hBeg
  have hts := fun w h => hts0 w (List.mem_cons_of_mem _ h)
  have hown : s.vm.findClass RX3 = some m.cls := hown
  have hl : lv_has ls 1 [(0, .int p0)] := hl
  skip
  refine lv_iload_n hx hb dX3_hasConstant_0 rfl (lv_at hl 0 rfl) ?_
  refine ctI_S (As := [.int p0]) (rest := []) (wc := []) (wr := []) ⟨hx, hb, hml, hown, hts⟩ (c_X3_f1Of l D cI cZ p0) (cwS 1 hts (gd_S wm_X3_131 wt_X3_f1Of wz_X3 wo_X3_f1Of) rfl rfl rfl (by decide +kernel) ⟨Nat.le_of_ble_eq_true rfl, Nat.le_of_ble_eq_true rfl⟩) hK hP hD hS hA [] [] rfl rfl (by decide) (by decide) (by decide) rfl rfl hl.1 (Nat.le_of_ble_eq_true rfl) dX3_hasConstant_1 ⟨Nat.le_of_ble_eq_true rfl, Nat.le_of_ble_eq_true rfl⟩ (fun H locs hP hD hS => ?_)
  have hP : va_P D classes [] H := hP
  have hD : va_D A [] := hD
  refine lv_bipush (v := 7) hx hb dX3_hasConstant_4 (by decide) ?_
  refine lv_icmp_eq (tgt := 18) hx hb dX3_hasConstant_6 (by decide) (fun c_1 => ?_) (fun c_1 => ?_)
  · skip
    refine lv_iconst (v := 1) hx hb dX3_hasConstant_18 (by decide) ?_
    refine lv_goto (tgt := 23) hx hb dX3_hasConstant_19 (by decide) ?_
    have e_1 : r_X3_hasConstant p0 = 1 := by simp only [r_X3_hasConstant, if_pos c_1]
    exact ct_zret hx hb hr hlocks hP hD hS rfl (by rw [e_1]) (Or.inr rfl) dX3_hasConstant_23
  · skip
    refine lv_iload_n hx hb dX3_hasConstant_9 rfl (lv_at hl 0 rfl) ?_
    refine ctI_S (As := [.int p0]) (rest := []) (wc := []) (wr := []) ⟨hx, hb, hml, hown, hts⟩ (c_X3_f2Of l D cI cZ p0) (cwS 1 hts (gd_S wm_X3_134 wt_X3_f2Of wz_X3 wo_X3_f2Of) rfl rfl rfl (by decide +kernel) ⟨Nat.le_of_ble_eq_true rfl, Nat.le_of_ble_eq_true rfl⟩) hK hP hD hS hA [] [] rfl rfl (by decide) (by decide) (by decide) rfl rfl hl.1 (Nat.le_of_ble_eq_true rfl) dX3_hasConstant_10 ⟨Nat.le_of_ble_eq_true rfl, Nat.le_of_ble_eq_true rfl⟩ (fun H locs hP hD hS => ?_)
    have hP : va_P D classes [] H := hP
    have hD : va_D A [] := hD
    refine lv_bipush (v := 7) hx hb dX3_hasConstant_13 (by decide) ?_
    refine lv_icmp_ne (tgt := 22) hx hb dX3_hasConstant_15 (by decide) (fun c_2 => ?_) (fun c_2 => ?_)
    · skip
      refine lv_iconst (v := 0) hx hb dX3_hasConstant_22 (by decide) ?_
      have e_1 : r_X3_hasConstant p0 = 0 := by simp only [r_X3_hasConstant, if_neg c_1, if_neg c_2]
      exact ct_zret hx hb hr hlocks hP hD hS rfl (by rw [e_1]) (Or.inl rfl) dX3_hasConstant_23
    · skip
      refine lv_iconst (v := 1) hx hb dX3_hasConstant_18 (by decide) ?_
      refine lv_goto (tgt := 23) hx hb dX3_hasConstant_19 (by decide) ?_
      have e_1 : r_X3_hasConstant p0 = 1 := by simp only [r_X3_hasConstant, if_neg c_1, if_pos c_2]
      exact ct_zret hx hb hr hlocks hP hD hS rfl (by rw [e_1]) (Or.inr rfl) dX3_hasConstant_23
end
