section
set_option maxHeartbeats 4000000 in
set_option maxRecDepth 100000 in
theorem c_X2_init (l : Launch) (D : va_G) (cI cZ : ClassId) (qT : Nat) (hand : Int32) (hov : Int32) (said : Int32) : CtV l D classes [(cI, .int), (cZ, .boolean)] yX2_init w_X2_init { frames := 1, cells := 4, slots := 64, locals := 12 } [.ref qT] [(qT, .inr (2, [.null, .null, .null, .null, .int hand, .int hov, .int said]))] (fun (u : Nat × Nat × Nat × Nat) => match u with | (qp, qc, qd, qk) => [(qT, .inr (2, [.ref qp, .ref qc, .ref qd, .ref qk, .int hand, .int hov, .int said])), (qp, .inl (cI, 16, .inl (fun _ => 0))), (qc, .inl (cI, 16, .inl (fun _ => 0))), (qd, .inl (cI, 16, .inl (fun _ => 0))), (qk, .inl (cZ, 16, .inl (upd (fun _ => 0) (Int32.toNatClampNeg 0) 1)))]) 4 64 := by
  refine CtV.mk (cc := cX2_init) (maxL := 1) (ret := none) (by decide) rfl (Nat.le_of_ble_eq_true rfl) ?_
  intro p e s m below meth c A hBeg ls hl
  obtain ⟨hx, hb, hr, hml, hts0, hown, hlocks, hin, hA, hK, hP, hD, hS⟩ := hBeg
  have hts := fun w h => hts0 w (List.mem_cons_of_mem _ h)
  have hown : s.vm.findClass RX2 = some m.cls := hown
  have hl : lv_has ls 1 [(0, .ref qT)] := hl
  skip
  refine lv_aload_n hx hb dX2_init_0 rfl (lv_at hl 0 rfl) ?_
  refine W.objInit hx hb hown (hts _ wm_X2_3) (hts _ wi_obj) (hts _ wo_obj) rfl (by rw [hml]; exact hl.1) rfl dX2_init_1 (Nat.le_of_ble_eq_true rfl) (Nat.le_of_ble_eq_true rfl) ?_
  refine W.eq (g2 := F0 m 4 ls []) rfl ?_
  refine lv_aload_n hx hb dX2_init_4 rfl (lv_at hl 0 rfl) ?_
  refine lv_bipush (v := 16) hx hb dX2_init_5 (by decide) ?_
  refine va_newa (atype := .int) (ty := .int) (N' := 16) (a0 := (16, .inl (fun _ => 0))) hx hb (hts _ wa_int) rfl hK hP hD hS hA (fun _ => rfl) (by decide) (by decide) (by decide) (Nat.le_of_ble_eq_true rfl) (Nat.le_of_ble_eq_true rfl) dX2_init_7 (fun q1 cA1 H hK1 hP hD hS => ?_)
  have hcA : cI = cA1 := Option.some.inj ((va_nm_int (hK.2 0 (cI, .int) rfl).2).symm.trans (va_nm_int (hK1.2 2 (cA1, .int) rfl).2))
  subst hcA
  clear hK1
  have hP : va_P D classes [(qT, .inr (2, [.null, .null, .null, .null, .int hand, .int hov, .int said])), (q1, .inl (cI, 16, .inl (fun _ => 0)))] H := hP
  have hD : va_D A [(qT, .inr (2, [.null, .null, .null, .null, .int hand, .int hov, .int said])), (q1, .inl (cI, 16, .inl (fun _ => 0)))] := hD
  refine W.widen (k := 1) (n := 16) (by omega) (by omega) ?_
  refine va_putF (D := D) (ci := 2) (v := .ref q1) (ty := (.array .int)) (C := RX2) (T := TX2) (N := 7) hx hb hts ilX2 tyX2 tyX2_ok nmX2 hown hK hP hD hS 0 rfl rfl 0 (by decide) (hts _ wf_X2_9) (fun _ h9 => h9) rfl hin rfl (by decide +kernel) rfl rfl (Nat.le_of_ble_eq_true rfl) dX2_init_9 (fun H locs hP hD hS => ?_)
  have hP : va_P D classes [(qT, .inr (2, [.ref q1, .null, .null, .null, .int hand, .int hov, .int said])), (q1, .inl (cI, 16, .inl (fun _ => 0)))] H := hP
  have hD : va_D A [(qT, .inr (2, [.ref q1, .null, .null, .null, .int hand, .int hov, .int said])), (q1, .inl (cI, 16, .inl (fun _ => 0)))] := hD
  refine lv_aload_n hx hb dX2_init_12 rfl (lv_at hl 0 rfl) ?_
  refine lv_bipush (v := 16) hx hb dX2_init_13 (by decide) ?_
  refine va_newa (atype := .int) (ty := .int) (N' := 16) (a0 := (16, .inl (fun _ => 0))) hx hb (hts _ wa_int) rfl hK hP hD hS hA (fun _ => rfl) (by decide) (by decide) (by decide) (Nat.le_of_ble_eq_true rfl) (Nat.le_of_ble_eq_true rfl) dX2_init_15 (fun q2 cA2 H hK1 hP hD hS => ?_)
  have hcA : cI = cA2 := Option.some.inj ((va_nm_int (hK.2 0 (cI, .int) rfl).2).symm.trans (va_nm_int (hK1.2 2 (cA2, .int) rfl).2))
  subst hcA
  clear hK1
  have hP : va_P D classes [(qT, .inr (2, [.ref q1, .null, .null, .null, .int hand, .int hov, .int said])), (q1, .inl (cI, 16, .inl (fun _ => 0))), (q2, .inl (cI, 16, .inl (fun _ => 0)))] H := hP
  have hD : va_D A [(qT, .inr (2, [.ref q1, .null, .null, .null, .int hand, .int hov, .int said])), (q1, .inl (cI, 16, .inl (fun _ => 0))), (q2, .inl (cI, 16, .inl (fun _ => 0)))] := hD
  refine W.widen (k := 2) (n := 32) (by omega) (by omega) ?_
  refine va_putF (D := D) (ci := 2) (v := .ref q2) (ty := (.array .int)) (C := RX2) (T := TX2) (N := 7) hx hb hts ilX2 tyX2 tyX2_ok nmX2 hown hK hP hD hS 0 rfl rfl 1 (by decide) (hts _ wf_X2_15) (fun _ h9 => h9) rfl hin rfl (by decide +kernel) rfl rfl (Nat.le_of_ble_eq_true rfl) dX2_init_17 (fun H locs hP hD hS => ?_)
  have hP : va_P D classes [(qT, .inr (2, [.ref q1, .ref q2, .null, .null, .int hand, .int hov, .int said])), (q1, .inl (cI, 16, .inl (fun _ => 0))), (q2, .inl (cI, 16, .inl (fun _ => 0)))] H := hP
  have hD : va_D A [(qT, .inr (2, [.ref q1, .ref q2, .null, .null, .int hand, .int hov, .int said])), (q1, .inl (cI, 16, .inl (fun _ => 0))), (q2, .inl (cI, 16, .inl (fun _ => 0)))] := hD
  refine lv_aload_n hx hb dX2_init_20 rfl (lv_at hl 0 rfl) ?_
  refine lv_bipush (v := 16) hx hb dX2_init_21 (by decide) ?_
  refine va_newa (atype := .int) (ty := .int) (N' := 16) (a0 := (16, .inl (fun _ => 0))) hx hb (hts _ wa_int) rfl hK hP hD hS hA (fun _ => rfl) (by decide) (by decide) (by decide) (Nat.le_of_ble_eq_true rfl) (Nat.le_of_ble_eq_true rfl) dX2_init_23 (fun q3 cA3 H hK1 hP hD hS => ?_)
  have hcA : cI = cA3 := Option.some.inj ((va_nm_int (hK.2 0 (cI, .int) rfl).2).symm.trans (va_nm_int (hK1.2 2 (cA3, .int) rfl).2))
  subst hcA
  clear hK1
  have hP : va_P D classes [(qT, .inr (2, [.ref q1, .ref q2, .null, .null, .int hand, .int hov, .int said])), (q1, .inl (cI, 16, .inl (fun _ => 0))), (q2, .inl (cI, 16, .inl (fun _ => 0))), (q3, .inl (cI, 16, .inl (fun _ => 0)))] H := hP
  have hD : va_D A [(qT, .inr (2, [.ref q1, .ref q2, .null, .null, .int hand, .int hov, .int said])), (q1, .inl (cI, 16, .inl (fun _ => 0))), (q2, .inl (cI, 16, .inl (fun _ => 0))), (q3, .inl (cI, 16, .inl (fun _ => 0)))] := hD
  refine W.widen (k := 3) (n := 48) (by omega) (by omega) ?_
  refine va_putF (D := D) (ci := 2) (v := .ref q3) (ty := (.array .int)) (C := RX2) (T := TX2) (N := 7) hx hb hts ilX2 tyX2 tyX2_ok nmX2 hown hK hP hD hS 0 rfl rfl 2 (by decide) (hts _ wf_X2_18) (fun _ h9 => h9) rfl hin rfl (by decide +kernel) rfl rfl (Nat.le_of_ble_eq_true rfl) dX2_init_25 (fun H locs hP hD hS => ?_)
  have hP : va_P D classes [(qT, .inr (2, [.ref q1, .ref q2, .ref q3, .null, .int hand, .int hov, .int said])), (q1, .inl (cI, 16, .inl (fun _ => 0))), (q2, .inl (cI, 16, .inl (fun _ => 0))), (q3, .inl (cI, 16, .inl (fun _ => 0)))] H := hP
  have hD : va_D A [(qT, .inr (2, [.ref q1, .ref q2, .ref q3, .null, .int hand, .int hov, .int said])), (q1, .inl (cI, 16, .inl (fun _ => 0))), (q2, .inl (cI, 16, .inl (fun _ => 0))), (q3, .inl (cI, 16, .inl (fun _ => 0)))] := hD
  refine lv_aload_n hx hb dX2_init_28 rfl (lv_at hl 0 rfl) ?_
  refine lv_bipush (v := 16) hx hb dX2_init_29 (by decide) ?_
  refine va_newa (atype := .boolean) (ty := .boolean) (N' := 16) (a0 := (16, .inl (fun _ => 0))) hx hb (hts _ wa_boolean) rfl hK hP hD hS hA (fun _ => rfl) (by decide) (by decide) (by decide) (Nat.le_of_ble_eq_true rfl) (Nat.le_of_ble_eq_true rfl) dX2_init_31 (fun q4 cA4 H hK1 hP hD hS => ?_)
  have hcA : cZ = cA4 := Option.some.inj ((va_nm_boolean (hK.2 1 (cZ, .boolean) rfl).2).symm.trans (va_nm_boolean (hK1.2 2 (cA4, .boolean) rfl).2))
  subst hcA
  clear hK1
  have hP : va_P D classes [(qT, .inr (2, [.ref q1, .ref q2, .ref q3, .null, .int hand, .int hov, .int said])), (q1, .inl (cI, 16, .inl (fun _ => 0))), (q2, .inl (cI, 16, .inl (fun _ => 0))), (q3, .inl (cI, 16, .inl (fun _ => 0))), (q4, .inl (cZ, 16, .inl (fun _ => 0)))] H := hP
  have hD : va_D A [(qT, .inr (2, [.ref q1, .ref q2, .ref q3, .null, .int hand, .int hov, .int said])), (q1, .inl (cI, 16, .inl (fun _ => 0))), (q2, .inl (cI, 16, .inl (fun _ => 0))), (q3, .inl (cI, 16, .inl (fun _ => 0))), (q4, .inl (cZ, 16, .inl (fun _ => 0)))] := hD
  refine W.widen (k := 4) (n := 64) (by omega) (by omega) ?_
  refine va_putF (D := D) (ci := 2) (v := .ref q4) (ty := (.array .boolean)) (C := RX2) (T := TX2) (N := 7) hx hb hts ilX2 tyX2 tyX2_ok nmX2 hown hK hP hD hS 0 rfl rfl 3 (by decide) (hts _ wf_X2_21) (fun _ h9 => h9) rfl hin rfl (by decide +kernel) rfl rfl (Nat.le_of_ble_eq_true rfl) dX2_init_33 (fun H locs hP hD hS => ?_)
  have hP : va_P D classes [(qT, .inr (2, [.ref q1, .ref q2, .ref q3, .ref q4, .int hand, .int hov, .int said])), (q1, .inl (cI, 16, .inl (fun _ => 0))), (q2, .inl (cI, 16, .inl (fun _ => 0))), (q3, .inl (cI, 16, .inl (fun _ => 0))), (q4, .inl (cZ, 16, .inl (fun _ => 0)))] H := hP
  have hD : va_D A [(qT, .inr (2, [.ref q1, .ref q2, .ref q3, .ref q4, .int hand, .int hov, .int said])), (q1, .inl (cI, 16, .inl (fun _ => 0))), (q2, .inl (cI, 16, .inl (fun _ => 0))), (q3, .inl (cI, 16, .inl (fun _ => 0))), (q4, .inl (cZ, 16, .inl (fun _ => 0)))] := hD
  refine lv_aload_n hx hb dX2_init_36 rfl (lv_at hl 0 rfl) ?_
  refine va_get (D := D) (ci := 2) (v := .ref q4) (C := RX2) (T := TX2) (N := 7) hx hb hts ilX2 hown hK hP 0 rfl rfl 3 (by decide) (hts _ wf_X2_21) (fun _ h9 => h9) rfl dX2_init_37 ?_
  refine lv_iconst (v := 0) hx hb dX2_init_40 (by decide) ?_
  refine lv_iconst (v := 1) hx hb dX2_init_41 (by decide) ?_
  refine va_zast hx hb hK hP hD hS 4 1 rfl rfl (by unfold vp_in; decide +kernel) dX2_init_42 (fun H locs hP hD hS => ?_)
  have hP : va_P D classes [(qT, .inr (2, [.ref q1, .ref q2, .ref q3, .ref q4, .int hand, .int hov, .int said])), (q1, .inl (cI, 16, .inl (fun _ => 0))), (q2, .inl (cI, 16, .inl (fun _ => 0))), (q3, .inl (cI, 16, .inl (fun _ => 0))), (q4, .inl (cZ, 16, .inl (upd (fun _ => 0) (Int32.toNatClampNeg 0) 1)))] H := hP
  have hD : va_D A [(qT, .inr (2, [.ref q1, .ref q2, .ref q3, .ref q4, .int hand, .int hov, .int said])), (q1, .inl (cI, 16, .inl (fun _ => 0))), (q2, .inl (cI, 16, .inl (fun _ => 0))), (q3, .inl (cI, 16, .inl (fun _ => 0))), (q4, .inl (cZ, 16, .inl (upd (fun _ => 0) (Int32.toNatClampNeg 0) 1)))] := hD
  exact ct_vret (q1, q2, q3, q4) hx hb hr hlocks hP hD hS rfl dX2_init_43
set_option maxHeartbeats 4000000 in
set_option maxRecDepth 100000 in
theorem c_X2_rouse (l : Launch) (D : va_G) (cI cZ : ClassId) (qT : Nat) (qp : Nat) (qc : Nat) (qd : Nat) (qk : Nat) (fp : Nat → Int32) (fc : Nat → Int32) (fd : Nat → Int32) (fk : Nat → Int32) (hand : Int32) (hov : Int32) (said : Int32) (p0 : Int32) (ht : vp_in p0 16) (hz : fk (Int32.toNatClampNeg p0) = 0 ∨ fk (Int32.toNatClampNeg p0) = 1) : CtI l D classes [(cI, .int), (cZ, .boolean)] yX2_rouse w_X2_rouse { frames := 0, cells := 0, slots := 0, locals := 0 } [.ref qT, .int p0] [(qT, .inr (2, [.ref qp, .ref qc, .ref qd, .ref qk, .int hand, .int hov, .int said])), (qp, .inl (cI, 16, .inl fp)), (qc, .inl (cI, 16, .inl fc)), (qd, .inl (cI, 16, .inl fd)), (qk, .inl (cZ, 16, .inl fk))] [(qT, .inr (2, [.ref qp, .ref qc, .ref qd, .ref qk, .int hand, .int hov, .int said])), (qp, .inl (cI, 16, .inl fp)), (qc, .inl (cI, 16, .inl fc)), (qd, .inl (cI, 16, .inl fd)), (qk, .inl (cZ, 16, .inl (upd fk (Int32.toNatClampNeg p0) 1)))] (fk (Int32.toNatClampNeg p0)) := by
  refine CtI.mk (cc := cX2_rouse) (maxL := 3) (ret := (some .boolean)) (by decide) rfl (Nat.le_of_ble_eq_true rfl) ?_
  intro p e s m below meth c A hBeg ls hl
  obtain ⟨hx, hb, hr, hml, hts0, hown, hlocks, hin, hA, hK, hP, hD, hS⟩ := hBeg
  have hts := fun w h => hts0 w (List.mem_cons_of_mem _ h)
  have hown : s.vm.findClass RX2 = some m.cls := hown
  have hl : lv_has ls 3 [(0, .ref qT), (1, .int p0)] := hl
  skip
  refine lv_aload_n hx hb dX2_rouse_0 rfl (lv_at hl 0 rfl) ?_
  refine va_get (D := D) (ci := 2) (v := .ref qk) (C := RX2) (T := TX2) (N := 7) hx hb hts ilX2 hown hK hP 0 rfl rfl 3 (by decide) (hts _ wf_X2_21) (fun _ h9 => h9) rfl dX2_rouse_1 ?_
  refine lv_iload_n hx hb dX2_rouse_4 rfl (lv_at hl 1 rfl) ?_
  refine va_zald hx hb hK hP 4 1 rfl rfl ht dX2_rouse_5 ?_
  refine lv_istore_n (lv' := [(2, .int (fk (Int32.toNatClampNeg p0))), (0, .ref qT), (1, .int p0)]) hx hb dX2_rouse_6 rfl hl (by decide) rfl (fun ls hl => ?_)
  refine lv_aload_n hx hb dX2_rouse_7 rfl (lv_at hl 1 rfl) ?_
  refine va_get (D := D) (ci := 2) (v := .ref qk) (C := RX2) (T := TX2) (N := 7) hx hb hts ilX2 hown hK hP 0 rfl rfl 3 (by decide) (hts _ wf_X2_21) (fun _ h9 => h9) rfl dX2_rouse_8 ?_
  refine lv_iload_n hx hb dX2_rouse_11 rfl (lv_at hl 2 rfl) ?_
  refine lv_iconst (v := 1) hx hb dX2_rouse_12 (by decide) ?_
  refine va_zast hx hb hK hP hD hS 4 1 rfl rfl ht dX2_rouse_13 (fun H locs hP hD hS => ?_)
  have hP : va_P D classes [(qT, .inr (2, [.ref qp, .ref qc, .ref qd, .ref qk, .int hand, .int hov, .int said])), (qp, .inl (cI, 16, .inl fp)), (qc, .inl (cI, 16, .inl fc)), (qd, .inl (cI, 16, .inl fd)), (qk, .inl (cZ, 16, .inl (upd fk (Int32.toNatClampNeg p0) 1)))] H := hP
  have hD : va_D A [(qT, .inr (2, [.ref qp, .ref qc, .ref qd, .ref qk, .int hand, .int hov, .int said])), (qp, .inl (cI, 16, .inl fp)), (qc, .inl (cI, 16, .inl fc)), (qd, .inl (cI, 16, .inl fd)), (qk, .inl (cZ, 16, .inl (upd fk (Int32.toNatClampNeg p0) 1)))] := hD
  refine lv_iload_n hx hb dX2_rouse_14 rfl (lv_at hl 0 rfl) ?_
  exact ct_zret hx hb hr hlocks hP hD hS rfl rfl hz dX2_rouse_15
def r_X2_greatestWoken (fk : Nat → Int32) : Int32 := (if (fk (Int32.toNatClampNeg 15)) = 0 then (if (fk (Int32.toNatClampNeg 14)) = 0 then (if (fk (Int32.toNatClampNeg 13)) = 0 then (if (fk (Int32.toNatClampNeg 12)) = 0 then (if (fk (Int32.toNatClampNeg 11)) = 0 then (if (fk (Int32.toNatClampNeg 10)) = 0 then (if (fk (Int32.toNatClampNeg 9)) = 0 then (if (fk (Int32.toNatClampNeg 8)) = 0 then (if (fk (Int32.toNatClampNeg 7)) = 0 then (if (fk (Int32.toNatClampNeg 6)) = 0 then (if (fk (Int32.toNatClampNeg 5)) = 0 then (if (fk (Int32.toNatClampNeg 4)) = 0 then (if (fk (Int32.toNatClampNeg 3)) = 0 then (if (fk (Int32.toNatClampNeg 2)) = 0 then (if (fk (Int32.toNatClampNeg 1)) = 0 then 0 else 1) else 2) else 3) else 4) else 5) else 6) else 7) else 8) else 9) else 10) else 11) else 12) else 13) else 14) else 15)
set_option maxHeartbeats 4000000 in
set_option maxRecDepth 100000 in
theorem c_X2_greatestWoken (l : Launch) (D : va_G) (cI cZ : ClassId) (qT : Nat) (qp : Nat) (qc : Nat) (qd : Nat) (qk : Nat) (fp : Nat → Int32) (fc : Nat → Int32) (fd : Nat → Int32) (fk : Nat → Int32) (hand : Int32) (hov : Int32) (said : Int32) : CtI l D classes [(cI, .int), (cZ, .boolean)] yX2_greatestWoken w_X2_greatestWoken { frames := 0, cells := 0, slots := 0, locals := 0 } [.ref qT] [(qT, .inr (2, [.ref qp, .ref qc, .ref qd, .ref qk, .int hand, .int hov, .int said])), (qp, .inl (cI, 16, .inl fp)), (qc, .inl (cI, 16, .inl fc)), (qd, .inl (cI, 16, .inl fd)), (qk, .inl (cZ, 16, .inl fk))] [(qT, .inr (2, [.ref qp, .ref qc, .ref qd, .ref qk, .int hand, .int hov, .int said])), (qp, .inl (cI, 16, .inl fp)), (qc, .inl (cI, 16, .inl fc)), (qd, .inl (cI, 16, .inl fd)), (qk, .inl (cZ, 16, .inl fk))] (r_X2_greatestWoken fk) := by
  refine CtI.mk (cc := cX2_greatestWoken) (maxL := 2) (ret := (some .int)) (by decide) rfl (Nat.le_of_ble_eq_true rfl) ?_
  intro p e s m below meth c A hBeg ls hl
  obtain ⟨hx, hb, hr, hml, hts0, hown, hlocks, hin, hA, hK, hP, hD, hS⟩ := hBeg
  have hts := fun w h => hts0 w (List.mem_cons_of_mem _ h)
  have hown : s.vm.findClass RX2 = some m.cls := hown
  have hl : lv_has ls 2 [(0, .ref qT)] := hl
  skip
  refine lv_bipush (v := 15) hx hb dX2_greatestWoken_0 (by decide) ?_
  refine lv_istore_n (lv' := [(1, .int 15), (0, .ref qT)]) hx hb dX2_greatestWoken_2 rfl hl (by decide) rfl (fun ls hl => ?_)
  refine lv_iload_n hx hb dX2_greatestWoken_3 rfl (lv_at hl 0 rfl) ?_
  refine lv_if_le (tgt := 24) hx hb dX2_greatestWoken_4 (by decide) (fun c_1 => ?_) (fun c_1 => ?_)
  · exact absurd c_1 (by decide)
  · skip
    refine lv_aload_n hx hb dX2_greatestWoken_7 rfl (lv_at hl 1 rfl) ?_
    refine va_get (D := D) (ci := 2) (v := .ref qk) (C := RX2) (T := TX2) (N := 7) hx hb hts ilX2 hown hK hP 0 rfl rfl 3 (by decide) (hts _ wf_X2_21) (fun _ h9 => h9) rfl dX2_greatestWoken_8 ?_
    refine lv_iload_n hx hb dX2_greatestWoken_11 rfl (lv_at hl 0 rfl) ?_
    refine va_zald hx hb hK hP 4 1 rfl rfl (by unfold vp_in; decide +kernel) dX2_greatestWoken_12 ?_
    refine lv_if_eq (tgt := 18) hx hb dX2_greatestWoken_13 (by decide) (fun c_2 => ?_) (fun c_2 => ?_)
    · skip
      refine lv_iinc (v := 14) (lv' := [(1, .int 14), (0, .ref qT)]) hx hb dX2_greatestWoken_18 hl (k := 0) rfl (by decide) (by decide) rfl (fun ls hl => ?_)
      refine lv_goto (tgt := 3) hx hb dX2_greatestWoken_21 (by decide) ?_
      refine lv_iload_n hx hb dX2_greatestWoken_3 rfl (lv_at hl 0 rfl) ?_
      refine lv_if_le (tgt := 24) hx hb dX2_greatestWoken_4 (by decide) (fun c_3 => ?_) (fun c_3 => ?_)
      · exact absurd c_3 (by decide)
      · skip
        refine lv_aload_n hx hb dX2_greatestWoken_7 rfl (lv_at hl 1 rfl) ?_
        refine va_get (D := D) (ci := 2) (v := .ref qk) (C := RX2) (T := TX2) (N := 7) hx hb hts ilX2 hown hK hP 0 rfl rfl 3 (by decide) (hts _ wf_X2_21) (fun _ h9 => h9) rfl dX2_greatestWoken_8 ?_
        refine lv_iload_n hx hb dX2_greatestWoken_11 rfl (lv_at hl 0 rfl) ?_
        refine va_zald hx hb hK hP 4 1 rfl rfl (by unfold vp_in; decide +kernel) dX2_greatestWoken_12 ?_
        refine lv_if_eq (tgt := 18) hx hb dX2_greatestWoken_13 (by decide) (fun c_4 => ?_) (fun c_4 => ?_)
        · skip
          refine lv_iinc (v := 13) (lv' := [(1, .int 13), (0, .ref qT)]) hx hb dX2_greatestWoken_18 hl (k := 0) rfl (by decide) (by decide) rfl (fun ls hl => ?_)
          refine lv_goto (tgt := 3) hx hb dX2_greatestWoken_21 (by decide) ?_
          refine lv_iload_n hx hb dX2_greatestWoken_3 rfl (lv_at hl 0 rfl) ?_
          refine lv_if_le (tgt := 24) hx hb dX2_greatestWoken_4 (by decide) (fun c_5 => ?_) (fun c_5 => ?_)
          · exact absurd c_5 (by decide)
          · skip
            refine lv_aload_n hx hb dX2_greatestWoken_7 rfl (lv_at hl 1 rfl) ?_
            refine va_get (D := D) (ci := 2) (v := .ref qk) (C := RX2) (T := TX2) (N := 7) hx hb hts ilX2 hown hK hP 0 rfl rfl 3 (by decide) (hts _ wf_X2_21) (fun _ h9 => h9) rfl dX2_greatestWoken_8 ?_
            refine lv_iload_n hx hb dX2_greatestWoken_11 rfl (lv_at hl 0 rfl) ?_
            refine va_zald hx hb hK hP 4 1 rfl rfl (by unfold vp_in; decide +kernel) dX2_greatestWoken_12 ?_
            refine lv_if_eq (tgt := 18) hx hb dX2_greatestWoken_13 (by decide) (fun c_6 => ?_) (fun c_6 => ?_)
            · skip
              refine lv_iinc (v := 12) (lv' := [(1, .int 12), (0, .ref qT)]) hx hb dX2_greatestWoken_18 hl (k := 0) rfl (by decide) (by decide) rfl (fun ls hl => ?_)
              refine lv_goto (tgt := 3) hx hb dX2_greatestWoken_21 (by decide) ?_
              refine lv_iload_n hx hb dX2_greatestWoken_3 rfl (lv_at hl 0 rfl) ?_
              refine lv_if_le (tgt := 24) hx hb dX2_greatestWoken_4 (by decide) (fun c_7 => ?_) (fun c_7 => ?_)
              · exact absurd c_7 (by decide)
              · skip
                refine lv_aload_n hx hb dX2_greatestWoken_7 rfl (lv_at hl 1 rfl) ?_
                refine va_get (D := D) (ci := 2) (v := .ref qk) (C := RX2) (T := TX2) (N := 7) hx hb hts ilX2 hown hK hP 0 rfl rfl 3 (by decide) (hts _ wf_X2_21) (fun _ h9 => h9) rfl dX2_greatestWoken_8 ?_
                refine lv_iload_n hx hb dX2_greatestWoken_11 rfl (lv_at hl 0 rfl) ?_
                refine va_zald hx hb hK hP 4 1 rfl rfl (by unfold vp_in; decide +kernel) dX2_greatestWoken_12 ?_
                refine lv_if_eq (tgt := 18) hx hb dX2_greatestWoken_13 (by decide) (fun c_8 => ?_) (fun c_8 => ?_)
                · skip
                  refine lv_iinc (v := 11) (lv' := [(1, .int 11), (0, .ref qT)]) hx hb dX2_greatestWoken_18 hl (k := 0) rfl (by decide) (by decide) rfl (fun ls hl => ?_)
                  refine lv_goto (tgt := 3) hx hb dX2_greatestWoken_21 (by decide) ?_
                  refine lv_iload_n hx hb dX2_greatestWoken_3 rfl (lv_at hl 0 rfl) ?_
                  refine lv_if_le (tgt := 24) hx hb dX2_greatestWoken_4 (by decide) (fun c_9 => ?_) (fun c_9 => ?_)
                  · exact absurd c_9 (by decide)
                  · skip
                    refine lv_aload_n hx hb dX2_greatestWoken_7 rfl (lv_at hl 1 rfl) ?_
                    refine va_get (D := D) (ci := 2) (v := .ref qk) (C := RX2) (T := TX2) (N := 7) hx hb hts ilX2 hown hK hP 0 rfl rfl 3 (by decide) (hts _ wf_X2_21) (fun _ h9 => h9) rfl dX2_greatestWoken_8 ?_
                    refine lv_iload_n hx hb dX2_greatestWoken_11 rfl (lv_at hl 0 rfl) ?_
                    refine va_zald hx hb hK hP 4 1 rfl rfl (by unfold vp_in; decide +kernel) dX2_greatestWoken_12 ?_
                    refine lv_if_eq (tgt := 18) hx hb dX2_greatestWoken_13 (by decide) (fun c_10 => ?_) (fun c_10 => ?_)
                    · skip
                      refine lv_iinc (v := 10) (lv' := [(1, .int 10), (0, .ref qT)]) hx hb dX2_greatestWoken_18 hl (k := 0) rfl (by decide) (by decide) rfl (fun ls hl => ?_)
                      refine lv_goto (tgt := 3) hx hb dX2_greatestWoken_21 (by decide) ?_
                      refine lv_iload_n hx hb dX2_greatestWoken_3 rfl (lv_at hl 0 rfl) ?_
                      refine lv_if_le (tgt := 24) hx hb dX2_greatestWoken_4 (by decide) (fun c_11 => ?_) (fun c_11 => ?_)
                      · exact absurd c_11 (by decide)
                      · skip
                        refine lv_aload_n hx hb dX2_greatestWoken_7 rfl (lv_at hl 1 rfl) ?_
                        refine va_get (D := D) (ci := 2) (v := .ref qk) (C := RX2) (T := TX2) (N := 7) hx hb hts ilX2 hown hK hP 0 rfl rfl 3 (by decide) (hts _ wf_X2_21) (fun _ h9 => h9) rfl dX2_greatestWoken_8 ?_
                        refine lv_iload_n hx hb dX2_greatestWoken_11 rfl (lv_at hl 0 rfl) ?_
                        refine va_zald hx hb hK hP 4 1 rfl rfl (by unfold vp_in; decide +kernel) dX2_greatestWoken_12 ?_
                        refine lv_if_eq (tgt := 18) hx hb dX2_greatestWoken_13 (by decide) (fun c_12 => ?_) (fun c_12 => ?_)
                        · skip
                          refine lv_iinc (v := 9) (lv' := [(1, .int 9), (0, .ref qT)]) hx hb dX2_greatestWoken_18 hl (k := 0) rfl (by decide) (by decide) rfl (fun ls hl => ?_)
                          refine lv_goto (tgt := 3) hx hb dX2_greatestWoken_21 (by decide) ?_
                          refine lv_iload_n hx hb dX2_greatestWoken_3 rfl (lv_at hl 0 rfl) ?_
                          refine lv_if_le (tgt := 24) hx hb dX2_greatestWoken_4 (by decide) (fun c_13 => ?_) (fun c_13 => ?_)
                          · exact absurd c_13 (by decide)
                          · skip
                            refine lv_aload_n hx hb dX2_greatestWoken_7 rfl (lv_at hl 1 rfl) ?_
                            refine va_get (D := D) (ci := 2) (v := .ref qk) (C := RX2) (T := TX2) (N := 7) hx hb hts ilX2 hown hK hP 0 rfl rfl 3 (by decide) (hts _ wf_X2_21) (fun _ h9 => h9) rfl dX2_greatestWoken_8 ?_
                            refine lv_iload_n hx hb dX2_greatestWoken_11 rfl (lv_at hl 0 rfl) ?_
                            refine va_zald hx hb hK hP 4 1 rfl rfl (by unfold vp_in; decide +kernel) dX2_greatestWoken_12 ?_
                            refine lv_if_eq (tgt := 18) hx hb dX2_greatestWoken_13 (by decide) (fun c_14 => ?_) (fun c_14 => ?_)
                            · skip
                              refine lv_iinc (v := 8) (lv' := [(1, .int 8), (0, .ref qT)]) hx hb dX2_greatestWoken_18 hl (k := 0) rfl (by decide) (by decide) rfl (fun ls hl => ?_)
                              refine lv_goto (tgt := 3) hx hb dX2_greatestWoken_21 (by decide) ?_
                              refine lv_iload_n hx hb dX2_greatestWoken_3 rfl (lv_at hl 0 rfl) ?_
                              refine lv_if_le (tgt := 24) hx hb dX2_greatestWoken_4 (by decide) (fun c_15 => ?_) (fun c_15 => ?_)
                              · exact absurd c_15 (by decide)
                              · skip
                                refine lv_aload_n hx hb dX2_greatestWoken_7 rfl (lv_at hl 1 rfl) ?_
                                refine va_get (D := D) (ci := 2) (v := .ref qk) (C := RX2) (T := TX2) (N := 7) hx hb hts ilX2 hown hK hP 0 rfl rfl 3 (by decide) (hts _ wf_X2_21) (fun _ h9 => h9) rfl dX2_greatestWoken_8 ?_
                                refine lv_iload_n hx hb dX2_greatestWoken_11 rfl (lv_at hl 0 rfl) ?_
                                refine va_zald hx hb hK hP 4 1 rfl rfl (by unfold vp_in; decide +kernel) dX2_greatestWoken_12 ?_
                                refine lv_if_eq (tgt := 18) hx hb dX2_greatestWoken_13 (by decide) (fun c_16 => ?_) (fun c_16 => ?_)
                                · skip
                                  refine lv_iinc (v := 7) (lv' := [(1, .int 7), (0, .ref qT)]) hx hb dX2_greatestWoken_18 hl (k := 0) rfl (by decide) (by decide) rfl (fun ls hl => ?_)
                                  refine lv_goto (tgt := 3) hx hb dX2_greatestWoken_21 (by decide) ?_
                                  refine lv_iload_n hx hb dX2_greatestWoken_3 rfl (lv_at hl 0 rfl) ?_
                                  refine lv_if_le (tgt := 24) hx hb dX2_greatestWoken_4 (by decide) (fun c_17 => ?_) (fun c_17 => ?_)
                                  · exact absurd c_17 (by decide)
                                  · skip
                                    refine lv_aload_n hx hb dX2_greatestWoken_7 rfl (lv_at hl 1 rfl) ?_
                                    refine va_get (D := D) (ci := 2) (v := .ref qk) (C := RX2) (T := TX2) (N := 7) hx hb hts ilX2 hown hK hP 0 rfl rfl 3 (by decide) (hts _ wf_X2_21) (fun _ h9 => h9) rfl dX2_greatestWoken_8 ?_
                                    refine lv_iload_n hx hb dX2_greatestWoken_11 rfl (lv_at hl 0 rfl) ?_
                                    refine va_zald hx hb hK hP 4 1 rfl rfl (by unfold vp_in; decide +kernel) dX2_greatestWoken_12 ?_
                                    refine lv_if_eq (tgt := 18) hx hb dX2_greatestWoken_13 (by decide) (fun c_18 => ?_) (fun c_18 => ?_)
                                    · skip
                                      refine lv_iinc (v := 6) (lv' := [(1, .int 6), (0, .ref qT)]) hx hb dX2_greatestWoken_18 hl (k := 0) rfl (by decide) (by decide) rfl (fun ls hl => ?_)
                                      refine lv_goto (tgt := 3) hx hb dX2_greatestWoken_21 (by decide) ?_
                                      refine lv_iload_n hx hb dX2_greatestWoken_3 rfl (lv_at hl 0 rfl) ?_
                                      refine lv_if_le (tgt := 24) hx hb dX2_greatestWoken_4 (by decide) (fun c_19 => ?_) (fun c_19 => ?_)
                                      · exact absurd c_19 (by decide)
                                      · skip
                                        refine lv_aload_n hx hb dX2_greatestWoken_7 rfl (lv_at hl 1 rfl) ?_
                                        refine va_get (D := D) (ci := 2) (v := .ref qk) (C := RX2) (T := TX2) (N := 7) hx hb hts ilX2 hown hK hP 0 rfl rfl 3 (by decide) (hts _ wf_X2_21) (fun _ h9 => h9) rfl dX2_greatestWoken_8 ?_
                                        refine lv_iload_n hx hb dX2_greatestWoken_11 rfl (lv_at hl 0 rfl) ?_
                                        refine va_zald hx hb hK hP 4 1 rfl rfl (by unfold vp_in; decide +kernel) dX2_greatestWoken_12 ?_
                                        refine lv_if_eq (tgt := 18) hx hb dX2_greatestWoken_13 (by decide) (fun c_20 => ?_) (fun c_20 => ?_)
                                        · skip
                                          refine lv_iinc (v := 5) (lv' := [(1, .int 5), (0, .ref qT)]) hx hb dX2_greatestWoken_18 hl (k := 0) rfl (by decide) (by decide) rfl (fun ls hl => ?_)
                                          refine lv_goto (tgt := 3) hx hb dX2_greatestWoken_21 (by decide) ?_
                                          refine lv_iload_n hx hb dX2_greatestWoken_3 rfl (lv_at hl 0 rfl) ?_
                                          refine lv_if_le (tgt := 24) hx hb dX2_greatestWoken_4 (by decide) (fun c_21 => ?_) (fun c_21 => ?_)
                                          · exact absurd c_21 (by decide)
                                          · skip
                                            refine lv_aload_n hx hb dX2_greatestWoken_7 rfl (lv_at hl 1 rfl) ?_
                                            refine va_get (D := D) (ci := 2) (v := .ref qk) (C := RX2) (T := TX2) (N := 7) hx hb hts ilX2 hown hK hP 0 rfl rfl 3 (by decide) (hts _ wf_X2_21) (fun _ h9 => h9) rfl dX2_greatestWoken_8 ?_
                                            refine lv_iload_n hx hb dX2_greatestWoken_11 rfl (lv_at hl 0 rfl) ?_
                                            refine va_zald hx hb hK hP 4 1 rfl rfl (by unfold vp_in; decide +kernel) dX2_greatestWoken_12 ?_
                                            refine lv_if_eq (tgt := 18) hx hb dX2_greatestWoken_13 (by decide) (fun c_22 => ?_) (fun c_22 => ?_)
                                            · skip
                                              refine lv_iinc (v := 4) (lv' := [(1, .int 4), (0, .ref qT)]) hx hb dX2_greatestWoken_18 hl (k := 0) rfl (by decide) (by decide) rfl (fun ls hl => ?_)
                                              refine lv_goto (tgt := 3) hx hb dX2_greatestWoken_21 (by decide) ?_
                                              refine lv_iload_n hx hb dX2_greatestWoken_3 rfl (lv_at hl 0 rfl) ?_
                                              refine lv_if_le (tgt := 24) hx hb dX2_greatestWoken_4 (by decide) (fun c_23 => ?_) (fun c_23 => ?_)
                                              · exact absurd c_23 (by decide)
                                              · skip
                                                refine lv_aload_n hx hb dX2_greatestWoken_7 rfl (lv_at hl 1 rfl) ?_
                                                refine va_get (D := D) (ci := 2) (v := .ref qk) (C := RX2) (T := TX2) (N := 7) hx hb hts ilX2 hown hK hP 0 rfl rfl 3 (by decide) (hts _ wf_X2_21) (fun _ h9 => h9) rfl dX2_greatestWoken_8 ?_
                                                refine lv_iload_n hx hb dX2_greatestWoken_11 rfl (lv_at hl 0 rfl) ?_
                                                refine va_zald hx hb hK hP 4 1 rfl rfl (by unfold vp_in; decide +kernel) dX2_greatestWoken_12 ?_
                                                refine lv_if_eq (tgt := 18) hx hb dX2_greatestWoken_13 (by decide) (fun c_24 => ?_) (fun c_24 => ?_)
                                                · skip
                                                  refine lv_iinc (v := 3) (lv' := [(1, .int 3), (0, .ref qT)]) hx hb dX2_greatestWoken_18 hl (k := 0) rfl (by decide) (by decide) rfl (fun ls hl => ?_)
                                                  refine lv_goto (tgt := 3) hx hb dX2_greatestWoken_21 (by decide) ?_
                                                  refine lv_iload_n hx hb dX2_greatestWoken_3 rfl (lv_at hl 0 rfl) ?_
                                                  refine lv_if_le (tgt := 24) hx hb dX2_greatestWoken_4 (by decide) (fun c_25 => ?_) (fun c_25 => ?_)
                                                  · exact absurd c_25 (by decide)
                                                  · skip
                                                    refine lv_aload_n hx hb dX2_greatestWoken_7 rfl (lv_at hl 1 rfl) ?_
                                                    refine va_get (D := D) (ci := 2) (v := .ref qk) (C := RX2) (T := TX2) (N := 7) hx hb hts ilX2 hown hK hP 0 rfl rfl 3 (by decide) (hts _ wf_X2_21) (fun _ h9 => h9) rfl dX2_greatestWoken_8 ?_
                                                    refine lv_iload_n hx hb dX2_greatestWoken_11 rfl (lv_at hl 0 rfl) ?_
                                                    refine va_zald hx hb hK hP 4 1 rfl rfl (by unfold vp_in; decide +kernel) dX2_greatestWoken_12 ?_
                                                    refine lv_if_eq (tgt := 18) hx hb dX2_greatestWoken_13 (by decide) (fun c_26 => ?_) (fun c_26 => ?_)
                                                    · skip
                                                      refine lv_iinc (v := 2) (lv' := [(1, .int 2), (0, .ref qT)]) hx hb dX2_greatestWoken_18 hl (k := 0) rfl (by decide) (by decide) rfl (fun ls hl => ?_)
                                                      refine lv_goto (tgt := 3) hx hb dX2_greatestWoken_21 (by decide) ?_
                                                      refine lv_iload_n hx hb dX2_greatestWoken_3 rfl (lv_at hl 0 rfl) ?_
                                                      refine lv_if_le (tgt := 24) hx hb dX2_greatestWoken_4 (by decide) (fun c_27 => ?_) (fun c_27 => ?_)
                                                      · exact absurd c_27 (by decide)
                                                      · skip
                                                        refine lv_aload_n hx hb dX2_greatestWoken_7 rfl (lv_at hl 1 rfl) ?_
                                                        refine va_get (D := D) (ci := 2) (v := .ref qk) (C := RX2) (T := TX2) (N := 7) hx hb hts ilX2 hown hK hP 0 rfl rfl 3 (by decide) (hts _ wf_X2_21) (fun _ h9 => h9) rfl dX2_greatestWoken_8 ?_
                                                        refine lv_iload_n hx hb dX2_greatestWoken_11 rfl (lv_at hl 0 rfl) ?_
                                                        refine va_zald hx hb hK hP 4 1 rfl rfl (by unfold vp_in; decide +kernel) dX2_greatestWoken_12 ?_
                                                        refine lv_if_eq (tgt := 18) hx hb dX2_greatestWoken_13 (by decide) (fun c_28 => ?_) (fun c_28 => ?_)
                                                        · skip
                                                          refine lv_iinc (v := 1) (lv' := [(1, .int 1), (0, .ref qT)]) hx hb dX2_greatestWoken_18 hl (k := 0) rfl (by decide) (by decide) rfl (fun ls hl => ?_)
                                                          refine lv_goto (tgt := 3) hx hb dX2_greatestWoken_21 (by decide) ?_
                                                          refine lv_iload_n hx hb dX2_greatestWoken_3 rfl (lv_at hl 0 rfl) ?_
                                                          refine lv_if_le (tgt := 24) hx hb dX2_greatestWoken_4 (by decide) (fun c_29 => ?_) (fun c_29 => ?_)
                                                          · exact absurd c_29 (by decide)
                                                          · skip
                                                            refine lv_aload_n hx hb dX2_greatestWoken_7 rfl (lv_at hl 1 rfl) ?_
                                                            refine va_get (D := D) (ci := 2) (v := .ref qk) (C := RX2) (T := TX2) (N := 7) hx hb hts ilX2 hown hK hP 0 rfl rfl 3 (by decide) (hts _ wf_X2_21) (fun _ h9 => h9) rfl dX2_greatestWoken_8 ?_
                                                            refine lv_iload_n hx hb dX2_greatestWoken_11 rfl (lv_at hl 0 rfl) ?_
                                                            refine va_zald hx hb hK hP 4 1 rfl rfl (by unfold vp_in; decide +kernel) dX2_greatestWoken_12 ?_
                                                            refine lv_if_eq (tgt := 18) hx hb dX2_greatestWoken_13 (by decide) (fun c_30 => ?_) (fun c_30 => ?_)
                                                            · skip
                                                              refine lv_iinc (v := 0) (lv' := [(1, .int 0), (0, .ref qT)]) hx hb dX2_greatestWoken_18 hl (k := 0) rfl (by decide) (by decide) rfl (fun ls hl => ?_)
                                                              refine lv_goto (tgt := 3) hx hb dX2_greatestWoken_21 (by decide) ?_
                                                              refine lv_iload_n hx hb dX2_greatestWoken_3 rfl (lv_at hl 0 rfl) ?_
                                                              refine lv_if_le (tgt := 24) hx hb dX2_greatestWoken_4 (by decide) (fun c_31 => ?_) (fun c_31 => ?_)
                                                              · skip
                                                                refine lv_iconst (v := 0) hx hb dX2_greatestWoken_24 (by decide) ?_
                                                                have e_1 : r_X2_greatestWoken fk = 0 := by simp only [r_X2_greatestWoken, if_pos c_2, if_pos c_4, if_pos c_6, if_pos c_8, if_pos c_10, if_pos c_12, if_pos c_14, if_pos c_16, if_pos c_18, if_pos c_20, if_pos c_22, if_pos c_24, if_pos c_26, if_pos c_28, if_pos c_30]
                                                                exact ct_iret hx hb hr hlocks hP hD hS rfl (by rw [e_1]) dX2_greatestWoken_25
                                                              · exact absurd c_31 (by decide)
                                                            · skip
                                                              refine lv_iload_n hx hb dX2_greatestWoken_16 rfl (lv_at hl 0 rfl) ?_
                                                              have e_1 : r_X2_greatestWoken fk = 1 := by simp only [r_X2_greatestWoken, if_pos c_2, if_pos c_4, if_pos c_6, if_pos c_8, if_pos c_10, if_pos c_12, if_pos c_14, if_pos c_16, if_pos c_18, if_pos c_20, if_pos c_22, if_pos c_24, if_pos c_26, if_pos c_28, if_neg c_30]
                                                              exact ct_iret hx hb hr hlocks hP hD hS rfl (by rw [e_1]) dX2_greatestWoken_17
                                                        · skip
                                                          refine lv_iload_n hx hb dX2_greatestWoken_16 rfl (lv_at hl 0 rfl) ?_
                                                          have e_1 : r_X2_greatestWoken fk = 2 := by simp only [r_X2_greatestWoken, if_pos c_2, if_pos c_4, if_pos c_6, if_pos c_8, if_pos c_10, if_pos c_12, if_pos c_14, if_pos c_16, if_pos c_18, if_pos c_20, if_pos c_22, if_pos c_24, if_pos c_26, if_neg c_28]
                                                          exact ct_iret hx hb hr hlocks hP hD hS rfl (by rw [e_1]) dX2_greatestWoken_17
                                                    · skip
                                                      refine lv_iload_n hx hb dX2_greatestWoken_16 rfl (lv_at hl 0 rfl) ?_
                                                      have e_1 : r_X2_greatestWoken fk = 3 := by simp only [r_X2_greatestWoken, if_pos c_2, if_pos c_4, if_pos c_6, if_pos c_8, if_pos c_10, if_pos c_12, if_pos c_14, if_pos c_16, if_pos c_18, if_pos c_20, if_pos c_22, if_pos c_24, if_neg c_26]
                                                      exact ct_iret hx hb hr hlocks hP hD hS rfl (by rw [e_1]) dX2_greatestWoken_17
                                                · skip
                                                  refine lv_iload_n hx hb dX2_greatestWoken_16 rfl (lv_at hl 0 rfl) ?_
                                                  have e_1 : r_X2_greatestWoken fk = 4 := by simp only [r_X2_greatestWoken, if_pos c_2, if_pos c_4, if_pos c_6, if_pos c_8, if_pos c_10, if_pos c_12, if_pos c_14, if_pos c_16, if_pos c_18, if_pos c_20, if_pos c_22, if_neg c_24]
                                                  exact ct_iret hx hb hr hlocks hP hD hS rfl (by rw [e_1]) dX2_greatestWoken_17
                                            · skip
                                              refine lv_iload_n hx hb dX2_greatestWoken_16 rfl (lv_at hl 0 rfl) ?_
                                              have e_1 : r_X2_greatestWoken fk = 5 := by simp only [r_X2_greatestWoken, if_pos c_2, if_pos c_4, if_pos c_6, if_pos c_8, if_pos c_10, if_pos c_12, if_pos c_14, if_pos c_16, if_pos c_18, if_pos c_20, if_neg c_22]
                                              exact ct_iret hx hb hr hlocks hP hD hS rfl (by rw [e_1]) dX2_greatestWoken_17
                                        · skip
                                          refine lv_iload_n hx hb dX2_greatestWoken_16 rfl (lv_at hl 0 rfl) ?_
                                          have e_1 : r_X2_greatestWoken fk = 6 := by simp only [r_X2_greatestWoken, if_pos c_2, if_pos c_4, if_pos c_6, if_pos c_8, if_pos c_10, if_pos c_12, if_pos c_14, if_pos c_16, if_pos c_18, if_neg c_20]
                                          exact ct_iret hx hb hr hlocks hP hD hS rfl (by rw [e_1]) dX2_greatestWoken_17
                                    · skip
                                      refine lv_iload_n hx hb dX2_greatestWoken_16 rfl (lv_at hl 0 rfl) ?_
                                      have e_1 : r_X2_greatestWoken fk = 7 := by simp only [r_X2_greatestWoken, if_pos c_2, if_pos c_4, if_pos c_6, if_pos c_8, if_pos c_10, if_pos c_12, if_pos c_14, if_pos c_16, if_neg c_18]
                                      exact ct_iret hx hb hr hlocks hP hD hS rfl (by rw [e_1]) dX2_greatestWoken_17
                                · skip
                                  refine lv_iload_n hx hb dX2_greatestWoken_16 rfl (lv_at hl 0 rfl) ?_
                                  have e_1 : r_X2_greatestWoken fk = 8 := by simp only [r_X2_greatestWoken, if_pos c_2, if_pos c_4, if_pos c_6, if_pos c_8, if_pos c_10, if_pos c_12, if_pos c_14, if_neg c_16]
                                  exact ct_iret hx hb hr hlocks hP hD hS rfl (by rw [e_1]) dX2_greatestWoken_17
                            · skip
                              refine lv_iload_n hx hb dX2_greatestWoken_16 rfl (lv_at hl 0 rfl) ?_
                              have e_1 : r_X2_greatestWoken fk = 9 := by simp only [r_X2_greatestWoken, if_pos c_2, if_pos c_4, if_pos c_6, if_pos c_8, if_pos c_10, if_pos c_12, if_neg c_14]
                              exact ct_iret hx hb hr hlocks hP hD hS rfl (by rw [e_1]) dX2_greatestWoken_17
                        · skip
                          refine lv_iload_n hx hb dX2_greatestWoken_16 rfl (lv_at hl 0 rfl) ?_
                          have e_1 : r_X2_greatestWoken fk = 10 := by simp only [r_X2_greatestWoken, if_pos c_2, if_pos c_4, if_pos c_6, if_pos c_8, if_pos c_10, if_neg c_12]
                          exact ct_iret hx hb hr hlocks hP hD hS rfl (by rw [e_1]) dX2_greatestWoken_17
                    · skip
                      refine lv_iload_n hx hb dX2_greatestWoken_16 rfl (lv_at hl 0 rfl) ?_
                      have e_1 : r_X2_greatestWoken fk = 11 := by simp only [r_X2_greatestWoken, if_pos c_2, if_pos c_4, if_pos c_6, if_pos c_8, if_neg c_10]
                      exact ct_iret hx hb hr hlocks hP hD hS rfl (by rw [e_1]) dX2_greatestWoken_17
                · skip
                  refine lv_iload_n hx hb dX2_greatestWoken_16 rfl (lv_at hl 0 rfl) ?_
                  have e_1 : r_X2_greatestWoken fk = 12 := by simp only [r_X2_greatestWoken, if_pos c_2, if_pos c_4, if_pos c_6, if_neg c_8]
                  exact ct_iret hx hb hr hlocks hP hD hS rfl (by rw [e_1]) dX2_greatestWoken_17
            · skip
              refine lv_iload_n hx hb dX2_greatestWoken_16 rfl (lv_at hl 0 rfl) ?_
              have e_1 : r_X2_greatestWoken fk = 13 := by simp only [r_X2_greatestWoken, if_pos c_2, if_pos c_4, if_neg c_6]
              exact ct_iret hx hb hr hlocks hP hD hS rfl (by rw [e_1]) dX2_greatestWoken_17
        · skip
          refine lv_iload_n hx hb dX2_greatestWoken_16 rfl (lv_at hl 0 rfl) ?_
          have e_1 : r_X2_greatestWoken fk = 14 := by simp only [r_X2_greatestWoken, if_pos c_2, if_neg c_4]
          exact ct_iret hx hb hr hlocks hP hD hS rfl (by rw [e_1]) dX2_greatestWoken_17
    · skip
      refine lv_iload_n hx hb dX2_greatestWoken_16 rfl (lv_at hl 0 rfl) ?_
      have e_1 : r_X2_greatestWoken fk = 15 := by simp only [r_X2_greatestWoken, if_neg c_2]
      exact ct_iret hx hb hr hlocks hP hD hS rfl (by rw [e_1]) dX2_greatestWoken_17
def z_X2_giveTo_qT4 (hand : Int32) (p0 : Int32) : Int32 := (if p0 = hand then hand else p0)
def z_X2_giveTo_qT5 (hand : Int32) (hov : Int32) (p0 : Int32) : Int32 := (if p0 = hand then hov else hov + 1)
set_option maxHeartbeats 4000000 in
set_option maxRecDepth 100000 in
theorem c_X2_giveTo (l : Launch) (D : va_G) (cI cZ : ClassId) (qT : Nat) (qp : Nat) (qc : Nat) (qd : Nat) (qk : Nat) (fp : Nat → Int32) (fc : Nat → Int32) (fd : Nat → Int32) (fk : Nat → Int32) (hand : Int32) (hov : Int32) (said : Int32) (p0 : Int32) : CtV l D classes [(cI, .int), (cZ, .boolean)] yX2_giveTo w_X2_giveTo { frames := 0, cells := 0, slots := 0, locals := 0 } [.ref qT, .int p0] [(qT, .inr (2, [.ref qp, .ref qc, .ref qd, .ref qk, .int hand, .int hov, .int said])), (qp, .inl (cI, 16, .inl fp)), (qc, .inl (cI, 16, .inl fc)), (qd, .inl (cI, 16, .inl fd)), (qk, .inl (cZ, 16, .inl fk))] (fun (_ : Unit) => [(qT, .inr (2, [.ref qp, .ref qc, .ref qd, .ref qk, .int (z_X2_giveTo_qT4 hand p0), .int (z_X2_giveTo_qT5 hand hov p0), .int said])), (qp, .inl (cI, 16, .inl fp)), (qc, .inl (cI, 16, .inl fc)), (qd, .inl (cI, 16, .inl fd)), (qk, .inl (cZ, 16, .inl fk))]) 0 0 := by
  refine CtV.mk (cc := cX2_giveTo) (maxL := 2) (ret := none) (by decide) rfl (Nat.le_of_ble_eq_true rfl) ?_
  intro p e s m below meth c A hBeg ls hl
  obtain ⟨hx, hb, hr, hml, hts0, hown, hlocks, hin, hA, hK, hP, hD, hS⟩ := hBeg
  have hts := fun w h => hts0 w (List.mem_cons_of_mem _ h)
  have hown : s.vm.findClass RX2 = some m.cls := hown
  have hl : lv_has ls 2 [(0, .ref qT), (1, .int p0)] := hl
  skip
  refine lv_iload_n hx hb dX2_giveTo_0 rfl (lv_at hl 1 rfl) ?_
  refine lv_aload_n hx hb dX2_giveTo_1 rfl (lv_at hl 0 rfl) ?_
  refine va_get (D := D) (ci := 2) (v := .int hand) (C := RX2) (T := TX2) (N := 7) hx hb hts ilX2 hown hK hP 0 rfl rfl 4 (by decide) (hts _ wf_X2_25) (fun _ h9 => h9) rfl dX2_giveTo_2 ?_
  refine lv_icmp_eq (tgt := 23) hx hb dX2_giveTo_5 (by decide) (fun c_1 => ?_) (fun c_1 => ?_)
  · skip
    have e_1 : z_X2_giveTo_qT4 hand p0 = hand := by simp only [z_X2_giveTo_qT4, if_pos c_1]
    have e_2 : z_X2_giveTo_qT5 hand hov p0 = hov := by simp only [z_X2_giveTo_qT5, if_pos c_1]
    exact ct_vret () hx hb hr hlocks hP hD hS (by rw [e_1, e_2]) dX2_giveTo_23
  · skip
    refine lv_aload_n hx hb dX2_giveTo_8 rfl (lv_at hl 0 rfl) ?_
    refine lv_iload_n hx hb dX2_giveTo_9 rfl (lv_at hl 1 rfl) ?_
    refine va_put (D := D) (ci := 2) (v := .int p0) (ty := (.int)) (C := RX2) (T := TX2) (N := 7) hx hb hts ilX2 tyX2 tyX2_ok nmX2 hown hK hP hD hS 0 rfl rfl 4 (by decide) (hts _ wf_X2_25) (fun _ h9 => h9) rfl (by decide +kernel) rfl rfl (Nat.le_of_ble_eq_true rfl) dX2_giveTo_10 (fun H locs hP hD hS => ?_)
    have hP : va_P D classes [(qT, .inr (2, [.ref qp, .ref qc, .ref qd, .ref qk, .int p0, .int hov, .int said])), (qp, .inl (cI, 16, .inl fp)), (qc, .inl (cI, 16, .inl fc)), (qd, .inl (cI, 16, .inl fd)), (qk, .inl (cZ, 16, .inl fk))] H := hP
    have hD : va_D A [(qT, .inr (2, [.ref qp, .ref qc, .ref qd, .ref qk, .int p0, .int hov, .int said])), (qp, .inl (cI, 16, .inl fp)), (qc, .inl (cI, 16, .inl fc)), (qd, .inl (cI, 16, .inl fd)), (qk, .inl (cZ, 16, .inl fk))] := hD
    refine lv_aload_n hx hb dX2_giveTo_13 rfl (lv_at hl 0 rfl) ?_
    refine lv_dup hx hb dX2_giveTo_14 rfl ?_
    refine va_get (D := D) (ci := 2) (v := .int hov) (C := RX2) (T := TX2) (N := 7) hx hb hts ilX2 hown hK hP 0 rfl rfl 5 (by decide) (hts _ wf_X2_41) (fun _ h9 => h9) rfl dX2_giveTo_15 ?_
    refine lv_iconst (v := 1) hx hb dX2_giveTo_18 (by decide) ?_
    refine lv_iadd hx hb dX2_giveTo_19 ?_
    refine va_put (D := D) (ci := 2) (v := .int (hov + 1)) (ty := (.int)) (C := RX2) (T := TX2) (N := 7) hx hb hts ilX2 tyX2 tyX2_ok nmX2 hown hK hP hD hS 0 rfl rfl 5 (by decide) (hts _ wf_X2_41) (fun _ h9 => h9) rfl (by decide +kernel) rfl rfl (Nat.le_of_ble_eq_true rfl) dX2_giveTo_20 (fun H locs hP hD hS => ?_)
    have hP : va_P D classes [(qT, .inr (2, [.ref qp, .ref qc, .ref qd, .ref qk, .int p0, .int (hov + 1), .int said])), (qp, .inl (cI, 16, .inl fp)), (qc, .inl (cI, 16, .inl fc)), (qd, .inl (cI, 16, .inl fd)), (qk, .inl (cZ, 16, .inl fk))] H := hP
    have hD : va_D A [(qT, .inr (2, [.ref qp, .ref qc, .ref qd, .ref qk, .int p0, .int (hov + 1), .int said])), (qp, .inl (cI, 16, .inl fp)), (qc, .inl (cI, 16, .inl fc)), (qd, .inl (cI, 16, .inl fd)), (qk, .inl (cZ, 16, .inl fk))] := hD
    have e_1 : z_X2_giveTo_qT4 hand p0 = p0 := by simp only [z_X2_giveTo_qT4, if_neg c_1]
    have e_2 : z_X2_giveTo_qT5 hand hov p0 = hov + 1 := by simp only [z_X2_giveTo_qT5, if_neg c_1]
    exact ct_vret () hx hb hr hlocks hP hD hS (by rw [e_1, e_2]) dX2_giveTo_23
def j_X2_goOn_65_qk (fk : Nat → Int32) (hand : Int32) (p2 : Int32) : Nat → Int32 := (if p2 = 3 then (if hand = 0 then fk else upd fk (Int32.toNatClampNeg hand) 0) else fk)
def j_X2_goOn_80_qT4 (fk : Nat → Int32) (hand : Int32) (said : Int32) (p2 : Int32) : Int32 := (if said = 0 then hand else z_X2_giveTo_qT4 hand (r_X2_greatestWoken (j_X2_goOn_65_qk fk hand p2)))
def j_X2_goOn_80_qT5 (fk : Nat → Int32) (hand : Int32) (hov : Int32) (said : Int32) (p2 : Int32) : Int32 := (if said = 0 then hov else z_X2_giveTo_qT5 hand hov (r_X2_greatestWoken (j_X2_goOn_65_qk fk hand p2)))
def z_X2_goOn_qT6 (p2 : Int32) : Int32 := (if p2 = 2 then 1 else 0)
set_option maxHeartbeats 4000000 in
set_option maxRecDepth 100000 in
theorem c_X2_goOn (l : Launch) (D : va_G) (cI cZ : ClassId) (qT : Nat) (qp : Nat) (qc : Nat) (qd : Nat) (qk : Nat) (fp : Nat → Int32) (fc : Nat → Int32) (fd : Nat → Int32) (fk : Nat → Int32) (hand : Int32) (hov : Int32) (said : Int32) (p0 : Int32) (p1 : Int32) (p2 : Int32) (hh : vp_in hand 16) : CtV l D classes [(cI, .int), (cZ, .boolean)] yX2_goOn w_X2_goOn { frames := 1, cells := 0, slots := 0, locals := 21 } [.ref qT, .int p0, .int p1, .int p2] [(qT, .inr (2, [.ref qp, .ref qc, .ref qd, .ref qk, .int hand, .int hov, .int said])), (qp, .inl (cI, 16, .inl fp)), (qc, .inl (cI, 16, .inl fc)), (qd, .inl (cI, 16, .inl fd)), (qk, .inl (cZ, 16, .inl fk))] (fun (_ : Unit) => [(qT, .inr (2, [.ref qp, .ref qc, .ref qd, .ref qk, .int (j_X2_goOn_80_qT4 fk hand said p2), .int (j_X2_goOn_80_qT5 fk hand hov said p2), .int (z_X2_goOn_qT6 p2)])), (qp, .inl (cI, 16, .inl (upd fp (Int32.toNatClampNeg hand) (p0 ||| (fc (Int32.toNatClampNeg hand)))))), (qc, .inl (cI, 16, .inl (upd fc (Int32.toNatClampNeg hand) p1))), (qd, .inl (cI, 16, .inl (upd fd (Int32.toNatClampNeg hand) ((fd (Int32.toNatClampNeg hand)) + 1)))), (qk, .inl (cZ, 16, .inl (j_X2_goOn_65_qk fk hand p2)))]) 0 0 := by
  refine CtV.mk (cc := cX2_goOn) (maxL := 4) (ret := none) (by decide) rfl (Nat.le_of_ble_eq_true rfl) ?_
  intro p e s m below meth c A hBeg ls hl
  obtain ⟨hx, hb, hr, hml, hts0, hown, hlocks, hin, hA, hK, hP, hD, hS⟩ := hBeg
  have hts := fun w h => hts0 w (List.mem_cons_of_mem _ h)
  have hown : s.vm.findClass RX2 = some m.cls := hown
  have hl : lv_has ls 4 [(0, .ref qT), (1, .int p0), (2, .int p1), (3, .int p2)] := hl
  skip
  refine lv_aload_n hx hb dX2_goOn_0 rfl (lv_at hl 0 rfl) ?_
  refine va_get (D := D) (ci := 2) (v := .ref qp) (C := RX2) (T := TX2) (N := 7) hx hb hts ilX2 hown hK hP 0 rfl rfl 0 (by decide) (hts _ wf_X2_9) (fun _ h9 => h9) rfl dX2_goOn_1 ?_
  refine lv_aload_n hx hb dX2_goOn_4 rfl (lv_at hl 0 rfl) ?_
  refine va_get (D := D) (ci := 2) (v := .int hand) (C := RX2) (T := TX2) (N := 7) hx hb hts ilX2 hown hK hP 0 rfl rfl 4 (by decide) (hts _ wf_X2_25) (fun _ h9 => h9) rfl dX2_goOn_5 ?_
  refine lv_iload_n hx hb dX2_goOn_8 rfl (lv_at hl 1 rfl) ?_
  refine lv_aload_n hx hb dX2_goOn_9 rfl (lv_at hl 0 rfl) ?_
  refine va_get (D := D) (ci := 2) (v := .ref qc) (C := RX2) (T := TX2) (N := 7) hx hb hts ilX2 hown hK hP 0 rfl rfl 1 (by decide) (hts _ wf_X2_15) (fun _ h9 => h9) rfl dX2_goOn_10 ?_
  refine lv_aload_n hx hb dX2_goOn_13 rfl (lv_at hl 0 rfl) ?_
  refine va_get (D := D) (ci := 2) (v := .int hand) (C := RX2) (T := TX2) (N := 7) hx hb hts ilX2 hown hK hP 0 rfl rfl 4 (by decide) (hts _ wf_X2_25) (fun _ h9 => h9) rfl dX2_goOn_14 ?_
  refine va_iald hx hb hK hP 2 0 rfl rfl hh dX2_goOn_17 ?_
  refine lv_ior hx hb dX2_goOn_18 ?_
  refine va_iast hx hb hK hP hD hS 1 0 rfl rfl hh dX2_goOn_19 (fun H locs hP hD hS => ?_)
  have hP : va_P D classes [(qT, .inr (2, [.ref qp, .ref qc, .ref qd, .ref qk, .int hand, .int hov, .int said])), (qp, .inl (cI, 16, .inl (upd fp (Int32.toNatClampNeg hand) (p0 ||| (fc (Int32.toNatClampNeg hand)))))), (qc, .inl (cI, 16, .inl fc)), (qd, .inl (cI, 16, .inl fd)), (qk, .inl (cZ, 16, .inl fk))] H := hP
  have hD : va_D A [(qT, .inr (2, [.ref qp, .ref qc, .ref qd, .ref qk, .int hand, .int hov, .int said])), (qp, .inl (cI, 16, .inl (upd fp (Int32.toNatClampNeg hand) (p0 ||| (fc (Int32.toNatClampNeg hand)))))), (qc, .inl (cI, 16, .inl fc)), (qd, .inl (cI, 16, .inl fd)), (qk, .inl (cZ, 16, .inl fk))] := hD
  refine lv_aload_n hx hb dX2_goOn_20 rfl (lv_at hl 0 rfl) ?_
  refine va_get (D := D) (ci := 2) (v := .ref qc) (C := RX2) (T := TX2) (N := 7) hx hb hts ilX2 hown hK hP 0 rfl rfl 1 (by decide) (hts _ wf_X2_15) (fun _ h9 => h9) rfl dX2_goOn_21 ?_
  refine lv_aload_n hx hb dX2_goOn_24 rfl (lv_at hl 0 rfl) ?_
  refine va_get (D := D) (ci := 2) (v := .int hand) (C := RX2) (T := TX2) (N := 7) hx hb hts ilX2 hown hK hP 0 rfl rfl 4 (by decide) (hts _ wf_X2_25) (fun _ h9 => h9) rfl dX2_goOn_25 ?_
  refine lv_iload_n hx hb dX2_goOn_28 rfl (lv_at hl 2 rfl) ?_
  refine va_iast hx hb hK hP hD hS 2 0 rfl rfl hh dX2_goOn_29 (fun H locs hP hD hS => ?_)
  have hP : va_P D classes [(qT, .inr (2, [.ref qp, .ref qc, .ref qd, .ref qk, .int hand, .int hov, .int said])), (qp, .inl (cI, 16, .inl (upd fp (Int32.toNatClampNeg hand) (p0 ||| (fc (Int32.toNatClampNeg hand)))))), (qc, .inl (cI, 16, .inl (upd fc (Int32.toNatClampNeg hand) p1))), (qd, .inl (cI, 16, .inl fd)), (qk, .inl (cZ, 16, .inl fk))] H := hP
  have hD : va_D A [(qT, .inr (2, [.ref qp, .ref qc, .ref qd, .ref qk, .int hand, .int hov, .int said])), (qp, .inl (cI, 16, .inl (upd fp (Int32.toNatClampNeg hand) (p0 ||| (fc (Int32.toNatClampNeg hand)))))), (qc, .inl (cI, 16, .inl (upd fc (Int32.toNatClampNeg hand) p1))), (qd, .inl (cI, 16, .inl fd)), (qk, .inl (cZ, 16, .inl fk))] := hD
  refine lv_aload_n hx hb dX2_goOn_30 rfl (lv_at hl 0 rfl) ?_
  refine va_get (D := D) (ci := 2) (v := .ref qd) (C := RX2) (T := TX2) (N := 7) hx hb hts ilX2 hown hK hP 0 rfl rfl 2 (by decide) (hts _ wf_X2_18) (fun _ h9 => h9) rfl dX2_goOn_31 ?_
  refine lv_aload_n hx hb dX2_goOn_34 rfl (lv_at hl 0 rfl) ?_
  refine va_get (D := D) (ci := 2) (v := .int hand) (C := RX2) (T := TX2) (N := 7) hx hb hts ilX2 hown hK hP 0 rfl rfl 4 (by decide) (hts _ wf_X2_25) (fun _ h9 => h9) rfl dX2_goOn_35 ?_
  refine lv_dup2_11 hx hb dX2_goOn_38 rfl rfl ?_
  refine va_iald hx hb hK hP 3 0 rfl rfl hh dX2_goOn_39 ?_
  refine lv_iconst (v := 1) hx hb dX2_goOn_40 (by decide) ?_
  refine lv_iadd hx hb dX2_goOn_41 ?_
  refine va_iast hx hb hK hP hD hS 3 0 rfl rfl hh dX2_goOn_42 (fun H locs hP hD hS => ?_)
  have hP : va_P D classes [(qT, .inr (2, [.ref qp, .ref qc, .ref qd, .ref qk, .int hand, .int hov, .int said])), (qp, .inl (cI, 16, .inl (upd fp (Int32.toNatClampNeg hand) (p0 ||| (fc (Int32.toNatClampNeg hand)))))), (qc, .inl (cI, 16, .inl (upd fc (Int32.toNatClampNeg hand) p1))), (qd, .inl (cI, 16, .inl (upd fd (Int32.toNatClampNeg hand) ((fd (Int32.toNatClampNeg hand)) + 1)))), (qk, .inl (cZ, 16, .inl fk))] H := hP
  have hD : va_D A [(qT, .inr (2, [.ref qp, .ref qc, .ref qd, .ref qk, .int hand, .int hov, .int said])), (qp, .inl (cI, 16, .inl (upd fp (Int32.toNatClampNeg hand) (p0 ||| (fc (Int32.toNatClampNeg hand)))))), (qc, .inl (cI, 16, .inl (upd fc (Int32.toNatClampNeg hand) p1))), (qd, .inl (cI, 16, .inl (upd fd (Int32.toNatClampNeg hand) ((fd (Int32.toNatClampNeg hand)) + 1)))), (qk, .inl (cZ, 16, .inl fk))] := hD
  refine lv_iload_n hx hb dX2_goOn_43 rfl (lv_at hl 3 rfl) ?_
  refine lv_iconst (v := 3) hx hb dX2_goOn_44 (by decide) ?_
  refine ct_merge (fun H locs ls => va_P D classes [(qT, .inr (2, [.ref qp, .ref qc, .ref qd, .ref qk, .int hand, .int hov, .int said])), (qp, .inl (cI, 16, .inl (upd fp (Int32.toNatClampNeg hand) (p0 ||| (fc (Int32.toNatClampNeg hand)))))), (qc, .inl (cI, 16, .inl (upd fc (Int32.toNatClampNeg hand) p1))), (qd, .inl (cI, 16, .inl (upd fd (Int32.toNatClampNeg hand) ((fd (Int32.toNatClampNeg hand)) + 1)))), (qk, .inl (cZ, 16, .inl (j_X2_goOn_65_qk fk hand p2)))] H ∧ va_D A [(qT, .inr (2, [.ref qp, .ref qc, .ref qd, .ref qk, .int hand, .int hov, .int said])), (qp, .inl (cI, 16, .inl (upd fp (Int32.toNatClampNeg hand) (p0 ||| (fc (Int32.toNatClampNeg hand)))))), (qc, .inl (cI, 16, .inl (upd fc (Int32.toNatClampNeg hand) p1))), (qd, .inl (cI, 16, .inl (upd fd (Int32.toNatClampNeg hand) ((fd (Int32.toNatClampNeg hand)) + 1)))), (qk, .inl (cZ, 16, .inl (j_X2_goOn_65_qk fk hand p2)))] ∧ va_S A s.heap H locs ∧ lv_has ls 4 [(0, .ref qT), (1, .int p0), (2, .int p1), (3, .int p2)]) 65 [] ?_ (fun J => ?_)
  · skip
    intro H locs ls hh
    obtain ⟨hP, hD, hS, hl⟩ := hh
    refine lv_aload_n hx hb dX2_goOn_65 rfl (lv_at hl 0 rfl) ?_
    refine va_get (D := D) (ci := 2) (v := .int said) (C := RX2) (T := TX2) (N := 7) hx hb hts ilX2 hown hK hP 0 rfl rfl 6 (by decide) (hts _ wf_X2_29) (fun _ h9 => h9) rfl dX2_goOn_66 ?_
    refine ct_merge (fun H locs ls => va_P D classes [(qT, .inr (2, [.ref qp, .ref qc, .ref qd, .ref qk, .int (j_X2_goOn_80_qT4 fk hand said p2), .int (j_X2_goOn_80_qT5 fk hand hov said p2), .int said])), (qp, .inl (cI, 16, .inl (upd fp (Int32.toNatClampNeg hand) (p0 ||| (fc (Int32.toNatClampNeg hand)))))), (qc, .inl (cI, 16, .inl (upd fc (Int32.toNatClampNeg hand) p1))), (qd, .inl (cI, 16, .inl (upd fd (Int32.toNatClampNeg hand) ((fd (Int32.toNatClampNeg hand)) + 1)))), (qk, .inl (cZ, 16, .inl (j_X2_goOn_65_qk fk hand p2)))] H ∧ va_D A [(qT, .inr (2, [.ref qp, .ref qc, .ref qd, .ref qk, .int (j_X2_goOn_80_qT4 fk hand said p2), .int (j_X2_goOn_80_qT5 fk hand hov said p2), .int said])), (qp, .inl (cI, 16, .inl (upd fp (Int32.toNatClampNeg hand) (p0 ||| (fc (Int32.toNatClampNeg hand)))))), (qc, .inl (cI, 16, .inl (upd fc (Int32.toNatClampNeg hand) p1))), (qd, .inl (cI, 16, .inl (upd fd (Int32.toNatClampNeg hand) ((fd (Int32.toNatClampNeg hand)) + 1)))), (qk, .inl (cZ, 16, .inl (j_X2_goOn_65_qk fk hand p2)))] ∧ va_S A s.heap H locs ∧ lv_has ls 4 [(0, .ref qT), (1, .int p0), (2, .int p1), (3, .int p2)]) 80 [] ?_ (fun J => ?_)
    · skip
      intro H locs ls hh
      obtain ⟨hP, hD, hS, hl⟩ := hh
      refine lv_aload_n hx hb dX2_goOn_80 rfl (lv_at hl 0 rfl) ?_
      refine lv_iload_n hx hb dX2_goOn_81 rfl (lv_at hl 3 rfl) ?_
      refine lv_iconst (v := 2) hx hb dX2_goOn_82 (by decide) ?_
      refine lv_icmp_ne (tgt := 90) hx hb dX2_goOn_83 (by decide) (fun c_1 => ?_) (fun c_1 => ?_)
      · skip
        refine lv_iconst (v := 0) hx hb dX2_goOn_90 (by decide) ?_
        refine va_put (D := D) (ci := 2) (v := .int 0) (ty := (.boolean)) (C := RX2) (T := TX2) (N := 7) hx hb hts ilX2 tyX2 tyX2_ok nmX2 hown hK hP hD hS 0 rfl rfl 6 (by decide) (hts _ wf_X2_29) (fun _ h9 => h9) rfl (by decide +kernel) rfl rfl (Nat.le_of_ble_eq_true rfl) dX2_goOn_91 (fun H locs hP hD hS => ?_)
        have hP : va_P D classes [(qT, .inr (2, [.ref qp, .ref qc, .ref qd, .ref qk, .int (j_X2_goOn_80_qT4 fk hand said p2), .int (j_X2_goOn_80_qT5 fk hand hov said p2), .int 0])), (qp, .inl (cI, 16, .inl (upd fp (Int32.toNatClampNeg hand) (p0 ||| (fc (Int32.toNatClampNeg hand)))))), (qc, .inl (cI, 16, .inl (upd fc (Int32.toNatClampNeg hand) p1))), (qd, .inl (cI, 16, .inl (upd fd (Int32.toNatClampNeg hand) ((fd (Int32.toNatClampNeg hand)) + 1)))), (qk, .inl (cZ, 16, .inl (j_X2_goOn_65_qk fk hand p2)))] H := hP
        have hD : va_D A [(qT, .inr (2, [.ref qp, .ref qc, .ref qd, .ref qk, .int (j_X2_goOn_80_qT4 fk hand said p2), .int (j_X2_goOn_80_qT5 fk hand hov said p2), .int 0])), (qp, .inl (cI, 16, .inl (upd fp (Int32.toNatClampNeg hand) (p0 ||| (fc (Int32.toNatClampNeg hand)))))), (qc, .inl (cI, 16, .inl (upd fc (Int32.toNatClampNeg hand) p1))), (qd, .inl (cI, 16, .inl (upd fd (Int32.toNatClampNeg hand) ((fd (Int32.toNatClampNeg hand)) + 1)))), (qk, .inl (cZ, 16, .inl (j_X2_goOn_65_qk fk hand p2)))] := hD
        have e_1 : z_X2_goOn_qT6 p2 = 0 := by simp only [z_X2_goOn_qT6, if_neg c_1]
        exact ct_vret () hx hb hr hlocks hP hD hS (by rw [e_1]) dX2_goOn_94
      · skip
        refine lv_iconst (v := 1) hx hb dX2_goOn_86 (by decide) ?_
        refine lv_goto (tgt := 91) hx hb dX2_goOn_87 (by decide) ?_
        refine va_put (D := D) (ci := 2) (v := .int 1) (ty := (.boolean)) (C := RX2) (T := TX2) (N := 7) hx hb hts ilX2 tyX2 tyX2_ok nmX2 hown hK hP hD hS 0 rfl rfl 6 (by decide) (hts _ wf_X2_29) (fun _ h9 => h9) rfl (by decide +kernel) rfl rfl (Nat.le_of_ble_eq_true rfl) dX2_goOn_91 (fun H locs hP hD hS => ?_)
        have hP : va_P D classes [(qT, .inr (2, [.ref qp, .ref qc, .ref qd, .ref qk, .int (j_X2_goOn_80_qT4 fk hand said p2), .int (j_X2_goOn_80_qT5 fk hand hov said p2), .int 1])), (qp, .inl (cI, 16, .inl (upd fp (Int32.toNatClampNeg hand) (p0 ||| (fc (Int32.toNatClampNeg hand)))))), (qc, .inl (cI, 16, .inl (upd fc (Int32.toNatClampNeg hand) p1))), (qd, .inl (cI, 16, .inl (upd fd (Int32.toNatClampNeg hand) ((fd (Int32.toNatClampNeg hand)) + 1)))), (qk, .inl (cZ, 16, .inl (j_X2_goOn_65_qk fk hand p2)))] H := hP
        have hD : va_D A [(qT, .inr (2, [.ref qp, .ref qc, .ref qd, .ref qk, .int (j_X2_goOn_80_qT4 fk hand said p2), .int (j_X2_goOn_80_qT5 fk hand hov said p2), .int 1])), (qp, .inl (cI, 16, .inl (upd fp (Int32.toNatClampNeg hand) (p0 ||| (fc (Int32.toNatClampNeg hand)))))), (qc, .inl (cI, 16, .inl (upd fc (Int32.toNatClampNeg hand) p1))), (qd, .inl (cI, 16, .inl (upd fd (Int32.toNatClampNeg hand) ((fd (Int32.toNatClampNeg hand)) + 1)))), (qk, .inl (cZ, 16, .inl (j_X2_goOn_65_qk fk hand p2)))] := hD
        have e_1 : z_X2_goOn_qT6 p2 = 1 := by simp only [z_X2_goOn_qT6, if_pos c_1]
        exact ct_vret () hx hb hr hlocks hP hD hS (by rw [e_1]) dX2_goOn_94
    · skip
      refine lv_if_eq (tgt := 80) hx hb dX2_goOn_69 (by decide) (fun c_2 => ?_) (fun c_2 => ?_)
      · skip
        have hP := hP.sub (ws' := [(qT, .inr (2, [.ref qp, .ref qc, .ref qd, .ref qk, .int hand, .int hov, .int said])), (qp, .inl (cI, 16, .inl (upd fp (Int32.toNatClampNeg hand) (p0 ||| (fc (Int32.toNatClampNeg hand)))))), (qc, .inl (cI, 16, .inl (upd fc (Int32.toNatClampNeg hand) p1))), (qd, .inl (cI, 16, .inl (upd fd (Int32.toNatClampNeg hand) ((fd (Int32.toNatClampNeg hand)) + 1)))), (qk, .inl (cZ, 16, .inl (j_X2_goOn_65_qk fk hand p2)))]) [0, 1, 2, 3, 4] rfl
        have hD := hD.sub (ws' := [(qT, .inr (2, [.ref qp, .ref qc, .ref qd, .ref qk, .int hand, .int hov, .int said])), (qp, .inl (cI, 16, .inl (upd fp (Int32.toNatClampNeg hand) (p0 ||| (fc (Int32.toNatClampNeg hand)))))), (qc, .inl (cI, 16, .inl (upd fc (Int32.toNatClampNeg hand) p1))), (qd, .inl (cI, 16, .inl (upd fd (Int32.toNatClampNeg hand) ((fd (Int32.toNatClampNeg hand)) + 1)))), (qk, .inl (cZ, 16, .inl (j_X2_goOn_65_qk fk hand p2)))]) [0, 1, 2, 3, 4] (by decide) rfl
        have e_1 : j_X2_goOn_80_qT4 fk hand said p2 = hand := by simp only [j_X2_goOn_80_qT4, if_pos c_2]
        have e_2 : j_X2_goOn_80_qT5 fk hand hov said p2 = hov := by simp only [j_X2_goOn_80_qT5, if_pos c_2]
        exact J _ _ _ ⟨(by rw [e_1, e_2]; exact hP), (by rw [e_1, e_2]; exact hD), hS, (lv_sub hl [0, 1, 2, 3] rfl)⟩
      · skip
        refine lv_aload_n hx hb dX2_goOn_72 rfl (lv_at hl 0 rfl) ?_
        refine lv_aload_n hx hb dX2_goOn_73 rfl (lv_at hl 0 rfl) ?_
        refine ctI_V (As := []) (rest := [.ref qT]) (wc := [(qT, .inr (2, [.ref qp, .ref qc, .ref qd, .ref qk, .int hand, .int hov, .int said])), (qp, .inl (cI, 16, .inl (upd fp (Int32.toNatClampNeg hand) (p0 ||| (fc (Int32.toNatClampNeg hand)))))), (qc, .inl (cI, 16, .inl (upd fc (Int32.toNatClampNeg hand) p1))), (qd, .inl (cI, 16, .inl (upd fd (Int32.toNatClampNeg hand) ((fd (Int32.toNatClampNeg hand)) + 1)))), (qk, .inl (cZ, 16, .inl (j_X2_goOn_65_qk fk hand p2)))]) (wr := []) ⟨hx, hb, hml, hown, hts⟩ (c_X2_greatestWoken l D cI cZ qT qp qc qd qk (upd fp (Int32.toNatClampNeg hand) (p0 ||| (fc (Int32.toNatClampNeg hand)))) (upd fc (Int32.toNatClampNeg hand) p1) (upd fd (Int32.toNatClampNeg hand) ((fd (Int32.toNatClampNeg hand)) + 1)) (j_X2_goOn_65_qk fk hand p2) hand hov said) (cwV 0 hts (gd_V wm_X2_33 wi_X2_greatestWoken ws_X2_greatestWoken wz_X2 wo_X2_greatestWoken) rfl rfl rfl (by decide +kernel) ⟨Nat.le_of_ble_eq_true rfl, Nat.le_of_ble_eq_true rfl⟩) hK hP hD hS hA 0 rfl rfl rfl [0, 1, 2, 3, 4] [] rfl rfl (by decide) (by decide) (by decide) rfl rfl hl.1 (Nat.le_of_ble_eq_true rfl) dX2_goOn_74 ⟨Nat.le_of_ble_eq_true rfl, Nat.le_of_ble_eq_true rfl⟩ (fun H locs hP hD hS => ?_)
        have hP : va_P D classes [(qT, .inr (2, [.ref qp, .ref qc, .ref qd, .ref qk, .int hand, .int hov, .int said])), (qp, .inl (cI, 16, .inl (upd fp (Int32.toNatClampNeg hand) (p0 ||| (fc (Int32.toNatClampNeg hand)))))), (qc, .inl (cI, 16, .inl (upd fc (Int32.toNatClampNeg hand) p1))), (qd, .inl (cI, 16, .inl (upd fd (Int32.toNatClampNeg hand) ((fd (Int32.toNatClampNeg hand)) + 1)))), (qk, .inl (cZ, 16, .inl (j_X2_goOn_65_qk fk hand p2)))] H := hP
        have hD : va_D A [(qT, .inr (2, [.ref qp, .ref qc, .ref qd, .ref qk, .int hand, .int hov, .int said])), (qp, .inl (cI, 16, .inl (upd fp (Int32.toNatClampNeg hand) (p0 ||| (fc (Int32.toNatClampNeg hand)))))), (qc, .inl (cI, 16, .inl (upd fc (Int32.toNatClampNeg hand) p1))), (qd, .inl (cI, 16, .inl (upd fd (Int32.toNatClampNeg hand) ((fd (Int32.toNatClampNeg hand)) + 1)))), (qk, .inl (cZ, 16, .inl (j_X2_goOn_65_qk fk hand p2)))] := hD
        refine ctV_V (As := [.int (r_X2_greatestWoken (j_X2_goOn_65_qk fk hand p2))]) (rest := []) (wc := [(qT, .inr (2, [.ref qp, .ref qc, .ref qd, .ref qk, .int hand, .int hov, .int said])), (qp, .inl (cI, 16, .inl (upd fp (Int32.toNatClampNeg hand) (p0 ||| (fc (Int32.toNatClampNeg hand)))))), (qc, .inl (cI, 16, .inl (upd fc (Int32.toNatClampNeg hand) p1))), (qd, .inl (cI, 16, .inl (upd fd (Int32.toNatClampNeg hand) ((fd (Int32.toNatClampNeg hand)) + 1)))), (qk, .inl (cZ, 16, .inl (j_X2_goOn_65_qk fk hand p2)))]) (wr := []) ⟨hx, hb, hml, hown, hts⟩ (c_X2_giveTo l D cI cZ qT qp qc qd qk (upd fp (Int32.toNatClampNeg hand) (p0 ||| (fc (Int32.toNatClampNeg hand)))) (upd fc (Int32.toNatClampNeg hand) p1) (upd fd (Int32.toNatClampNeg hand) ((fd (Int32.toNatClampNeg hand)) + 1)) (j_X2_goOn_65_qk fk hand p2) hand hov said (r_X2_greatestWoken (j_X2_goOn_65_qk fk hand p2))) (cwV 1 hts (gd_V wm_X2_37 wi_X2_giveTo ws_X2_giveTo wz_X2 wo_X2_giveTo) rfl rfl rfl (by decide +kernel) ⟨Nat.le_of_ble_eq_true rfl, Nat.le_of_ble_eq_true rfl⟩) hK hP hD hS hA 0 rfl rfl rfl [0, 1, 2, 3, 4] [] rfl rfl (by decide) (by decide) (by decide) rfl rfl hl.1 (Nat.le_of_ble_eq_true rfl) dX2_goOn_77 ⟨Nat.le_of_ble_eq_true rfl, Nat.le_of_ble_eq_true rfl⟩ (fun u H locs hP hD hS => ?_)
        have hP : va_P D classes [(qT, .inr (2, [.ref qp, .ref qc, .ref qd, .ref qk, .int (z_X2_giveTo_qT4 hand (r_X2_greatestWoken (j_X2_goOn_65_qk fk hand p2))), .int (z_X2_giveTo_qT5 hand hov (r_X2_greatestWoken (j_X2_goOn_65_qk fk hand p2))), .int said])), (qp, .inl (cI, 16, .inl (upd fp (Int32.toNatClampNeg hand) (p0 ||| (fc (Int32.toNatClampNeg hand)))))), (qc, .inl (cI, 16, .inl (upd fc (Int32.toNatClampNeg hand) p1))), (qd, .inl (cI, 16, .inl (upd fd (Int32.toNatClampNeg hand) ((fd (Int32.toNatClampNeg hand)) + 1)))), (qk, .inl (cZ, 16, .inl (j_X2_goOn_65_qk fk hand p2)))] H := hP
        have hD : va_D A [(qT, .inr (2, [.ref qp, .ref qc, .ref qd, .ref qk, .int (z_X2_giveTo_qT4 hand (r_X2_greatestWoken (j_X2_goOn_65_qk fk hand p2))), .int (z_X2_giveTo_qT5 hand hov (r_X2_greatestWoken (j_X2_goOn_65_qk fk hand p2))), .int said])), (qp, .inl (cI, 16, .inl (upd fp (Int32.toNatClampNeg hand) (p0 ||| (fc (Int32.toNatClampNeg hand)))))), (qc, .inl (cI, 16, .inl (upd fc (Int32.toNatClampNeg hand) p1))), (qd, .inl (cI, 16, .inl (upd fd (Int32.toNatClampNeg hand) ((fd (Int32.toNatClampNeg hand)) + 1)))), (qk, .inl (cZ, 16, .inl (j_X2_goOn_65_qk fk hand p2)))] := hD
        have hP := hP.sub (ws' := [(qT, .inr (2, [.ref qp, .ref qc, .ref qd, .ref qk, .int (z_X2_giveTo_qT4 hand (r_X2_greatestWoken (j_X2_goOn_65_qk fk hand p2))), .int (z_X2_giveTo_qT5 hand hov (r_X2_greatestWoken (j_X2_goOn_65_qk fk hand p2))), .int said])), (qp, .inl (cI, 16, .inl (upd fp (Int32.toNatClampNeg hand) (p0 ||| (fc (Int32.toNatClampNeg hand)))))), (qc, .inl (cI, 16, .inl (upd fc (Int32.toNatClampNeg hand) p1))), (qd, .inl (cI, 16, .inl (upd fd (Int32.toNatClampNeg hand) ((fd (Int32.toNatClampNeg hand)) + 1)))), (qk, .inl (cZ, 16, .inl (j_X2_goOn_65_qk fk hand p2)))]) [0, 1, 2, 3, 4] rfl
        have hD := hD.sub (ws' := [(qT, .inr (2, [.ref qp, .ref qc, .ref qd, .ref qk, .int (z_X2_giveTo_qT4 hand (r_X2_greatestWoken (j_X2_goOn_65_qk fk hand p2))), .int (z_X2_giveTo_qT5 hand hov (r_X2_greatestWoken (j_X2_goOn_65_qk fk hand p2))), .int said])), (qp, .inl (cI, 16, .inl (upd fp (Int32.toNatClampNeg hand) (p0 ||| (fc (Int32.toNatClampNeg hand)))))), (qc, .inl (cI, 16, .inl (upd fc (Int32.toNatClampNeg hand) p1))), (qd, .inl (cI, 16, .inl (upd fd (Int32.toNatClampNeg hand) ((fd (Int32.toNatClampNeg hand)) + 1)))), (qk, .inl (cZ, 16, .inl (j_X2_goOn_65_qk fk hand p2)))]) [0, 1, 2, 3, 4] (by decide) rfl
        have e_1 : j_X2_goOn_80_qT4 fk hand said p2 = z_X2_giveTo_qT4 hand (r_X2_greatestWoken (j_X2_goOn_65_qk fk hand p2)) := by simp only [j_X2_goOn_80_qT4, if_neg c_2]
        have e_2 : j_X2_goOn_80_qT5 fk hand hov said p2 = z_X2_giveTo_qT5 hand hov (r_X2_greatestWoken (j_X2_goOn_65_qk fk hand p2)) := by simp only [j_X2_goOn_80_qT5, if_neg c_2]
        exact J _ _ _ ⟨(by rw [e_1, e_2]; exact hP), (by rw [e_1, e_2]; exact hD), hS, (lv_sub hl [0, 1, 2, 3] rfl)⟩
  · skip
    refine lv_icmp_ne (tgt := 65) hx hb dX2_goOn_45 (by decide) (fun c_3 => ?_) (fun c_3 => ?_)
    · skip
      have hP := hP.sub (ws' := [(qT, .inr (2, [.ref qp, .ref qc, .ref qd, .ref qk, .int hand, .int hov, .int said])), (qp, .inl (cI, 16, .inl (upd fp (Int32.toNatClampNeg hand) (p0 ||| (fc (Int32.toNatClampNeg hand)))))), (qc, .inl (cI, 16, .inl (upd fc (Int32.toNatClampNeg hand) p1))), (qd, .inl (cI, 16, .inl (upd fd (Int32.toNatClampNeg hand) ((fd (Int32.toNatClampNeg hand)) + 1)))), (qk, .inl (cZ, 16, .inl fk))]) [0, 1, 2, 3, 4] rfl
      have hD := hD.sub (ws' := [(qT, .inr (2, [.ref qp, .ref qc, .ref qd, .ref qk, .int hand, .int hov, .int said])), (qp, .inl (cI, 16, .inl (upd fp (Int32.toNatClampNeg hand) (p0 ||| (fc (Int32.toNatClampNeg hand)))))), (qc, .inl (cI, 16, .inl (upd fc (Int32.toNatClampNeg hand) p1))), (qd, .inl (cI, 16, .inl (upd fd (Int32.toNatClampNeg hand) ((fd (Int32.toNatClampNeg hand)) + 1)))), (qk, .inl (cZ, 16, .inl fk))]) [0, 1, 2, 3, 4] (by decide) rfl
      have e_1 : j_X2_goOn_65_qk fk hand p2 = fk := by simp only [j_X2_goOn_65_qk, if_neg c_3]
      exact J _ _ _ ⟨(by rw [e_1]; exact hP), (by rw [e_1]; exact hD), hS, (lv_sub hl [0, 1, 2, 3] rfl)⟩
    · skip
      refine lv_aload_n hx hb dX2_goOn_48 rfl (lv_at hl 0 rfl) ?_
      refine va_get (D := D) (ci := 2) (v := .int hand) (C := RX2) (T := TX2) (N := 7) hx hb hts ilX2 hown hK hP 0 rfl rfl 4 (by decide) (hts _ wf_X2_25) (fun _ h9 => h9) rfl dX2_goOn_49 ?_
      refine lv_if_eq (tgt := 65) hx hb dX2_goOn_52 (by decide) (fun c_4 => ?_) (fun c_4 => ?_)
      · skip
        have hP := hP.sub (ws' := [(qT, .inr (2, [.ref qp, .ref qc, .ref qd, .ref qk, .int hand, .int hov, .int said])), (qp, .inl (cI, 16, .inl (upd fp (Int32.toNatClampNeg hand) (p0 ||| (fc (Int32.toNatClampNeg hand)))))), (qc, .inl (cI, 16, .inl (upd fc (Int32.toNatClampNeg hand) p1))), (qd, .inl (cI, 16, .inl (upd fd (Int32.toNatClampNeg hand) ((fd (Int32.toNatClampNeg hand)) + 1)))), (qk, .inl (cZ, 16, .inl fk))]) [0, 1, 2, 3, 4] rfl
        have hD := hD.sub (ws' := [(qT, .inr (2, [.ref qp, .ref qc, .ref qd, .ref qk, .int hand, .int hov, .int said])), (qp, .inl (cI, 16, .inl (upd fp (Int32.toNatClampNeg hand) (p0 ||| (fc (Int32.toNatClampNeg hand)))))), (qc, .inl (cI, 16, .inl (upd fc (Int32.toNatClampNeg hand) p1))), (qd, .inl (cI, 16, .inl (upd fd (Int32.toNatClampNeg hand) ((fd (Int32.toNatClampNeg hand)) + 1)))), (qk, .inl (cZ, 16, .inl fk))]) [0, 1, 2, 3, 4] (by decide) rfl
        have e_1 : j_X2_goOn_65_qk fk hand p2 = fk := by simp only [j_X2_goOn_65_qk, if_pos c_3, if_pos c_4]
        exact J _ _ _ ⟨(by rw [e_1]; exact hP), (by rw [e_1]; exact hD), hS, (lv_sub hl [0, 1, 2, 3] rfl)⟩
      · skip
        refine lv_aload_n hx hb dX2_goOn_55 rfl (lv_at hl 0 rfl) ?_
        refine va_get (D := D) (ci := 2) (v := .ref qk) (C := RX2) (T := TX2) (N := 7) hx hb hts ilX2 hown hK hP 0 rfl rfl 3 (by decide) (hts _ wf_X2_21) (fun _ h9 => h9) rfl dX2_goOn_56 ?_
        refine lv_aload_n hx hb dX2_goOn_59 rfl (lv_at hl 0 rfl) ?_
        refine va_get (D := D) (ci := 2) (v := .int hand) (C := RX2) (T := TX2) (N := 7) hx hb hts ilX2 hown hK hP 0 rfl rfl 4 (by decide) (hts _ wf_X2_25) (fun _ h9 => h9) rfl dX2_goOn_60 ?_
        refine lv_iconst (v := 0) hx hb dX2_goOn_63 (by decide) ?_
        refine va_zast hx hb hK hP hD hS 4 1 rfl rfl hh dX2_goOn_64 (fun H locs hP hD hS => ?_)
        have hP : va_P D classes [(qT, .inr (2, [.ref qp, .ref qc, .ref qd, .ref qk, .int hand, .int hov, .int said])), (qp, .inl (cI, 16, .inl (upd fp (Int32.toNatClampNeg hand) (p0 ||| (fc (Int32.toNatClampNeg hand)))))), (qc, .inl (cI, 16, .inl (upd fc (Int32.toNatClampNeg hand) p1))), (qd, .inl (cI, 16, .inl (upd fd (Int32.toNatClampNeg hand) ((fd (Int32.toNatClampNeg hand)) + 1)))), (qk, .inl (cZ, 16, .inl (upd fk (Int32.toNatClampNeg hand) 0)))] H := hP
        have hD : va_D A [(qT, .inr (2, [.ref qp, .ref qc, .ref qd, .ref qk, .int hand, .int hov, .int said])), (qp, .inl (cI, 16, .inl (upd fp (Int32.toNatClampNeg hand) (p0 ||| (fc (Int32.toNatClampNeg hand)))))), (qc, .inl (cI, 16, .inl (upd fc (Int32.toNatClampNeg hand) p1))), (qd, .inl (cI, 16, .inl (upd fd (Int32.toNatClampNeg hand) ((fd (Int32.toNatClampNeg hand)) + 1)))), (qk, .inl (cZ, 16, .inl (upd fk (Int32.toNatClampNeg hand) 0)))] := hD
        have hP := hP.sub (ws' := [(qT, .inr (2, [.ref qp, .ref qc, .ref qd, .ref qk, .int hand, .int hov, .int said])), (qp, .inl (cI, 16, .inl (upd fp (Int32.toNatClampNeg hand) (p0 ||| (fc (Int32.toNatClampNeg hand)))))), (qc, .inl (cI, 16, .inl (upd fc (Int32.toNatClampNeg hand) p1))), (qd, .inl (cI, 16, .inl (upd fd (Int32.toNatClampNeg hand) ((fd (Int32.toNatClampNeg hand)) + 1)))), (qk, .inl (cZ, 16, .inl (upd fk (Int32.toNatClampNeg hand) 0)))]) [0, 1, 2, 3, 4] rfl
        have hD := hD.sub (ws' := [(qT, .inr (2, [.ref qp, .ref qc, .ref qd, .ref qk, .int hand, .int hov, .int said])), (qp, .inl (cI, 16, .inl (upd fp (Int32.toNatClampNeg hand) (p0 ||| (fc (Int32.toNatClampNeg hand)))))), (qc, .inl (cI, 16, .inl (upd fc (Int32.toNatClampNeg hand) p1))), (qd, .inl (cI, 16, .inl (upd fd (Int32.toNatClampNeg hand) ((fd (Int32.toNatClampNeg hand)) + 1)))), (qk, .inl (cZ, 16, .inl (upd fk (Int32.toNatClampNeg hand) 0)))]) [0, 1, 2, 3, 4] (by decide) rfl
        have e_1 : j_X2_goOn_65_qk fk hand p2 = upd fk (Int32.toNatClampNeg hand) 0 := by simp only [j_X2_goOn_65_qk, if_pos c_3, if_neg c_4]
        exact J _ _ _ ⟨(by rw [e_1]; exact hP), (by rw [e_1]; exact hD), hS, (lv_sub hl [0, 1, 2, 3] rfl)⟩
end
