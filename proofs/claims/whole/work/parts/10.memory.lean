section
set_option maxHeartbeats 4000000 in
set_option maxRecDepth 100000 in
theorem c_X0_init (l : Launch) (D : va_G) (cI cZ : ClassId) (qM : Nat) (mar : Int32) (rst : Int32) : CtV l D classes [(cI, .int), (cZ, .boolean)] yX0_init w_X0_init { frames := 1, cells := 1, slots := 1024, locals := 12 } [.ref qM] [(qM, .inr (0, [.null, .int mar, .int rst]))] (fun (qW : Nat) => [(qM, .inr (0, [.ref qW, .int mar, .int 5])), (qW, .inl (cI, 1024, .inl (fun _ => 0)))]) 1 1024 := by
  refine CtV.mk (cc := cX0_init) (maxL := 1) (ret := none) (by decide) rfl (Nat.le_of_ble_eq_true rfl) ?_
  intro p e s m below meth c A hBeg ls hl
  obtain ⟨hx, hb, hr, hml, hts0, hown, hlocks, hin, hA, hK, hP, hD, hS⟩ := hBeg
  have hts := fun w h => hts0 w (List.mem_cons_of_mem _ h)
  have hown : s.vm.findClass RX0 = some m.cls := hown
  have hl : lv_has ls 1 [(0, .ref qM)] := hl
  skip
  refine lv_aload_n hx hb dX0_init_0 rfl (lv_at hl 0 rfl) ?_
  refine W.objInit hx hb hown (hts _ wm_X0_3) (hts _ wi_obj) (hts _ wo_obj) rfl (by rw [hml]; exact hl.1) rfl dX0_init_1 (Nat.le_of_ble_eq_true rfl) (Nat.le_of_ble_eq_true rfl) ?_
  refine W.eq (g2 := F0 m 4 ls []) rfl ?_
  refine lv_aload_n hx hb dX0_init_4 rfl (lv_at hl 0 rfl) ?_
  refine lv_sipush (v := 1024) hx hb dX0_init_5 (by decide) ?_
  refine va_newa (atype := .int) (ty := .int) (N' := 1024) (a0 := (1024, .inl (fun _ => 0))) hx hb (hts _ wa_int) rfl hK hP hD hS hA (fun _ => rfl) (by decide) (by decide) (by decide) (Nat.le_of_ble_eq_true rfl) (Nat.le_of_ble_eq_true rfl) dX0_init_8 (fun q1 cA1 H hK1 hP hD hS => ?_)
  have hcA : cI = cA1 := Option.some.inj ((va_nm_int (hK.2 0 (cI, .int) rfl).2).symm.trans (va_nm_int (hK1.2 2 (cA1, .int) rfl).2))
  subst hcA
  clear hK1
  have hP : va_P D classes [(qM, .inr (0, [.null, .int mar, .int rst])), (q1, .inl (cI, 1024, .inl (fun _ => 0)))] H := hP
  have hD : va_D A [(qM, .inr (0, [.null, .int mar, .int rst])), (q1, .inl (cI, 1024, .inl (fun _ => 0)))] := hD
  refine W.widen (k := 1) (n := 1024) (by omega) (by omega) ?_
  refine va_putF (D := D) (ci := 0) (v := .ref q1) (ty := (.array .int)) (C := RX0) (T := TX0) (N := 3) hx hb hts ilX0 tyX0 tyX0_ok nmX0 hown hK hP hD hS 0 rfl rfl 0 (by decide) (hts _ wf_X0_9) (fun _ h9 => h9) rfl hin rfl (by decide +kernel) rfl rfl (Nat.le_of_ble_eq_true rfl) dX0_init_10 (fun H locs hP hD hS => ?_)
  have hP : va_P D classes [(qM, .inr (0, [.ref q1, .int mar, .int rst])), (q1, .inl (cI, 1024, .inl (fun _ => 0)))] H := hP
  have hD : va_D A [(qM, .inr (0, [.ref q1, .int mar, .int rst])), (q1, .inl (cI, 1024, .inl (fun _ => 0)))] := hD
  refine lv_aload_n hx hb dX0_init_13 rfl (lv_at hl 0 rfl) ?_
  refine lv_iconst (v := 5) hx hb dX0_init_14 (by decide) ?_
  refine va_put (D := D) (ci := 0) (v := .int 5) (ty := (.int)) (C := RX0) (T := TX0) (N := 3) hx hb hts ilX0 tyX0 tyX0_ok nmX0 hown hK hP hD hS 0 rfl rfl 2 (by decide) (hts _ wf_X0_15) (fun _ h9 => h9) rfl (by decide +kernel) rfl rfl (Nat.le_of_ble_eq_true rfl) dX0_init_15 (fun H locs hP hD hS => ?_)
  have hP : va_P D classes [(qM, .inr (0, [.ref q1, .int mar, .int 5])), (q1, .inl (cI, 1024, .inl (fun _ => 0)))] H := hP
  have hD : va_D A [(qM, .inr (0, [.ref q1, .int mar, .int 5])), (q1, .inl (cI, 1024, .inl (fun _ => 0)))] := hD
  exact ct_vret q1 hx hb hr hlocks hP hD hS rfl dX0_init_18
set_option maxHeartbeats 4000000 in
set_option maxRecDepth 100000 in
theorem c_X0_read (l : Launch) (D : va_G) (cI cZ : ClassId) (qM : Nat) (qW : Nat) (fW : Nat → Int32) (mar : Int32) (rst : Int32) : CtI l D classes [(cI, .int), (cZ, .boolean)] yX0_read w_X0_read { frames := 0, cells := 0, slots := 0, locals := 0 } [.ref qM] [(qM, .inr (0, [.ref qW, .int mar, .int rst])), (qW, .inl (cI, 1024, .inl fW))] [(qM, .inr (0, [.ref qW, .int mar, .int rst])), (qW, .inl (cI, 1024, .inl fW))] (fW (Int32.toNatClampNeg (mar &&& 1023))) := by
  refine CtI.mk (cc := cX0_read) (maxL := 1) (ret := (some .int)) (by decide) rfl (Nat.le_of_ble_eq_true rfl) ?_
  intro p e s m below meth c A hBeg ls hl
  obtain ⟨hx, hb, hr, hml, hts0, hown, hlocks, hin, hA, hK, hP, hD, hS⟩ := hBeg
  have hts := fun w h => hts0 w (List.mem_cons_of_mem _ h)
  have hown : s.vm.findClass RX0 = some m.cls := hown
  have hl : lv_has ls 1 [(0, .ref qM)] := hl
  skip
  refine lv_aload_n hx hb dX0_read_0 rfl (lv_at hl 0 rfl) ?_
  refine va_get (D := D) (ci := 0) (v := .ref qW) (C := RX0) (T := TX0) (N := 3) hx hb hts ilX0 hown hK hP 0 rfl rfl 0 (by decide) (hts _ wf_X0_9) (fun _ h9 => h9) rfl dX0_read_1 ?_
  refine lv_aload_n hx hb dX0_read_4 rfl (lv_at hl 0 rfl) ?_
  refine va_get (D := D) (ci := 0) (v := .int mar) (C := RX0) (T := TX0) (N := 3) hx hb hts ilX0 hown hK hP 0 rfl rfl 1 (by decide) (hts _ wf_X0_19) (fun _ h9 => h9) rfl dX0_read_5 ?_
  refine lv_sipush (v := 1023) hx hb dX0_read_8 (by decide) ?_
  refine lv_iand hx hb dX0_read_11 ?_
  refine va_iald hx hb hK hP 1 0 rfl rfl (pk_andIn mar 10 (by decide) (by decide)) dX0_read_12 ?_
  exact ct_iret hx hb hr hlocks hP hD hS rfl rfl dX0_read_13
set_option maxHeartbeats 4000000 in
set_option maxRecDepth 100000 in
theorem c_X0_write (l : Launch) (D : va_G) (cI cZ : ClassId) (qM : Nat) (qW : Nat) (fW : Nat → Int32) (mar : Int32) (rst : Int32) (p0 : Int32) : CtV l D classes [(cI, .int), (cZ, .boolean)] yX0_write w_X0_write { frames := 0, cells := 0, slots := 0, locals := 0 } [.ref qM, .int p0] [(qM, .inr (0, [.ref qW, .int mar, .int rst])), (qW, .inl (cI, 1024, .inl fW))] (fun (_ : Unit) => [(qM, .inr (0, [.ref qW, .int mar, .int rst])), (qW, .inl (cI, 1024, .inl (upd fW (Int32.toNatClampNeg (mar &&& 1023)) p0)))]) 0 0 := by
  refine CtV.mk (cc := cX0_write) (maxL := 2) (ret := none) (by decide) rfl (Nat.le_of_ble_eq_true rfl) ?_
  intro p e s m below meth c A hBeg ls hl
  obtain ⟨hx, hb, hr, hml, hts0, hown, hlocks, hin, hA, hK, hP, hD, hS⟩ := hBeg
  have hts := fun w h => hts0 w (List.mem_cons_of_mem _ h)
  have hown : s.vm.findClass RX0 = some m.cls := hown
  have hl : lv_has ls 2 [(0, .ref qM), (1, .int p0)] := hl
  skip
  refine lv_aload_n hx hb dX0_write_0 rfl (lv_at hl 0 rfl) ?_
  refine va_get (D := D) (ci := 0) (v := .ref qW) (C := RX0) (T := TX0) (N := 3) hx hb hts ilX0 hown hK hP 0 rfl rfl 0 (by decide) (hts _ wf_X0_9) (fun _ h9 => h9) rfl dX0_write_1 ?_
  refine lv_aload_n hx hb dX0_write_4 rfl (lv_at hl 0 rfl) ?_
  refine va_get (D := D) (ci := 0) (v := .int mar) (C := RX0) (T := TX0) (N := 3) hx hb hts ilX0 hown hK hP 0 rfl rfl 1 (by decide) (hts _ wf_X0_19) (fun _ h9 => h9) rfl dX0_write_5 ?_
  refine lv_sipush (v := 1023) hx hb dX0_write_8 (by decide) ?_
  refine lv_iand hx hb dX0_write_11 ?_
  refine lv_iload_n hx hb dX0_write_12 rfl (lv_at hl 1 rfl) ?_
  refine va_iast hx hb hK hP hD hS 1 0 rfl rfl (pk_andIn mar 10 (by decide) (by decide)) dX0_write_13 (fun H locs hP hD hS => ?_)
  have hP : va_P D classes [(qM, .inr (0, [.ref qW, .int mar, .int rst])), (qW, .inl (cI, 1024, .inl (upd fW (Int32.toNatClampNeg (mar &&& 1023)) p0)))] H := hP
  have hD : va_D A [(qM, .inr (0, [.ref qW, .int mar, .int rst])), (qW, .inl (cI, 1024, .inl (upd fW (Int32.toNatClampNeg (mar &&& 1023)) p0)))] := hD
  exact ct_vret () hx hb hr hlocks hP hD hS rfl dX0_write_14
set_option maxHeartbeats 4000000 in
set_option maxRecDepth 100000 in
theorem c_X0_begin (l : Launch) (D : va_G) (cI cZ : ClassId) (qM : Nat) (qW : Nat) (fW : Nat → Int32) (mar : Int32) (rst : Int32) (p0 : Int32) : CtV l D classes [(cI, .int), (cZ, .boolean)] yX0_begin w_X0_begin { frames := 0, cells := 0, slots := 0, locals := 0 } [.ref qM, .int p0] [(qM, .inr (0, [.ref qW, .int mar, .int rst])), (qW, .inl (cI, 1024, .inl fW))] (fun (_ : Unit) => [(qM, .inr (0, [.ref qW, .int p0, .int 0])), (qW, .inl (cI, 1024, .inl fW))]) 0 0 := by
  refine CtV.mk (cc := cX0_begin) (maxL := 2) (ret := none) (by decide) rfl (Nat.le_of_ble_eq_true rfl) ?_
  intro p e s m below meth c A hBeg ls hl
  obtain ⟨hx, hb, hr, hml, hts0, hown, hlocks, hin, hA, hK, hP, hD, hS⟩ := hBeg
  have hts := fun w h => hts0 w (List.mem_cons_of_mem _ h)
  have hown : s.vm.findClass RX0 = some m.cls := hown
  have hl : lv_has ls 2 [(0, .ref qM), (1, .int p0)] := hl
  skip
  refine lv_aload_n hx hb dX0_begin_0 rfl (lv_at hl 0 rfl) ?_
  refine lv_iload_n hx hb dX0_begin_1 rfl (lv_at hl 1 rfl) ?_
  refine va_put (D := D) (ci := 0) (v := .int p0) (ty := (.int)) (C := RX0) (T := TX0) (N := 3) hx hb hts ilX0 tyX0 tyX0_ok nmX0 hown hK hP hD hS 0 rfl rfl 1 (by decide) (hts _ wf_X0_19) (fun _ h9 => h9) rfl (by decide +kernel) rfl rfl (Nat.le_of_ble_eq_true rfl) dX0_begin_2 (fun H locs hP hD hS => ?_)
  have hP : va_P D classes [(qM, .inr (0, [.ref qW, .int p0, .int rst])), (qW, .inl (cI, 1024, .inl fW))] H := hP
  have hD : va_D A [(qM, .inr (0, [.ref qW, .int p0, .int rst])), (qW, .inl (cI, 1024, .inl fW))] := hD
  refine lv_aload_n hx hb dX0_begin_5 rfl (lv_at hl 0 rfl) ?_
  refine lv_iconst (v := 0) hx hb dX0_begin_6 (by decide) ?_
  refine va_put (D := D) (ci := 0) (v := .int 0) (ty := (.int)) (C := RX0) (T := TX0) (N := 3) hx hb hts ilX0 tyX0 tyX0_ok nmX0 hown hK hP hD hS 0 rfl rfl 2 (by decide) (hts _ wf_X0_15) (fun _ h9 => h9) rfl (by decide +kernel) rfl rfl (Nat.le_of_ble_eq_true rfl) dX0_begin_7 (fun H locs hP hD hS => ?_)
  have hP : va_P D classes [(qM, .inr (0, [.ref qW, .int p0, .int 0])), (qW, .inl (cI, 1024, .inl fW))] H := hP
  have hD : va_D A [(qM, .inr (0, [.ref qW, .int p0, .int 0])), (qW, .inl (cI, 1024, .inl fW))] := hD
  exact ct_vret () hx hb hr hlocks hP hD hS rfl dX0_begin_10
def z_X0_rest_qM2 (rst : Int32) : Int32 := (if 5 ≤ rst then rst else rst + 1)
set_option maxHeartbeats 4000000 in
set_option maxRecDepth 100000 in
theorem c_X0_rest (l : Launch) (D : va_G) (cI cZ : ClassId) (qM : Nat) (qW : Nat) (fW : Nat → Int32) (mar : Int32) (rst : Int32) : CtV l D classes [(cI, .int), (cZ, .boolean)] yX0_rest w_X0_rest { frames := 0, cells := 0, slots := 0, locals := 0 } [.ref qM] [(qM, .inr (0, [.ref qW, .int mar, .int rst])), (qW, .inl (cI, 1024, .inl fW))] (fun (_ : Unit) => [(qM, .inr (0, [.ref qW, .int mar, .int (z_X0_rest_qM2 rst)])), (qW, .inl (cI, 1024, .inl fW))]) 0 0 := by
  refine CtV.mk (cc := cX0_rest) (maxL := 1) (ret := none) (by decide) rfl (Nat.le_of_ble_eq_true rfl) ?_
  intro p e s m below meth c A hBeg ls hl
  obtain ⟨hx, hb, hr, hml, hts0, hown, hlocks, hin, hA, hK, hP, hD, hS⟩ := hBeg
  have hts := fun w h => hts0 w (List.mem_cons_of_mem _ h)
  have hown : s.vm.findClass RX0 = some m.cls := hown
  have hl : lv_has ls 1 [(0, .ref qM)] := hl
  skip
  refine lv_aload_n hx hb dX0_rest_0 rfl (lv_at hl 0 rfl) ?_
  refine va_get (D := D) (ci := 0) (v := .int rst) (C := RX0) (T := TX0) (N := 3) hx hb hts ilX0 hown hK hP 0 rfl rfl 2 (by decide) (hts _ wf_X0_15) (fun _ h9 => h9) rfl dX0_rest_1 ?_
  refine lv_iconst (v := 5) hx hb dX0_rest_4 (by decide) ?_
  refine lv_icmp_ge (tgt := 18) hx hb dX0_rest_5 (by decide) (fun c_1 => ?_) (fun c_1 => ?_)
  · skip
    have e_1 : z_X0_rest_qM2 rst = rst := by simp only [z_X0_rest_qM2, if_pos c_1]
    exact ct_vret () hx hb hr hlocks hP hD hS (by rw [e_1]) dX0_rest_18
  · skip
    refine lv_aload_n hx hb dX0_rest_8 rfl (lv_at hl 0 rfl) ?_
    refine lv_dup hx hb dX0_rest_9 rfl ?_
    refine va_get (D := D) (ci := 0) (v := .int rst) (C := RX0) (T := TX0) (N := 3) hx hb hts ilX0 hown hK hP 0 rfl rfl 2 (by decide) (hts _ wf_X0_15) (fun _ h9 => h9) rfl dX0_rest_10 ?_
    refine lv_iconst (v := 1) hx hb dX0_rest_13 (by decide) ?_
    refine lv_iadd hx hb dX0_rest_14 ?_
    refine va_put (D := D) (ci := 0) (v := .int (rst + 1)) (ty := (.int)) (C := RX0) (T := TX0) (N := 3) hx hb hts ilX0 tyX0 tyX0_ok nmX0 hown hK hP hD hS 0 rfl rfl 2 (by decide) (hts _ wf_X0_15) (fun _ h9 => h9) rfl (by decide +kernel) rfl rfl (Nat.le_of_ble_eq_true rfl) dX0_rest_15 (fun H locs hP hD hS => ?_)
    have hP : va_P D classes [(qM, .inr (0, [.ref qW, .int mar, .int (rst + 1)])), (qW, .inl (cI, 1024, .inl fW))] H := hP
    have hD : va_D A [(qM, .inr (0, [.ref qW, .int mar, .int (rst + 1)])), (qW, .inl (cI, 1024, .inl fW))] := hD
    have e_1 : z_X0_rest_qM2 rst = rst + 1 := by simp only [z_X0_rest_qM2, if_neg c_1]
    exact ct_vret () hx hb hr hlocks hP hD hS (by rw [e_1]) dX0_rest_18
set_option maxHeartbeats 4000000 in
set_option maxRecDepth 100000 in
theorem c_X1_init (l : Launch) (D : va_G) (cI cZ : ClassId) (qO : Nat) (kept : Int32) (gone : Int32) : CtV l D classes [(cI, .int), (cZ, .boolean)] yX1_init w_X1_init { frames := 1, cells := 1, slots := 500, locals := 12 } [.ref qO] [(qO, .inr (1, [.null, .int kept, .int gone]))] (fun (qo : Nat) => [(qO, .inr (1, [.ref qo, .int kept, .int gone])), (qo, .inl (cI, 500, .inl (fun _ => 0)))]) 1 500 := by
  refine CtV.mk (cc := cX1_init) (maxL := 1) (ret := none) (by decide) rfl (Nat.le_of_ble_eq_true rfl) ?_
  intro p e s m below meth c A hBeg ls hl
  obtain ⟨hx, hb, hr, hml, hts0, hown, hlocks, hin, hA, hK, hP, hD, hS⟩ := hBeg
  have hts := fun w h => hts0 w (List.mem_cons_of_mem _ h)
  have hown : s.vm.findClass RX1 = some m.cls := hown
  have hl : lv_has ls 1 [(0, .ref qO)] := hl
  skip
  refine lv_aload_n hx hb dX1_init_0 rfl (lv_at hl 0 rfl) ?_
  refine W.objInit hx hb hown (hts _ wm_X1_3) (hts _ wi_obj) (hts _ wo_obj) rfl (by rw [hml]; exact hl.1) rfl dX1_init_1 (Nat.le_of_ble_eq_true rfl) (Nat.le_of_ble_eq_true rfl) ?_
  refine W.eq (g2 := F0 m 4 ls []) rfl ?_
  refine lv_aload_n hx hb dX1_init_4 rfl (lv_at hl 0 rfl) ?_
  refine lv_sipush (v := 500) hx hb dX1_init_5 (by decide) ?_
  refine va_newa (atype := .int) (ty := .int) (N' := 500) (a0 := (500, .inl (fun _ => 0))) hx hb (hts _ wa_int) rfl hK hP hD hS hA (fun _ => rfl) (by decide) (by decide) (by decide) (Nat.le_of_ble_eq_true rfl) (Nat.le_of_ble_eq_true rfl) dX1_init_8 (fun q1 cA1 H hK1 hP hD hS => ?_)
  have hcA : cI = cA1 := Option.some.inj ((va_nm_int (hK.2 0 (cI, .int) rfl).2).symm.trans (va_nm_int (hK1.2 2 (cA1, .int) rfl).2))
  subst hcA
  clear hK1
  have hP : va_P D classes [(qO, .inr (1, [.null, .int kept, .int gone])), (q1, .inl (cI, 500, .inl (fun _ => 0)))] H := hP
  have hD : va_D A [(qO, .inr (1, [.null, .int kept, .int gone])), (q1, .inl (cI, 500, .inl (fun _ => 0)))] := hD
  refine W.widen (k := 1) (n := 500) (by omega) (by omega) ?_
  refine va_putF (D := D) (ci := 1) (v := .ref q1) (ty := (.array .int)) (C := RX1) (T := TX1) (N := 3) hx hb hts ilX1 tyX1 tyX1_ok nmX1 hown hK hP hD hS 0 rfl rfl 0 (by decide) (hts _ wf_X1_9) (fun _ h9 => h9) rfl hin rfl (by decide +kernel) rfl rfl (Nat.le_of_ble_eq_true rfl) dX1_init_10 (fun H locs hP hD hS => ?_)
  have hP : va_P D classes [(qO, .inr (1, [.ref q1, .int kept, .int gone])), (q1, .inl (cI, 500, .inl (fun _ => 0)))] H := hP
  have hD : va_D A [(qO, .inr (1, [.ref q1, .int kept, .int gone])), (q1, .inl (cI, 500, .inl (fun _ => 0)))] := hD
  exact ct_vret q1 hx hb hr hlocks hP hD hS rfl dX1_init_13
def z_X1_send_qO1 (kept : Int32) : Int32 := (if 500 ≤ kept then kept else kept + 1)
def z_X1_send_qo (fo : Nat → Int32) (kept : Int32) (p0 : Int32) : Nat → Int32 := (if 500 ≤ kept then fo else upd fo (Int32.toNatClampNeg kept) p0)
set_option maxHeartbeats 4000000 in
set_option maxRecDepth 100000 in
theorem c_X1_send (l : Launch) (D : va_G) (cI cZ : ClassId) (qO : Nat) (qo : Nat) (fo : Nat → Int32) (kept : Int32) (gone : Int32) (p0 : Int32) (hk0 : ¬ kept < 0) : CtV l D classes [(cI, .int), (cZ, .boolean)] yX1_send w_X1_send { frames := 0, cells := 0, slots := 0, locals := 0 } [.ref qO, .int p0] [(qO, .inr (1, [.ref qo, .int kept, .int gone])), (qo, .inl (cI, 500, .inl fo))] (fun (_ : Unit) => [(qO, .inr (1, [.ref qo, .int (z_X1_send_qO1 kept), .int (gone + 1)])), (qo, .inl (cI, 500, .inl (z_X1_send_qo fo kept p0)))]) 0 0 := by
  refine CtV.mk (cc := cX1_send) (maxL := 2) (ret := none) (by decide) rfl (Nat.le_of_ble_eq_true rfl) ?_
  intro p e s m below meth c A hBeg ls hl
  obtain ⟨hx, hb, hr, hml, hts0, hown, hlocks, hin, hA, hK, hP, hD, hS⟩ := hBeg
  have hts := fun w h => hts0 w (List.mem_cons_of_mem _ h)
  have hown : s.vm.findClass RX1 = some m.cls := hown
  have hl : lv_has ls 2 [(0, .ref qO), (1, .int p0)] := hl
  skip
  refine lv_aload_n hx hb dX1_send_0 rfl (lv_at hl 0 rfl) ?_
  refine va_get (D := D) (ci := 1) (v := .int kept) (C := RX1) (T := TX1) (N := 3) hx hb hts ilX1 hown hK hP 0 rfl rfl 1 (by decide) (hts _ wf_X1_15) (fun _ h9 => h9) rfl dX1_send_1 ?_
  refine lv_sipush (v := 500) hx hb dX1_send_4 (by decide) ?_
  refine lv_icmp_ge (tgt := 30) hx hb dX1_send_7 (by decide) (fun c_1 => ?_) (fun c_1 => ?_)
  · skip
    refine lv_aload_n hx hb dX1_send_30 rfl (lv_at hl 0 rfl) ?_
    refine lv_dup hx hb dX1_send_31 rfl ?_
    refine va_get (D := D) (ci := 1) (v := .int gone) (C := RX1) (T := TX1) (N := 3) hx hb hts ilX1 hown hK hP 0 rfl rfl 2 (by decide) (hts _ wf_X1_19) (fun _ h9 => h9) rfl dX1_send_32 ?_
    refine lv_iconst (v := 1) hx hb dX1_send_35 (by decide) ?_
    refine lv_iadd hx hb dX1_send_36 ?_
    refine va_put (D := D) (ci := 1) (v := .int (gone + 1)) (ty := (.int)) (C := RX1) (T := TX1) (N := 3) hx hb hts ilX1 tyX1 tyX1_ok nmX1 hown hK hP hD hS 0 rfl rfl 2 (by decide) (hts _ wf_X1_19) (fun _ h9 => h9) rfl (by decide +kernel) rfl rfl (Nat.le_of_ble_eq_true rfl) dX1_send_37 (fun H locs hP hD hS => ?_)
    have hP : va_P D classes [(qO, .inr (1, [.ref qo, .int kept, .int (gone + 1)])), (qo, .inl (cI, 500, .inl fo))] H := hP
    have hD : va_D A [(qO, .inr (1, [.ref qo, .int kept, .int (gone + 1)])), (qo, .inl (cI, 500, .inl fo))] := hD
    have e_1 : z_X1_send_qO1 kept = kept := by simp only [z_X1_send_qO1, if_pos c_1]
    have e_2 : z_X1_send_qo fo kept p0 = fo := by simp only [z_X1_send_qo, if_pos c_1]
    exact ct_vret () hx hb hr hlocks hP hD hS (by rw [e_1, e_2]) dX1_send_40
  · skip
    refine lv_aload_n hx hb dX1_send_10 rfl (lv_at hl 0 rfl) ?_
    refine va_get (D := D) (ci := 1) (v := .ref qo) (C := RX1) (T := TX1) (N := 3) hx hb hts ilX1 hown hK hP 0 rfl rfl 0 (by decide) (hts _ wf_X1_9) (fun _ h9 => h9) rfl dX1_send_11 ?_
    refine lv_aload_n hx hb dX1_send_14 rfl (lv_at hl 0 rfl) ?_
    refine va_get (D := D) (ci := 1) (v := .int kept) (C := RX1) (T := TX1) (N := 3) hx hb hts ilX1 hown hK hP 0 rfl rfl 1 (by decide) (hts _ wf_X1_15) (fun _ h9 => h9) rfl dX1_send_15 ?_
    refine lv_iload_n hx hb dX1_send_18 rfl (lv_at hl 1 rfl) ?_
    refine va_iast hx hb hK hP hD hS 1 0 rfl rfl (vp_of2 (y := 500) (by decide) hk0 c_1) dX1_send_19 (fun H locs hP hD hS => ?_)
    have hP : va_P D classes [(qO, .inr (1, [.ref qo, .int kept, .int gone])), (qo, .inl (cI, 500, .inl (upd fo (Int32.toNatClampNeg kept) p0)))] H := hP
    have hD : va_D A [(qO, .inr (1, [.ref qo, .int kept, .int gone])), (qo, .inl (cI, 500, .inl (upd fo (Int32.toNatClampNeg kept) p0)))] := hD
    refine lv_aload_n hx hb dX1_send_20 rfl (lv_at hl 0 rfl) ?_
    refine lv_dup hx hb dX1_send_21 rfl ?_
    refine va_get (D := D) (ci := 1) (v := .int kept) (C := RX1) (T := TX1) (N := 3) hx hb hts ilX1 hown hK hP 0 rfl rfl 1 (by decide) (hts _ wf_X1_15) (fun _ h9 => h9) rfl dX1_send_22 ?_
    refine lv_iconst (v := 1) hx hb dX1_send_25 (by decide) ?_
    refine lv_iadd hx hb dX1_send_26 ?_
    refine va_put (D := D) (ci := 1) (v := .int (kept + 1)) (ty := (.int)) (C := RX1) (T := TX1) (N := 3) hx hb hts ilX1 tyX1 tyX1_ok nmX1 hown hK hP hD hS 0 rfl rfl 1 (by decide) (hts _ wf_X1_15) (fun _ h9 => h9) rfl (by decide +kernel) rfl rfl (Nat.le_of_ble_eq_true rfl) dX1_send_27 (fun H locs hP hD hS => ?_)
    have hP : va_P D classes [(qO, .inr (1, [.ref qo, .int (kept + 1), .int gone])), (qo, .inl (cI, 500, .inl (upd fo (Int32.toNatClampNeg kept) p0)))] H := hP
    have hD : va_D A [(qO, .inr (1, [.ref qo, .int (kept + 1), .int gone])), (qo, .inl (cI, 500, .inl (upd fo (Int32.toNatClampNeg kept) p0)))] := hD
    refine lv_aload_n hx hb dX1_send_30 rfl (lv_at hl 0 rfl) ?_
    refine lv_dup hx hb dX1_send_31 rfl ?_
    refine va_get (D := D) (ci := 1) (v := .int gone) (C := RX1) (T := TX1) (N := 3) hx hb hts ilX1 hown hK hP 0 rfl rfl 2 (by decide) (hts _ wf_X1_19) (fun _ h9 => h9) rfl dX1_send_32 ?_
    refine lv_iconst (v := 1) hx hb dX1_send_35 (by decide) ?_
    refine lv_iadd hx hb dX1_send_36 ?_
    refine va_put (D := D) (ci := 1) (v := .int (gone + 1)) (ty := (.int)) (C := RX1) (T := TX1) (N := 3) hx hb hts ilX1 tyX1 tyX1_ok nmX1 hown hK hP hD hS 0 rfl rfl 2 (by decide) (hts _ wf_X1_19) (fun _ h9 => h9) rfl (by decide +kernel) rfl rfl (Nat.le_of_ble_eq_true rfl) dX1_send_37 (fun H locs hP hD hS => ?_)
    have hP : va_P D classes [(qO, .inr (1, [.ref qo, .int (kept + 1), .int (gone + 1)])), (qo, .inl (cI, 500, .inl (upd fo (Int32.toNatClampNeg kept) p0)))] H := hP
    have hD : va_D A [(qO, .inr (1, [.ref qo, .int (kept + 1), .int (gone + 1)])), (qo, .inl (cI, 500, .inl (upd fo (Int32.toNatClampNeg kept) p0)))] := hD
    have e_1 : z_X1_send_qO1 kept = kept + 1 := by simp only [z_X1_send_qO1, if_neg c_1]
    have e_2 : z_X1_send_qo fo kept p0 = upd fo (Int32.toNatClampNeg kept) p0 := by simp only [z_X1_send_qo, if_neg c_1]
    exact ct_vret () hx hb hr hlocks hP hD hS (by rw [e_1, e_2]) dX1_send_40
end
