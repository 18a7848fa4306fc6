section
def r_X3_shiftedL (rL : Int32) (p0 : Int32) : Int32 := (if p0 = 4 then (rL <<< (1 &&& 31)) &&& 65535 else (if p0 = 5 then rL >>> (1 &&& 31) else (if p0 = 6 then ((rL <<< (8 &&& 31)) ||| (rL >>> (8 &&& 31))) &&& 65535 else rL)))
set_option maxHeartbeats 4000000 in
set_option maxRecDepth 100000 in
theorem c_X3_shiftedL (l : Launch) (D : va_G) (cI cZ : ClassId) (qx : Nat) (qR : Nat) (qC : Nat) (qI : Nat) (qM : Nat) (qW : Nat) (qT : Nat) (qp : Nat) (qc : Nat) (qd : Nat) (qk : Nat) (qO : Nat) (qo : Nat) (fR : Nat → Int32) (fC : Nat → Int32) (fI : Nat → Int32) (fW : Nat → Int32) (fp : Nat → Int32) (fc : Nat → Int32) (fd : Nat → Int32) (fk : Nat → Int32) (fo : Nat → Int32) (rT : Int32) (rL : Int32) (rC : Int32) (rIn : Int32) (cyc : Int32) (wai : Int32) (mar : Int32) (rst : Int32) (hand : Int32) (hov : Int32) (said : Int32) (kept : Int32) (gone : Int32) (p0 : Int32) : CtI l D classes [(cI, .int), (cZ, .boolean)] yX3_shiftedL w_X3_shiftedL { frames := 0, cells := 0, slots := 0, locals := 0 } [.ref qx, .int p0] [(qx, .inr (3, [.ref qR, .ref qC, .ref qI, .ref qM, .ref qT, .ref qO, .int rT, .int rL, .int rC, .int rIn, .int cyc, .int wai])), (qR, .inl (cI, 32, .inl fR)), (qC, .inl (cI, 256, .inl fC)), (qI, .inl (cI, 1024, .inl fI)), (qM, .inr (0, [.ref qW, .int mar, .int rst])), (qW, .inl (cI, 1024, .inl fW)), (qT, .inr (2, [.ref qp, .ref qc, .ref qd, .ref qk, .int hand, .int hov, .int said])), (qp, .inl (cI, 16, .inl fp)), (qc, .inl (cI, 16, .inl fc)), (qd, .inl (cI, 16, .inl fd)), (qk, .inl (cZ, 16, .inl fk)), (qO, .inr (1, [.ref qo, .int kept, .int gone])), (qo, .inl (cI, 500, .inl fo))] [(qx, .inr (3, [.ref qR, .ref qC, .ref qI, .ref qM, .ref qT, .ref qO, .int rT, .int rL, .int rC, .int rIn, .int cyc, .int wai])), (qR, .inl (cI, 32, .inl fR)), (qC, .inl (cI, 256, .inl fC)), (qI, .inl (cI, 1024, .inl fI)), (qM, .inr (0, [.ref qW, .int mar, .int rst])), (qW, .inl (cI, 1024, .inl fW)), (qT, .inr (2, [.ref qp, .ref qc, .ref qd, .ref qk, .int hand, .int hov, .int said])), (qp, .inl (cI, 16, .inl fp)), (qc, .inl (cI, 16, .inl fc)), (qd, .inl (cI, 16, .inl fd)), (qk, .inl (cZ, 16, .inl fk)), (qO, .inr (1, [.ref qo, .int kept, .int gone])), (qo, .inl (cI, 500, .inl fo))] (r_X3_shiftedL rL p0) := by
  refine CtI.mk (cc := cX3_shiftedL) (maxL := 2) (ret := (some .int)) (by decide) rfl (Nat.le_of_ble_eq_true rfl) ?_
  intro p e s m below meth c A hBeg ls hl
  obtain ⟨hx, hb, hr, hml, hts0, hown, hlocks, hin, hA, hK, hP, hD, hS⟩ := hBeg
  have hts := fun w h => hts0 w (List.mem_cons_of_mem _ h)
  have hown : s.vm.findClass RX3 = some m.cls := hown
  have hl : lv_has ls 2 [(0, .ref qx), (1, .int p0)] := hl
  skip
  refine lv_iload_n hx hb dX3_shiftedL_0 rfl (lv_at hl 1 rfl) ?_
  by_cases s_1 : p0 = 4
  · skip
    refine lv_tableIn (tgt := 28) (off := 27) hx hb dX3_shiftedL_1 (by rw [s_1]; decide) (by rw [s_1]; decide) (by rw [s_1]; rfl) (by decide) ?_
    refine lv_aload_n hx hb dX3_shiftedL_28 rfl (lv_at hl 0 rfl) ?_
    refine va_get (D := D) (ci := 3) (v := .int rL) (C := RX3) (T := TX3) (N := 12) hx hb hts ilX3 hown hK hP 0 rfl rfl 7 (by decide) (hts _ wf_X3_72) (fun _ h9 => h9) rfl dX3_shiftedL_29 ?_
    refine lv_iconst (v := 1) hx hb dX3_shiftedL_32 (by decide) ?_
    refine lv_ishl hx hb dX3_shiftedL_33 ?_
    refine lv_ldc (v := 65535) hx hb hown (hts _ wk_X3_44) dX3_shiftedL_34 ?_
    refine lv_iand hx hb dX3_shiftedL_36 ?_
    have e_1 : r_X3_shiftedL rL p0 = (rL <<< (1 &&& 31)) &&& 65535 := by simp only [r_X3_shiftedL, if_pos s_1]
    exact ct_iret hx hb hr hlocks hP hD hS rfl (by rw [e_1]) dX3_shiftedL_37
  by_cases s_2 : p0 = 5
  · skip
    refine lv_tableIn (tgt := 38) (off := 37) hx hb dX3_shiftedL_1 (by rw [s_2]; decide) (by rw [s_2]; decide) (by rw [s_2]; rfl) (by decide) ?_
    refine lv_aload_n hx hb dX3_shiftedL_38 rfl (lv_at hl 0 rfl) ?_
    refine va_get (D := D) (ci := 3) (v := .int rL) (C := RX3) (T := TX3) (N := 12) hx hb hts ilX3 hown hK hP 0 rfl rfl 7 (by decide) (hts _ wf_X3_72) (fun _ h9 => h9) rfl dX3_shiftedL_39 ?_
    refine lv_iconst (v := 1) hx hb dX3_shiftedL_42 (by decide) ?_
    refine lv_ishr hx hb dX3_shiftedL_43 ?_
    have e_1 : r_X3_shiftedL rL p0 = rL >>> (1 &&& 31) := by simp only [r_X3_shiftedL, if_neg s_1, if_pos s_2]
    exact ct_iret hx hb hr hlocks hP hD hS rfl (by rw [e_1]) dX3_shiftedL_44
  by_cases s_3 : p0 = 6
  · skip
    refine lv_tableIn (tgt := 45) (off := 44) hx hb dX3_shiftedL_1 (by rw [s_3]; decide) (by rw [s_3]; decide) (by rw [s_3]; rfl) (by decide) ?_
    refine lv_aload_n hx hb dX3_shiftedL_45 rfl (lv_at hl 0 rfl) ?_
    refine va_get (D := D) (ci := 3) (v := .int rL) (C := RX3) (T := TX3) (N := 12) hx hb hts ilX3 hown hK hP 0 rfl rfl 7 (by decide) (hts _ wf_X3_72) (fun _ h9 => h9) rfl dX3_shiftedL_46 ?_
    refine lv_bipush (v := 8) hx hb dX3_shiftedL_49 (by decide) ?_
    refine lv_ishl hx hb dX3_shiftedL_51 ?_
    refine lv_aload_n hx hb dX3_shiftedL_52 rfl (lv_at hl 0 rfl) ?_
    refine va_get (D := D) (ci := 3) (v := .int rL) (C := RX3) (T := TX3) (N := 12) hx hb hts ilX3 hown hK hP 0 rfl rfl 7 (by decide) (hts _ wf_X3_72) (fun _ h9 => h9) rfl dX3_shiftedL_53 ?_
    refine lv_bipush (v := 8) hx hb dX3_shiftedL_56 (by decide) ?_
    refine lv_ishr hx hb dX3_shiftedL_58 ?_
    refine lv_ior hx hb dX3_shiftedL_59 ?_
    refine lv_ldc (v := 65535) hx hb hown (hts _ wk_X3_44) dX3_shiftedL_60 ?_
    refine lv_iand hx hb dX3_shiftedL_62 ?_
    have e_1 : r_X3_shiftedL rL p0 = ((rL <<< (8 &&& 31)) ||| (rL >>> (8 &&& 31))) &&& 65535 := by simp only [r_X3_shiftedL, if_neg s_1, if_neg s_2, if_pos s_3]
    exact ct_iret hx hb hr hlocks hP hD hS rfl (by rw [e_1]) dX3_shiftedL_63
  refine lv_tableOut (tgt := 64) hx hb dX3_shiftedL_1 (by have h_s_1 := lv_neT (k := 4) (a := 4) s_1 (by decide); have h_s_2 := lv_neT (k := 5) (a := 5) s_2 (by decide); have h_s_3 := lv_neT (k := 6) (a := 6) s_3 (by decide); omega) (by decide) ?_
  refine lv_aload_n hx hb dX3_shiftedL_64 rfl (lv_at hl 0 rfl) ?_
  refine va_get (D := D) (ci := 3) (v := .int rL) (C := RX3) (T := TX3) (N := 12) hx hb hts ilX3 hown hK hP 0 rfl rfl 7 (by decide) (hts _ wf_X3_72) (fun _ h9 => h9) rfl dX3_shiftedL_65 ?_
  have e_1 : r_X3_shiftedL rL p0 = rL := by simp only [r_X3_shiftedL, if_neg s_1, if_neg s_2, if_neg s_3]
  exact ct_iret hx hb hr hlocks hP hD hS rfl (by rw [e_1]) dX3_shiftedL_68
def r_X3_busOf (fR : Nat → Int32) (fC : Nat → Int32) (fW : Nat → Int32) (rL : Int32) (rIn : Int32) (mar : Int32) (hand : Int32) (p0 : Int32) : Int32 := (if (r_X3_hasConstant p0) = 0 then (if ((p0 >>> (20 &&& 31)) &&& 7) = 0 then fR (Int32.toNatClampNeg (jushr p0 27)) else (if ((p0 >>> (20 &&& 31)) &&& 7) = 1 then 0 else (if ((p0 >>> (20 &&& 31)) &&& 7) = 2 then 65535 else (if ((p0 >>> (20 &&& 31)) &&& 7) = 3 then rIn else (if ((p0 >>> (20 &&& 31)) &&& 7) = 4 then hand else (if ((p0 >>> (20 &&& 31)) &&& 7) = 5 then fW (Int32.toNatClampNeg (mar &&& 1023)) else (if ((p0 >>> (20 &&& 31)) &&& 7) = 6 then rL else mar))))))) else fC (Int32.toNatClampNeg (((8 : Int32) * (jushr p0 27)) + ((p0 >>> (20 &&& 31)) &&& 7))))
set_option maxHeartbeats 4000000 in
set_option maxRecDepth 100000 in
theorem c_X3_busOf (l : Launch) (D : va_G) (cI cZ : ClassId) (qx : Nat) (qR : Nat) (qC : Nat) (qI : Nat) (qM : Nat) (qW : Nat) (qT : Nat) (qp : Nat) (qc : Nat) (qd : Nat) (qk : Nat) (qO : Nat) (qo : Nat) (fR : Nat → Int32) (fC : Nat → Int32) (fI : Nat → Int32) (fW : Nat → Int32) (fp : Nat → Int32) (fc : Nat → Int32) (fd : Nat → Int32) (fk : Nat → Int32) (fo : Nat → Int32) (rT : Int32) (rL : Int32) (rC : Int32) (rIn : Int32) (cyc : Int32) (wai : Int32) (mar : Int32) (rst : Int32) (hand : Int32) (hov : Int32) (said : Int32) (kept : Int32) (gone : Int32) (p0 : Int32) : CtI l D classes [(cI, .int), (cZ, .boolean)] yX3_busOf w_X3_busOf { frames := 2, cells := 0, slots := 0, locals := 40 } [.ref qx, .int p0] [(qx, .inr (3, [.ref qR, .ref qC, .ref qI, .ref qM, .ref qT, .ref qO, .int rT, .int rL, .int rC, .int rIn, .int cyc, .int wai])), (qR, .inl (cI, 32, .inl fR)), (qC, .inl (cI, 256, .inl fC)), (qI, .inl (cI, 1024, .inl fI)), (qM, .inr (0, [.ref qW, .int mar, .int rst])), (qW, .inl (cI, 1024, .inl fW)), (qT, .inr (2, [.ref qp, .ref qc, .ref qd, .ref qk, .int hand, .int hov, .int said])), (qp, .inl (cI, 16, .inl fp)), (qc, .inl (cI, 16, .inl fc)), (qd, .inl (cI, 16, .inl fd)), (qk, .inl (cZ, 16, .inl fk)), (qO, .inr (1, [.ref qo, .int kept, .int gone])), (qo, .inl (cI, 500, .inl fo))] [(qx, .inr (3, [.ref qR, .ref qC, .ref qI, .ref qM, .ref qT, .ref qO, .int rT, .int rL, .int rC, .int rIn, .int cyc, .int wai])), (qR, .inl (cI, 32, .inl fR)), (qC, .inl (cI, 256, .inl fC)), (qI, .inl (cI, 1024, .inl fI)), (qM, .inr (0, [.ref qW, .int mar, .int rst])), (qW, .inl (cI, 1024, .inl fW)), (qT, .inr (2, [.ref qp, .ref qc, .ref qd, .ref qk, .int hand, .int hov, .int said])), (qp, .inl (cI, 16, .inl fp)), (qc, .inl (cI, 16, .inl fc)), (qd, .inl (cI, 16, .inl fd)), (qk, .inl (cZ, 16, .inl fk)), (qO, .inr (1, [.ref qo, .int kept, .int gone])), (qo, .inl (cI, 500, .inl fo))] (r_X3_busOf fR fC fW rL rIn mar hand p0) := by
  refine CtI.mk (cc := cX3_busOf) (maxL := 4) (ret := (some .int)) (by decide) rfl (Nat.le_of_ble_eq_true rfl) ?_
  intro p e s m below meth c A hBeg ls hl
  obtain ⟨hx, hb, hr, hml, hts0, hown, hlocks, hin, hA, hK, hP, hD, hS⟩ := hBeg
  have hts := fun w h => hts0 w (List.mem_cons_of_mem _ h)
  have hown : s.vm.findClass RX3 = some m.cls := hown
  have hl : lv_has ls 4 [(0, .ref qx), (1, .int p0)] := hl
  skip
  refine lv_iload_n hx hb dX3_busOf_0 rfl (lv_at hl 1 rfl) ?_
  refine ctI_S (As := [.int p0]) (rest := []) (wc := []) (wr := [(qx, .inr (3, [.ref qR, .ref qC, .ref qI, .ref qM, .ref qT, .ref qO, .int rT, .int rL, .int rC, .int rIn, .int cyc, .int wai])), (qR, .inl (cI, 32, .inl fR)), (qC, .inl (cI, 256, .inl fC)), (qI, .inl (cI, 1024, .inl fI)), (qM, .inr (0, [.ref qW, .int mar, .int rst])), (qW, .inl (cI, 1024, .inl fW)), (qT, .inr (2, [.ref qp, .ref qc, .ref qd, .ref qk, .int hand, .int hov, .int said])), (qp, .inl (cI, 16, .inl fp)), (qc, .inl (cI, 16, .inl fc)), (qd, .inl (cI, 16, .inl fd)), (qk, .inl (cZ, 16, .inl fk)), (qO, .inr (1, [.ref qo, .int kept, .int gone])), (qo, .inl (cI, 500, .inl fo))]) ⟨hx, hb, hml, hown, hts⟩ (c_X3_rselOf l D cI cZ p0) (cwS 1 hts (gd_S wm_X3_154 wt_X3_rselOf wz_X3 wo_X3_rselOf) rfl rfl rfl (by decide +kernel) ⟨Nat.le_of_ble_eq_true rfl, Nat.le_of_ble_eq_true rfl⟩) hK hP hD hS hA [] [0, 1, 2, 3, 4, 5, 6, 7, 8, 9, 10, 11, 12] rfl rfl (by decide) (by decide) (by decide) rfl rfl hl.1 (Nat.le_of_ble_eq_true rfl) dX3_busOf_1 ⟨Nat.le_of_ble_eq_true rfl, Nat.le_of_ble_eq_true rfl⟩ (fun H locs hP hD hS => ?_)
  have hP : va_P D classes [(qx, .inr (3, [.ref qR, .ref qC, .ref qI, .ref qM, .ref qT, .ref qO, .int rT, .int rL, .int rC, .int rIn, .int cyc, .int wai])), (qR, .inl (cI, 32, .inl fR)), (qC, .inl (cI, 256, .inl fC)), (qI, .inl (cI, 1024, .inl fI)), (qM, .inr (0, [.ref qW, .int mar, .int rst])), (qW, .inl (cI, 1024, .inl fW)), (qT, .inr (2, [.ref qp, .ref qc, .ref qd, .ref qk, .int hand, .int hov, .int said])), (qp, .inl (cI, 16, .inl fp)), (qc, .inl (cI, 16, .inl fc)), (qd, .inl (cI, 16, .inl fd)), (qk, .inl (cZ, 16, .inl fk)), (qO, .inr (1, [.ref qo, .int kept, .int gone])), (qo, .inl (cI, 500, .inl fo))] H := hP
  have hD : va_D A [(qx, .inr (3, [.ref qR, .ref qC, .ref qI, .ref qM, .ref qT, .ref qO, .int rT, .int rL, .int rC, .int rIn, .int cyc, .int wai])), (qR, .inl (cI, 32, .inl fR)), (qC, .inl (cI, 256, .inl fC)), (qI, .inl (cI, 1024, .inl fI)), (qM, .inr (0, [.ref qW, .int mar, .int rst])), (qW, .inl (cI, 1024, .inl fW)), (qT, .inr (2, [.ref qp, .ref qc, .ref qd, .ref qk, .int hand, .int hov, .int said])), (qp, .inl (cI, 16, .inl fp)), (qc, .inl (cI, 16, .inl fc)), (qd, .inl (cI, 16, .inl fd)), (qk, .inl (cZ, 16, .inl fk)), (qO, .inr (1, [.ref qo, .int kept, .int gone])), (qo, .inl (cI, 500, .inl fo))] := hD
  refine lv_istore_n (lv' := [(2, .int (jushr p0 27)), (0, .ref qx), (1, .int p0)]) hx hb dX3_busOf_4 rfl hl (by decide) rfl (fun ls hl => ?_)
  refine lv_iload_n hx hb dX3_busOf_5 rfl (lv_at hl 2 rfl) ?_
  refine ctI_S (As := [.int p0]) (rest := []) (wc := []) (wr := [(qx, .inr (3, [.ref qR, .ref qC, .ref qI, .ref qM, .ref qT, .ref qO, .int rT, .int rL, .int rC, .int rIn, .int cyc, .int wai])), (qR, .inl (cI, 32, .inl fR)), (qC, .inl (cI, 256, .inl fC)), (qI, .inl (cI, 1024, .inl fI)), (qM, .inr (0, [.ref qW, .int mar, .int rst])), (qW, .inl (cI, 1024, .inl fW)), (qT, .inr (2, [.ref qp, .ref qc, .ref qd, .ref qk, .int hand, .int hov, .int said])), (qp, .inl (cI, 16, .inl fp)), (qc, .inl (cI, 16, .inl fc)), (qd, .inl (cI, 16, .inl fd)), (qk, .inl (cZ, 16, .inl fk)), (qO, .inr (1, [.ref qo, .int kept, .int gone])), (qo, .inl (cI, 500, .inl fo))]) ⟨hx, hb, hml, hown, hts⟩ (c_X3_bsOf l D cI cZ p0) (cwS 1 hts (gd_S wm_X3_124 wt_X3_bsOf wz_X3 wo_X3_bsOf) rfl rfl rfl (by decide +kernel) ⟨Nat.le_of_ble_eq_true rfl, Nat.le_of_ble_eq_true rfl⟩) hK hP hD hS hA [] [0, 1, 2, 3, 4, 5, 6, 7, 8, 9, 10, 11, 12] rfl rfl (by decide) (by decide) (by decide) rfl rfl hl.1 (Nat.le_of_ble_eq_true rfl) dX3_busOf_6 ⟨Nat.le_of_ble_eq_true rfl, Nat.le_of_ble_eq_true rfl⟩ (fun H locs hP hD hS => ?_)
  have hP : va_P D classes [(qx, .inr (3, [.ref qR, .ref qC, .ref qI, .ref qM, .ref qT, .ref qO, .int rT, .int rL, .int rC, .int rIn, .int cyc, .int wai])), (qR, .inl (cI, 32, .inl fR)), (qC, .inl (cI, 256, .inl fC)), (qI, .inl (cI, 1024, .inl fI)), (qM, .inr (0, [.ref qW, .int mar, .int rst])), (qW, .inl (cI, 1024, .inl fW)), (qT, .inr (2, [.ref qp, .ref qc, .ref qd, .ref qk, .int hand, .int hov, .int said])), (qp, .inl (cI, 16, .inl fp)), (qc, .inl (cI, 16, .inl fc)), (qd, .inl (cI, 16, .inl fd)), (qk, .inl (cZ, 16, .inl fk)), (qO, .inr (1, [.ref qo, .int kept, .int gone])), (qo, .inl (cI, 500, .inl fo))] H := hP
  have hD : va_D A [(qx, .inr (3, [.ref qR, .ref qC, .ref qI, .ref qM, .ref qT, .ref qO, .int rT, .int rL, .int rC, .int rIn, .int cyc, .int wai])), (qR, .inl (cI, 32, .inl fR)), (qC, .inl (cI, 256, .inl fC)), (qI, .inl (cI, 1024, .inl fI)), (qM, .inr (0, [.ref qW, .int mar, .int rst])), (qW, .inl (cI, 1024, .inl fW)), (qT, .inr (2, [.ref qp, .ref qc, .ref qd, .ref qk, .int hand, .int hov, .int said])), (qp, .inl (cI, 16, .inl fp)), (qc, .inl (cI, 16, .inl fc)), (qd, .inl (cI, 16, .inl fd)), (qk, .inl (cZ, 16, .inl fk)), (qO, .inr (1, [.ref qo, .int kept, .int gone])), (qo, .inl (cI, 500, .inl fo))] := hD
  refine lv_istore_n (lv' := [(3, .int ((p0 >>> (20 &&& 31)) &&& 7)), (2, .int (jushr p0 27)), (0, .ref qx), (1, .int p0)]) hx hb dX3_busOf_9 rfl hl (by decide) rfl (fun ls hl => ?_)
  refine lv_iload_n hx hb dX3_busOf_10 rfl (lv_at hl 3 rfl) ?_
  refine ctI_S (As := [.int p0]) (rest := []) (wc := []) (wr := [(qx, .inr (3, [.ref qR, .ref qC, .ref qI, .ref qM, .ref qT, .ref qO, .int rT, .int rL, .int rC, .int rIn, .int cyc, .int wai])), (qR, .inl (cI, 32, .inl fR)), (qC, .inl (cI, 256, .inl fC)), (qI, .inl (cI, 1024, .inl fI)), (qM, .inr (0, [.ref qW, .int mar, .int rst])), (qW, .inl (cI, 1024, .inl fW)), (qT, .inr (2, [.ref qp, .ref qc, .ref qd, .ref qk, .int hand, .int hov, .int said])), (qp, .inl (cI, 16, .inl fp)), (qc, .inl (cI, 16, .inl fc)), (qd, .inl (cI, 16, .inl fd)), (qk, .inl (cZ, 16, .inl fk)), (qO, .inr (1, [.ref qo, .int kept, .int gone])), (qo, .inl (cI, 500, .inl fo))]) ⟨hx, hb, hml, hown, hts⟩ (c_X3_hasConstant l D cI cZ p0) (cwS 1 hts (gd_S wm_X3_128 wt_X3_hasConstant wz_X3 wo_X3_hasConstant) rfl rfl rfl (by decide +kernel) ⟨Nat.le_of_ble_eq_true rfl, Nat.le_of_ble_eq_true rfl⟩) hK hP hD hS hA [] [0, 1, 2, 3, 4, 5, 6, 7, 8, 9, 10, 11, 12] rfl rfl (by decide) (by decide) (by decide) rfl rfl hl.1 (Nat.le_of_ble_eq_true rfl) dX3_busOf_11 ⟨Nat.le_of_ble_eq_true rfl, Nat.le_of_ble_eq_true rfl⟩ (fun H locs hP hD hS => ?_)
  have hP : va_P D classes [(qx, .inr (3, [.ref qR, .ref qC, .ref qI, .ref qM, .ref qT, .ref qO, .int rT, .int rL, .int rC, .int rIn, .int cyc, .int wai])), (qR, .inl (cI, 32, .inl fR)), (qC, .inl (cI, 256, .inl fC)), (qI, .inl (cI, 1024, .inl fI)), (qM, .inr (0, [.ref qW, .int mar, .int rst])), (qW, .inl (cI, 1024, .inl fW)), (qT, .inr (2, [.ref qp, .ref qc, .ref qd, .ref qk, .int hand, .int hov, .int said])), (qp, .inl (cI, 16, .inl fp)), (qc, .inl (cI, 16, .inl fc)), (qd, .inl (cI, 16, .inl fd)), (qk, .inl (cZ, 16, .inl fk)), (qO, .inr (1, [.ref qo, .int kept, .int gone])), (qo, .inl (cI, 500, .inl fo))] H := hP
  have hD : va_D A [(qx, .inr (3, [.ref qR, .ref qC, .ref qI, .ref qM, .ref qT, .ref qO, .int rT, .int rL, .int rC, .int rIn, .int cyc, .int wai])), (qR, .inl (cI, 32, .inl fR)), (qC, .inl (cI, 256, .inl fC)), (qI, .inl (cI, 1024, .inl fI)), (qM, .inr (0, [.ref qW, .int mar, .int rst])), (qW, .inl (cI, 1024, .inl fW)), (qT, .inr (2, [.ref qp, .ref qc, .ref qd, .ref qk, .int hand, .int hov, .int said])), (qp, .inl (cI, 16, .inl fp)), (qc, .inl (cI, 16, .inl fc)), (qd, .inl (cI, 16, .inl fd)), (qk, .inl (cZ, 16, .inl fk)), (qO, .inr (1, [.ref qo, .int kept, .int gone])), (qo, .inl (cI, 500, .inl fo))] := hD
  refine lv_if_eq (tgt := 29) hx hb dX3_busOf_14 (by decide) (fun c_1 => ?_) (fun c_1 => ?_)
  · skip
    refine lv_iload_n hx hb dX3_busOf_29 rfl (lv_at hl 0 rfl) ?_
    by_cases s_2 : ((p0 >>> (20 &&& 31)) &&& 7) = 0
    · skip
      refine lv_tableIn (tgt := 72) (off := 42) hx hb dX3_busOf_30 (by rw [s_2]; decide) (by rw [s_2]; decide) (by rw [s_2]; rfl) (by decide) ?_
      refine lv_aload_n hx hb dX3_busOf_72 rfl (lv_at hl 2 rfl) ?_
      refine va_get (D := D) (ci := 3) (v := .ref qR) (C := RX3) (T := TX3) (N := 12) hx hb hts ilX3 hown hK hP 0 rfl rfl 0 (by decide) (hts _ wf_X3_9) (fun _ h9 => h9) rfl dX3_busOf_73 ?_
      refine lv_iload_n hx hb dX3_busOf_76 rfl (lv_at hl 1 rfl) ?_
      refine va_iald hx hb hK hP 1 0 rfl rfl (vp_rsel _) dX3_busOf_77 ?_
      have e_1 : r_X3_busOf fR fC fW rL rIn mar hand p0 = fR (Int32.toNatClampNeg (jushr p0 27)) := by simp only [r_X3_busOf, if_pos c_1, if_pos s_2]
      exact ct_iret hx hb hr hlocks hP hD hS rfl (by rw [e_1]) dX3_busOf_78
    by_cases s_3 : ((p0 >>> (20 &&& 31)) &&& 7) = 1
    · skip
      refine lv_tableIn (tgt := 79) (off := 49) hx hb dX3_busOf_30 (by rw [s_3]; decide) (by rw [s_3]; decide) (by rw [s_3]; rfl) (by decide) ?_
      refine lv_iconst (v := 0) hx hb dX3_busOf_79 (by decide) ?_
      have e_1 : r_X3_busOf fR fC fW rL rIn mar hand p0 = 0 := by simp only [r_X3_busOf, if_pos c_1, if_neg s_2, if_pos s_3]
      exact ct_iret hx hb hr hlocks hP hD hS rfl (by rw [e_1]) dX3_busOf_80
    by_cases s_4 : ((p0 >>> (20 &&& 31)) &&& 7) = 2
    · skip
      refine lv_tableIn (tgt := 81) (off := 51) hx hb dX3_busOf_30 (by rw [s_4]; decide) (by rw [s_4]; decide) (by rw [s_4]; rfl) (by decide) ?_
      refine lv_ldc (v := 65535) hx hb hown (hts _ wk_X3_44) dX3_busOf_81 ?_
      have e_1 : r_X3_busOf fR fC fW rL rIn mar hand p0 = 65535 := by simp only [r_X3_busOf, if_pos c_1, if_neg s_2, if_neg s_3, if_pos s_4]
      exact ct_iret hx hb hr hlocks hP hD hS rfl (by rw [e_1]) dX3_busOf_83
    by_cases s_5 : ((p0 >>> (20 &&& 31)) &&& 7) = 3
    · skip
      refine lv_tableIn (tgt := 84) (off := 54) hx hb dX3_busOf_30 (by rw [s_5]; decide) (by rw [s_5]; decide) (by rw [s_5]; rfl) (by decide) ?_
      refine lv_aload_n hx hb dX3_busOf_84 rfl (lv_at hl 2 rfl) ?_
      refine va_get (D := D) (ci := 3) (v := .int rIn) (C := RX3) (T := TX3) (N := 12) hx hb hts ilX3 hown hK hP 0 rfl rfl 9 (by decide) (hts _ wf_X3_48) (fun _ h9 => h9) rfl dX3_busOf_85 ?_
      have e_1 : r_X3_busOf fR fC fW rL rIn mar hand p0 = rIn := by simp only [r_X3_busOf, if_pos c_1, if_neg s_2, if_neg s_3, if_neg s_4, if_pos s_5]
      exact ct_iret hx hb hr hlocks hP hD hS rfl (by rw [e_1]) dX3_busOf_88
    by_cases s_6 : ((p0 >>> (20 &&& 31)) &&& 7) = 4
    · skip
      refine lv_tableIn (tgt := 89) (off := 59) hx hb dX3_busOf_30 (by rw [s_6]; decide) (by rw [s_6]; decide) (by rw [s_6]; rfl) (by decide) ?_
      refine lv_aload_n hx hb dX3_busOf_89 rfl (lv_at hl 2 rfl) ?_
      refine va_get (D := D) (ci := 3) (v := .ref qT) (C := RX3) (T := TX3) (N := 12) hx hb hts ilX3 hown hK hP 0 rfl rfl 4 (by decide) (hts _ wf_X3_29) (fun _ h9 => h9) rfl dX3_busOf_90 ?_
      refine va_get (D := D) (ci := 2) (v := .int hand) (C := RX2) (T := TX2) (N := 7) hx hb hts ilX2 hown hK hP 6 rfl rfl 4 (by decide) (hts _ wf_X3_92) (fun _ h9 => h9) rfl dX3_busOf_93 ?_
      have e_1 : r_X3_busOf fR fC fW rL rIn mar hand p0 = hand := by simp only [r_X3_busOf, if_pos c_1, if_neg s_2, if_neg s_3, if_neg s_4, if_neg s_5, if_pos s_6]
      exact ct_iret hx hb hr hlocks hP hD hS rfl (by rw [e_1]) dX3_busOf_96
    by_cases s_7 : ((p0 >>> (20 &&& 31)) &&& 7) = 5
    · skip
      refine lv_tableIn (tgt := 97) (off := 67) hx hb dX3_busOf_30 (by rw [s_7]; decide) (by rw [s_7]; decide) (by rw [s_7]; rfl) (by decide) ?_
      refine lv_aload_n hx hb dX3_busOf_97 rfl (lv_at hl 2 rfl) ?_
      refine va_get (D := D) (ci := 3) (v := .ref qM) (C := RX3) (T := TX3) (N := 12) hx hb hts ilX3 hown hK hP 0 rfl rfl 3 (by decide) (hts _ wf_X3_22) (fun _ h9 => h9) rfl dX3_busOf_98 ?_
      refine ctI_V (As := []) (rest := []) (wc := [(qM, .inr (0, [.ref qW, .int mar, .int rst])), (qW, .inl (cI, 1024, .inl fW))]) (wr := [(qx, .inr (3, [.ref qR, .ref qC, .ref qI, .ref qM, .ref qT, .ref qO, .int rT, .int rL, .int rC, .int rIn, .int cyc, .int wai])), (qR, .inl (cI, 32, .inl fR)), (qC, .inl (cI, 256, .inl fC)), (qI, .inl (cI, 1024, .inl fI)), (qT, .inr (2, [.ref qp, .ref qc, .ref qd, .ref qk, .int hand, .int hov, .int said])), (qp, .inl (cI, 16, .inl fp)), (qc, .inl (cI, 16, .inl fc)), (qd, .inl (cI, 16, .inl fd)), (qk, .inl (cZ, 16, .inl fk)), (qO, .inr (1, [.ref qo, .int kept, .int gone])), (qo, .inl (cI, 500, .inl fo))]) ⟨hx, hb, hml, hown, hts⟩ (c_X0_read l D cI cZ qM qW fW mar rst) (cwV 0 hts (gd_V wm_X3_185 wi_X0_read ws_X0_read wz_X0 wo_X0_read) rfl rfl rfl (by decide +kernel) ⟨Nat.le_of_ble_eq_true rfl, Nat.le_of_ble_eq_true rfl⟩) hK hP hD hS hA 4 rfl rfl rfl [4, 5] [0, 1, 2, 3, 6, 7, 8, 9, 10, 11, 12] rfl rfl (by decide) (by decide) (by decide) rfl rfl hl.1 (Nat.le_of_ble_eq_true rfl) dX3_busOf_101 ⟨Nat.le_of_ble_eq_true rfl, Nat.le_of_ble_eq_true rfl⟩ (fun H locs hP hD hS => ?_)
      have hP : va_P D classes [(qx, .inr (3, [.ref qR, .ref qC, .ref qI, .ref qM, .ref qT, .ref qO, .int rT, .int rL, .int rC, .int rIn, .int cyc, .int wai])), (qR, .inl (cI, 32, .inl fR)), (qC, .inl (cI, 256, .inl fC)), (qI, .inl (cI, 1024, .inl fI)), (qT, .inr (2, [.ref qp, .ref qc, .ref qd, .ref qk, .int hand, .int hov, .int said])), (qp, .inl (cI, 16, .inl fp)), (qc, .inl (cI, 16, .inl fc)), (qd, .inl (cI, 16, .inl fd)), (qk, .inl (cZ, 16, .inl fk)), (qO, .inr (1, [.ref qo, .int kept, .int gone])), (qo, .inl (cI, 500, .inl fo)), (qM, .inr (0, [.ref qW, .int mar, .int rst])), (qW, .inl (cI, 1024, .inl fW))] H := hP
      have hD : va_D A [(qx, .inr (3, [.ref qR, .ref qC, .ref qI, .ref qM, .ref qT, .ref qO, .int rT, .int rL, .int rC, .int rIn, .int cyc, .int wai])), (qR, .inl (cI, 32, .inl fR)), (qC, .inl (cI, 256, .inl fC)), (qI, .inl (cI, 1024, .inl fI)), (qT, .inr (2, [.ref qp, .ref qc, .ref qd, .ref qk, .int hand, .int hov, .int said])), (qp, .inl (cI, 16, .inl fp)), (qc, .inl (cI, 16, .inl fc)), (qd, .inl (cI, 16, .inl fd)), (qk, .inl (cZ, 16, .inl fk)), (qO, .inr (1, [.ref qo, .int kept, .int gone])), (qo, .inl (cI, 500, .inl fo)), (qM, .inr (0, [.ref qW, .int mar, .int rst])), (qW, .inl (cI, 1024, .inl fW))] := hD
      have hP := hP.sub (ws' := [(qx, .inr (3, [.ref qR, .ref qC, .ref qI, .ref qM, .ref qT, .ref qO, .int rT, .int rL, .int rC, .int rIn, .int cyc, .int wai])), (qR, .inl (cI, 32, .inl fR)), (qC, .inl (cI, 256, .inl fC)), (qI, .inl (cI, 1024, .inl fI)), (qM, .inr (0, [.ref qW, .int mar, .int rst])), (qW, .inl (cI, 1024, .inl fW)), (qT, .inr (2, [.ref qp, .ref qc, .ref qd, .ref qk, .int hand, .int hov, .int said])), (qp, .inl (cI, 16, .inl fp)), (qc, .inl (cI, 16, .inl fc)), (qd, .inl (cI, 16, .inl fd)), (qk, .inl (cZ, 16, .inl fk)), (qO, .inr (1, [.ref qo, .int kept, .int gone])), (qo, .inl (cI, 500, .inl fo))]) [0, 1, 2, 3, 11, 12, 4, 5, 6, 7, 8, 9, 10] rfl
      have hD := hD.sub (ws' := [(qx, .inr (3, [.ref qR, .ref qC, .ref qI, .ref qM, .ref qT, .ref qO, .int rT, .int rL, .int rC, .int rIn, .int cyc, .int wai])), (qR, .inl (cI, 32, .inl fR)), (qC, .inl (cI, 256, .inl fC)), (qI, .inl (cI, 1024, .inl fI)), (qM, .inr (0, [.ref qW, .int mar, .int rst])), (qW, .inl (cI, 1024, .inl fW)), (qT, .inr (2, [.ref qp, .ref qc, .ref qd, .ref qk, .int hand, .int hov, .int said])), (qp, .inl (cI, 16, .inl fp)), (qc, .inl (cI, 16, .inl fc)), (qd, .inl (cI, 16, .inl fd)), (qk, .inl (cZ, 16, .inl fk)), (qO, .inr (1, [.ref qo, .int kept, .int gone])), (qo, .inl (cI, 500, .inl fo))]) [0, 1, 2, 3, 11, 12, 4, 5, 6, 7, 8, 9, 10] (by decide) rfl
      have e_1 : r_X3_busOf fR fC fW rL rIn mar hand p0 = fW (Int32.toNatClampNeg (mar &&& 1023)) := by simp only [r_X3_busOf, if_pos c_1, if_neg s_2, if_neg s_3, if_neg s_4, if_neg s_5, if_neg s_6, if_pos s_7]
      exact ct_iret hx hb hr hlocks hP hD hS rfl (by rw [e_1]) dX3_busOf_104
    by_cases s_8 : ((p0 >>> (20 &&& 31)) &&& 7) = 6
    · skip
      refine lv_tableIn (tgt := 105) (off := 75) hx hb dX3_busOf_30 (by rw [s_8]; decide) (by rw [s_8]; decide) (by rw [s_8]; rfl) (by decide) ?_
      refine lv_aload_n hx hb dX3_busOf_105 rfl (lv_at hl 2 rfl) ?_
      refine va_get (D := D) (ci := 3) (v := .int rL) (C := RX3) (T := TX3) (N := 12) hx hb hts ilX3 hown hK hP 0 rfl rfl 7 (by decide) (hts _ wf_X3_72) (fun _ h9 => h9) rfl dX3_busOf_106 ?_
      have e_1 : r_X3_busOf fR fC fW rL rIn mar hand p0 = rL := by simp only [r_X3_busOf, if_pos c_1, if_neg s_2, if_neg s_3, if_neg s_4, if_neg s_5, if_neg s_6, if_neg s_7, if_pos s_8]
      exact ct_iret hx hb hr hlocks hP hD hS rfl (by rw [e_1]) dX3_busOf_109
    refine lv_tableOut (tgt := 110) hx hb dX3_busOf_30 (by have h_s_2 := lv_neT (k := 0) (a := 0) s_2 (by decide); have h_s_3 := lv_neT (k := 1) (a := 1) s_3 (by decide); have h_s_4 := lv_neT (k := 2) (a := 2) s_4 (by decide); have h_s_5 := lv_neT (k := 3) (a := 3) s_5 (by decide); have h_s_6 := lv_neT (k := 4) (a := 4) s_6 (by decide); have h_s_7 := lv_neT (k := 5) (a := 5) s_7 (by decide); have h_s_8 := lv_neT (k := 6) (a := 6) s_8 (by decide); omega) (by decide) ?_
    refine lv_aload_n hx hb dX3_busOf_110 rfl (lv_at hl 2 rfl) ?_
    refine va_get (D := D) (ci := 3) (v := .ref qM) (C := RX3) (T := TX3) (N := 12) hx hb hts ilX3 hown hK hP 0 rfl rfl 3 (by decide) (hts _ wf_X3_22) (fun _ h9 => h9) rfl dX3_busOf_111 ?_
    refine va_get (D := D) (ci := 0) (v := .int mar) (C := RX0) (T := TX0) (N := 3) hx hb hts ilX0 hown hK hP 4 rfl rfl 1 (by decide) (hts _ wf_X3_78) (fun _ h9 => h9) rfl dX3_busOf_114 ?_
    have e_1 : r_X3_busOf fR fC fW rL rIn mar hand p0 = mar := by simp only [r_X3_busOf, if_pos c_1, if_neg s_2, if_neg s_3, if_neg s_4, if_neg s_5, if_neg s_6, if_neg s_7, if_neg s_8]
    exact ct_iret hx hb hr hlocks hP hD hS rfl (by rw [e_1]) dX3_busOf_117
  · skip
    refine lv_aload_n hx hb dX3_busOf_17 rfl (lv_at hl 2 rfl) ?_
    refine va_get (D := D) (ci := 3) (v := .ref qC) (C := RX3) (T := TX3) (N := 12) hx hb hts ilX3 hown hK hP 0 rfl rfl 1 (by decide) (hts _ wf_X3_13) (fun _ h9 => h9) rfl dX3_busOf_18 ?_
    refine lv_bipush (v := 8) hx hb dX3_busOf_21 (by decide) ?_
    refine lv_iload_n hx hb dX3_busOf_23 rfl (lv_at hl 1 rfl) ?_
    refine lv_imul hx hb dX3_busOf_24 ?_
    refine lv_iload_n hx hb dX3_busOf_25 rfl (lv_at hl 0 rfl) ?_
    refine lv_iadd hx hb dX3_busOf_26 ?_
    refine va_iald hx hb hK hP 2 0 rfl rfl (vp_cix _ _) dX3_busOf_27 ?_
    have e_1 : r_X3_busOf fR fC fW rL rIn mar hand p0 = fC (Int32.toNatClampNeg (((8 : Int32) * (jushr p0 27)) + ((p0 >>> (20 &&& 31)) &&& 7))) := by simp only [r_X3_busOf, if_neg c_1]
    exact ct_iret hx hb hr hlocks hP hD hS rfl (by rw [e_1]) dX3_busOf_28
def r_X3_sumOf (rT : Int32) (rC : Int32) (p0 : Int32) (p1 : Int32) : Int32 := (if p0 = 0 then p1 else (if p0 = 1 then rT else (if p0 = 2 then p1 ||| rT else (if p0 = 3 then p1 &&& rT else (if p0 = 4 then p1 ^^^ rT else (if p0 = 5 then p1 + 1 else (if p0 = 6 then p1 + 65535 else (if p0 = 7 then p1 + rT else (if p0 = 8 then (p1 + ((rT ^^^ (-1)) &&& 65535)) + 1 else (if p0 = 9 then p1 + ((rT ^^^ (-1)) &&& 65535) else (if p0 = 10 then (p1 + rT) + 1 else (if p0 = 11 then p1 + rC else (if p0 = 12 then p1 &&& rT else (if p0 = 13 then p1 &&& ((rT ^^^ (-1)) &&& 65535) else 0))))))))))))))
set_option maxHeartbeats 4000000 in
set_option maxRecDepth 100000 in
theorem c_X3_sumOf (l : Launch) (D : va_G) (cI cZ : ClassId) (qx : Nat) (qR : Nat) (qC : Nat) (qI : Nat) (qM : Nat) (qW : Nat) (qT : Nat) (qp : Nat) (qc : Nat) (qd : Nat) (qk : Nat) (qO : Nat) (qo : Nat) (fR : Nat → Int32) (fC : Nat → Int32) (fI : Nat → Int32) (fW : Nat → Int32) (fp : Nat → Int32) (fc : Nat → Int32) (fd : Nat → Int32) (fk : Nat → Int32) (fo : Nat → Int32) (rT : Int32) (rL : Int32) (rC : Int32) (rIn : Int32) (cyc : Int32) (wai : Int32) (mar : Int32) (rst : Int32) (hand : Int32) (hov : Int32) (said : Int32) (kept : Int32) (gone : Int32) (p0 : Int32) (p1 : Int32) : CtI l D classes [(cI, .int), (cZ, .boolean)] yX3_sumOf w_X3_sumOf { frames := 0, cells := 0, slots := 0, locals := 0 } [.ref qx, .int p0, .int p1] [(qx, .inr (3, [.ref qR, .ref qC, .ref qI, .ref qM, .ref qT, .ref qO, .int rT, .int rL, .int rC, .int rIn, .int cyc, .int wai])), (qR, .inl (cI, 32, .inl fR)), (qC, .inl (cI, 256, .inl fC)), (qI, .inl (cI, 1024, .inl fI)), (qM, .inr (0, [.ref qW, .int mar, .int rst])), (qW, .inl (cI, 1024, .inl fW)), (qT, .inr (2, [.ref qp, .ref qc, .ref qd, .ref qk, .int hand, .int hov, .int said])), (qp, .inl (cI, 16, .inl fp)), (qc, .inl (cI, 16, .inl fc)), (qd, .inl (cI, 16, .inl fd)), (qk, .inl (cZ, 16, .inl fk)), (qO, .inr (1, [.ref qo, .int kept, .int gone])), (qo, .inl (cI, 500, .inl fo))] [(qx, .inr (3, [.ref qR, .ref qC, .ref qI, .ref qM, .ref qT, .ref qO, .int rT, .int rL, .int rC, .int rIn, .int cyc, .int wai])), (qR, .inl (cI, 32, .inl fR)), (qC, .inl (cI, 256, .inl fC)), (qI, .inl (cI, 1024, .inl fI)), (qM, .inr (0, [.ref qW, .int mar, .int rst])), (qW, .inl (cI, 1024, .inl fW)), (qT, .inr (2, [.ref qp, .ref qc, .ref qd, .ref qk, .int hand, .int hov, .int said])), (qp, .inl (cI, 16, .inl fp)), (qc, .inl (cI, 16, .inl fc)), (qd, .inl (cI, 16, .inl fd)), (qk, .inl (cZ, 16, .inl fk)), (qO, .inr (1, [.ref qo, .int kept, .int gone])), (qo, .inl (cI, 500, .inl fo))] (r_X3_sumOf rT rC p0 p1) := by
  refine CtI.mk (cc := cX3_sumOf) (maxL := 4) (ret := (some .int)) (by decide) rfl (Nat.le_of_ble_eq_true rfl) ?_
  intro p e s m below meth c A hBeg ls hl
  obtain ⟨hx, hb, hr, hml, hts0, hown, hlocks, hin, hA, hK, hP, hD, hS⟩ := hBeg
  have hts := fun w h => hts0 w (List.mem_cons_of_mem _ h)
  have hown : s.vm.findClass RX3 = some m.cls := hown
  have hl : lv_has ls 4 [(0, .ref qx), (1, .int p0), (2, .int p1)] := hl
  skip
  refine lv_aload_n hx hb dX3_sumOf_0 rfl (lv_at hl 0 rfl) ?_
  refine va_get (D := D) (ci := 3) (v := .int rT) (C := RX3) (T := TX3) (N := 12) hx hb hts ilX3 hown hK hP 0 rfl rfl 6 (by decide) (hts _ wf_X3_69) (fun _ h9 => h9) rfl dX3_sumOf_1 ?_
  refine lv_iconst (v := (-1)) hx hb dX3_sumOf_4 (by decide) ?_
  refine lv_ixor hx hb dX3_sumOf_5 ?_
  refine lv_ldc (v := 65535) hx hb hown (hts _ wk_X3_44) dX3_sumOf_6 ?_
  refine lv_iand hx hb dX3_sumOf_8 ?_
  refine lv_istore_n (lv' := [(3, .int ((rT ^^^ (-1)) &&& 65535)), (0, .ref qx), (1, .int p0), (2, .int p1)]) hx hb dX3_sumOf_9 rfl hl (by decide) rfl (fun ls hl => ?_)
  refine lv_iload_n hx hb dX3_sumOf_10 rfl (lv_at hl 2 rfl) ?_
  by_cases s_1 : p0 = 0
  · skip
    refine lv_tableIn (tgt := 80) (off := 69) hx hb dX3_sumOf_11 (by rw [s_1]; decide) (by rw [s_1]; decide) (by rw [s_1]; rfl) (by decide) ?_
    refine lv_iload_n hx hb dX3_sumOf_80 rfl (lv_at hl 3 rfl) ?_
    have e_1 : r_X3_sumOf rT rC p0 p1 = p1 := by simp only [r_X3_sumOf, if_pos s_1]
    exact ct_iret hx hb hr hlocks hP hD hS rfl (by rw [e_1]) dX3_sumOf_81
  by_cases s_2 : p0 = 1
  · skip
    refine lv_tableIn (tgt := 82) (off := 71) hx hb dX3_sumOf_11 (by rw [s_2]; decide) (by rw [s_2]; decide) (by rw [s_2]; rfl) (by decide) ?_
    refine lv_aload_n hx hb dX3_sumOf_82 rfl (lv_at hl 1 rfl) ?_
    refine va_get (D := D) (ci := 3) (v := .int rT) (C := RX3) (T := TX3) (N := 12) hx hb hts ilX3 hown hK hP 0 rfl rfl 6 (by decide) (hts _ wf_X3_69) (fun _ h9 => h9) rfl dX3_sumOf_83 ?_
    have e_1 : r_X3_sumOf rT rC p0 p1 = rT := by simp only [r_X3_sumOf, if_neg s_1, if_pos s_2]
    exact ct_iret hx hb hr hlocks hP hD hS rfl (by rw [e_1]) dX3_sumOf_86
  by_cases s_3 : p0 = 2
  · skip
    refine lv_tableIn (tgt := 87) (off := 76) hx hb dX3_sumOf_11 (by rw [s_3]; decide) (by rw [s_3]; decide) (by rw [s_3]; rfl) (by decide) ?_
    refine lv_iload_n hx hb dX3_sumOf_87 rfl (lv_at hl 3 rfl) ?_
    refine lv_aload_n hx hb dX3_sumOf_88 rfl (lv_at hl 1 rfl) ?_
    refine va_get (D := D) (ci := 3) (v := .int rT) (C := RX3) (T := TX3) (N := 12) hx hb hts ilX3 hown hK hP 0 rfl rfl 6 (by decide) (hts _ wf_X3_69) (fun _ h9 => h9) rfl dX3_sumOf_89 ?_
    refine lv_ior hx hb dX3_sumOf_92 ?_
    have e_1 : r_X3_sumOf rT rC p0 p1 = p1 ||| rT := by simp only [r_X3_sumOf, if_neg s_1, if_neg s_2, if_pos s_3]
    exact ct_iret hx hb hr hlocks hP hD hS rfl (by rw [e_1]) dX3_sumOf_93
  by_cases s_4 : p0 = 3
  · skip
    refine lv_tableIn (tgt := 94) (off := 83) hx hb dX3_sumOf_11 (by rw [s_4]; decide) (by rw [s_4]; decide) (by rw [s_4]; rfl) (by decide) ?_
    refine lv_iload_n hx hb dX3_sumOf_94 rfl (lv_at hl 3 rfl) ?_
    refine lv_aload_n hx hb dX3_sumOf_95 rfl (lv_at hl 1 rfl) ?_
    refine va_get (D := D) (ci := 3) (v := .int rT) (C := RX3) (T := TX3) (N := 12) hx hb hts ilX3 hown hK hP 0 rfl rfl 6 (by decide) (hts _ wf_X3_69) (fun _ h9 => h9) rfl dX3_sumOf_96 ?_
    refine lv_iand hx hb dX3_sumOf_99 ?_
    have e_1 : r_X3_sumOf rT rC p0 p1 = p1 &&& rT := by simp only [r_X3_sumOf, if_neg s_1, if_neg s_2, if_neg s_3, if_pos s_4]
    exact ct_iret hx hb hr hlocks hP hD hS rfl (by rw [e_1]) dX3_sumOf_100
  by_cases s_5 : p0 = 4
  · skip
    refine lv_tableIn (tgt := 101) (off := 90) hx hb dX3_sumOf_11 (by rw [s_5]; decide) (by rw [s_5]; decide) (by rw [s_5]; rfl) (by decide) ?_
    refine lv_iload_n hx hb dX3_sumOf_101 rfl (lv_at hl 3 rfl) ?_
    refine lv_aload_n hx hb dX3_sumOf_102 rfl (lv_at hl 1 rfl) ?_
    refine va_get (D := D) (ci := 3) (v := .int rT) (C := RX3) (T := TX3) (N := 12) hx hb hts ilX3 hown hK hP 0 rfl rfl 6 (by decide) (hts _ wf_X3_69) (fun _ h9 => h9) rfl dX3_sumOf_103 ?_
    refine lv_ixor hx hb dX3_sumOf_106 ?_
    have e_1 : r_X3_sumOf rT rC p0 p1 = p1 ^^^ rT := by simp only [r_X3_sumOf, if_neg s_1, if_neg s_2, if_neg s_3, if_neg s_4, if_pos s_5]
    exact ct_iret hx hb hr hlocks hP hD hS rfl (by rw [e_1]) dX3_sumOf_107
  by_cases s_6 : p0 = 5
  · skip
    refine lv_tableIn (tgt := 108) (off := 97) hx hb dX3_sumOf_11 (by rw [s_6]; decide) (by rw [s_6]; decide) (by rw [s_6]; rfl) (by decide) ?_
    refine lv_iload_n hx hb dX3_sumOf_108 rfl (lv_at hl 3 rfl) ?_
    refine lv_iconst (v := 1) hx hb dX3_sumOf_109 (by decide) ?_
    refine lv_iadd hx hb dX3_sumOf_110 ?_
    have e_1 : r_X3_sumOf rT rC p0 p1 = p1 + 1 := by simp only [r_X3_sumOf, if_neg s_1, if_neg s_2, if_neg s_3, if_neg s_4, if_neg s_5, if_pos s_6]
    exact ct_iret hx hb hr hlocks hP hD hS rfl (by rw [e_1]) dX3_sumOf_111
  by_cases s_7 : p0 = 6
  · skip
    refine lv_tableIn (tgt := 112) (off := 101) hx hb dX3_sumOf_11 (by rw [s_7]; decide) (by rw [s_7]; decide) (by rw [s_7]; rfl) (by decide) ?_
    refine lv_iload_n hx hb dX3_sumOf_112 rfl (lv_at hl 3 rfl) ?_
    refine lv_ldc (v := 65535) hx hb hown (hts _ wk_X3_44) dX3_sumOf_113 ?_
    refine lv_iadd hx hb dX3_sumOf_115 ?_
    have e_1 : r_X3_sumOf rT rC p0 p1 = p1 + 65535 := by simp only [r_X3_sumOf, if_neg s_1, if_neg s_2, if_neg s_3, if_neg s_4, if_neg s_5, if_neg s_6, if_pos s_7]
    exact ct_iret hx hb hr hlocks hP hD hS rfl (by rw [e_1]) dX3_sumOf_116
  by_cases s_8 : p0 = 7
  · skip
    refine lv_tableIn (tgt := 117) (off := 106) hx hb dX3_sumOf_11 (by rw [s_8]; decide) (by rw [s_8]; decide) (by rw [s_8]; rfl) (by decide) ?_
    refine lv_iload_n hx hb dX3_sumOf_117 rfl (lv_at hl 3 rfl) ?_
    refine lv_aload_n hx hb dX3_sumOf_118 rfl (lv_at hl 1 rfl) ?_
    refine va_get (D := D) (ci := 3) (v := .int rT) (C := RX3) (T := TX3) (N := 12) hx hb hts ilX3 hown hK hP 0 rfl rfl 6 (by decide) (hts _ wf_X3_69) (fun _ h9 => h9) rfl dX3_sumOf_119 ?_
    refine lv_iadd hx hb dX3_sumOf_122 ?_
    have e_1 : r_X3_sumOf rT rC p0 p1 = p1 + rT := by simp only [r_X3_sumOf, if_neg s_1, if_neg s_2, if_neg s_3, if_neg s_4, if_neg s_5, if_neg s_6, if_neg s_7, if_pos s_8]
    exact ct_iret hx hb hr hlocks hP hD hS rfl (by rw [e_1]) dX3_sumOf_123
  by_cases s_9 : p0 = 8
  · skip
    refine lv_tableIn (tgt := 124) (off := 113) hx hb dX3_sumOf_11 (by rw [s_9]; decide) (by rw [s_9]; decide) (by rw [s_9]; rfl) (by decide) ?_
    refine lv_iload_n hx hb dX3_sumOf_124 rfl (lv_at hl 3 rfl) ?_
    refine lv_iload_n hx hb dX3_sumOf_125 rfl (lv_at hl 0 rfl) ?_
    refine lv_iadd hx hb dX3_sumOf_126 ?_
    refine lv_iconst (v := 1) hx hb dX3_sumOf_127 (by decide) ?_
    refine lv_iadd hx hb dX3_sumOf_128 ?_
    have e_1 : r_X3_sumOf rT rC p0 p1 = (p1 + ((rT ^^^ (-1)) &&& 65535)) + 1 := by simp only [r_X3_sumOf, if_neg s_1, if_neg s_2, if_neg s_3, if_neg s_4, if_neg s_5, if_neg s_6, if_neg s_7, if_neg s_8, if_pos s_9]
    exact ct_iret hx hb hr hlocks hP hD hS rfl (by rw [e_1]) dX3_sumOf_129
  by_cases s_10 : p0 = 9
  · skip
    refine lv_tableIn (tgt := 130) (off := 119) hx hb dX3_sumOf_11 (by rw [s_10]; decide) (by rw [s_10]; decide) (by rw [s_10]; rfl) (by decide) ?_
    refine lv_iload_n hx hb dX3_sumOf_130 rfl (lv_at hl 3 rfl) ?_
    refine lv_iload_n hx hb dX3_sumOf_131 rfl (lv_at hl 0 rfl) ?_
    refine lv_iadd hx hb dX3_sumOf_132 ?_
    have e_1 : r_X3_sumOf rT rC p0 p1 = p1 + ((rT ^^^ (-1)) &&& 65535) := by simp only [r_X3_sumOf, if_neg s_1, if_neg s_2, if_neg s_3, if_neg s_4, if_neg s_5, if_neg s_6, if_neg s_7, if_neg s_8, if_neg s_9, if_pos s_10]
    exact ct_iret hx hb hr hlocks hP hD hS rfl (by rw [e_1]) dX3_sumOf_133
  by_cases s_11 : p0 = 10
  · skip
    refine lv_tableIn (tgt := 134) (off := 123) hx hb dX3_sumOf_11 (by rw [s_11]; decide) (by rw [s_11]; decide) (by rw [s_11]; rfl) (by decide) ?_
    refine lv_iload_n hx hb dX3_sumOf_134 rfl (lv_at hl 3 rfl) ?_
    refine lv_aload_n hx hb dX3_sumOf_135 rfl (lv_at hl 1 rfl) ?_
    refine va_get (D := D) (ci := 3) (v := .int rT) (C := RX3) (T := TX3) (N := 12) hx hb hts ilX3 hown hK hP 0 rfl rfl 6 (by decide) (hts _ wf_X3_69) (fun _ h9 => h9) rfl dX3_sumOf_136 ?_
    refine lv_iadd hx hb dX3_sumOf_139 ?_
    refine lv_iconst (v := 1) hx hb dX3_sumOf_140 (by decide) ?_
    refine lv_iadd hx hb dX3_sumOf_141 ?_
    have e_1 : r_X3_sumOf rT rC p0 p1 = (p1 + rT) + 1 := by simp only [r_X3_sumOf, if_neg s_1, if_neg s_2, if_neg s_3, if_neg s_4, if_neg s_5, if_neg s_6, if_neg s_7, if_neg s_8, if_neg s_9, if_neg s_10, if_pos s_11]
    exact ct_iret hx hb hr hlocks hP hD hS rfl (by rw [e_1]) dX3_sumOf_142
  by_cases s_12 : p0 = 11
  · skip
    refine lv_tableIn (tgt := 143) (off := 132) hx hb dX3_sumOf_11 (by rw [s_12]; decide) (by rw [s_12]; decide) (by rw [s_12]; rfl) (by decide) ?_
    refine lv_iload_n hx hb dX3_sumOf_143 rfl (lv_at hl 3 rfl) ?_
    refine lv_aload_n hx hb dX3_sumOf_144 rfl (lv_at hl 1 rfl) ?_
    refine va_get (D := D) (ci := 3) (v := .int rC) (C := RX3) (T := TX3) (N := 12) hx hb hts ilX3 hown hK hP 0 rfl rfl 8 (by decide) (hts _ wf_X3_75) (fun _ h9 => h9) rfl dX3_sumOf_145 ?_
    refine lv_iadd hx hb dX3_sumOf_148 ?_
    have e_1 : r_X3_sumOf rT rC p0 p1 = p1 + rC := by simp only [r_X3_sumOf, if_neg s_1, if_neg s_2, if_neg s_3, if_neg s_4, if_neg s_5, if_neg s_6, if_neg s_7, if_neg s_8, if_neg s_9, if_neg s_10, if_neg s_11, if_pos s_12]
    exact ct_iret hx hb hr hlocks hP hD hS rfl (by rw [e_1]) dX3_sumOf_149
  by_cases s_13 : p0 = 12
  · skip
    refine lv_tableIn (tgt := 94) (off := 83) hx hb dX3_sumOf_11 (by rw [s_13]; decide) (by rw [s_13]; decide) (by rw [s_13]; rfl) (by decide) ?_
    refine lv_iload_n hx hb dX3_sumOf_94 rfl (lv_at hl 3 rfl) ?_
    refine lv_aload_n hx hb dX3_sumOf_95 rfl (lv_at hl 1 rfl) ?_
    refine va_get (D := D) (ci := 3) (v := .int rT) (C := RX3) (T := TX3) (N := 12) hx hb hts ilX3 hown hK hP 0 rfl rfl 6 (by decide) (hts _ wf_X3_69) (fun _ h9 => h9) rfl dX3_sumOf_96 ?_
    refine lv_iand hx hb dX3_sumOf_99 ?_
    have e_1 : r_X3_sumOf rT rC p0 p1 = p1 &&& rT := by simp only [r_X3_sumOf, if_neg s_1, if_neg s_2, if_neg s_3, if_neg s_4, if_neg s_5, if_neg s_6, if_neg s_7, if_neg s_8, if_neg s_9, if_neg s_10, if_neg s_11, if_neg s_12, if_pos s_13]
    exact ct_iret hx hb hr hlocks hP hD hS rfl (by rw [e_1]) dX3_sumOf_100
  by_cases s_14 : p0 = 13
  · skip
    refine lv_tableIn (tgt := 150) (off := 139) hx hb dX3_sumOf_11 (by rw [s_14]; decide) (by rw [s_14]; decide) (by rw [s_14]; rfl) (by decide) ?_
    refine lv_iload_n hx hb dX3_sumOf_150 rfl (lv_at hl 3 rfl) ?_
    refine lv_iload_n hx hb dX3_sumOf_151 rfl (lv_at hl 0 rfl) ?_
    refine lv_iand hx hb dX3_sumOf_152 ?_
    have e_1 : r_X3_sumOf rT rC p0 p1 = p1 &&& ((rT ^^^ (-1)) &&& 65535) := by simp only [r_X3_sumOf, if_neg s_1, if_neg s_2, if_neg s_3, if_neg s_4, if_neg s_5, if_neg s_6, if_neg s_7, if_neg s_8, if_neg s_9, if_neg s_10, if_neg s_11, if_neg s_12, if_neg s_13, if_pos s_14]
    exact ct_iret hx hb hr hlocks hP hD hS rfl (by rw [e_1]) dX3_sumOf_153
  refine lv_tableOut (tgt := 154) hx hb dX3_sumOf_11 (by have h_s_1 := lv_neT (k := 0) (a := 0) s_1 (by decide); have h_s_2 := lv_neT (k := 1) (a := 1) s_2 (by decide); have h_s_3 := lv_neT (k := 2) (a := 2) s_3 (by decide); have h_s_4 := lv_neT (k := 3) (a := 3) s_4 (by decide); have h_s_5 := lv_neT (k := 4) (a := 4) s_5 (by decide); have h_s_6 := lv_neT (k := 5) (a := 5) s_6 (by decide); have h_s_7 := lv_neT (k := 6) (a := 6) s_7 (by decide); have h_s_8 := lv_neT (k := 7) (a := 7) s_8 (by decide); have h_s_9 := lv_neT (k := 8) (a := 8) s_9 (by decide); have h_s_10 := lv_neT (k := 9) (a := 9) s_10 (by decide); have h_s_11 := lv_neT (k := 10) (a := 10) s_11 (by decide); have h_s_12 := lv_neT (k := 11) (a := 11) s_12 (by decide); have h_s_13 := lv_neT (k := 12) (a := 12) s_13 (by decide); have h_s_14 := lv_neT (k := 13) (a := 13) s_14 (by decide); omega) (by decide) ?_
  refine lv_iconst (v := 0) hx hb dX3_sumOf_154 (by decide) ?_
  have e_1 : r_X3_sumOf rT rC p0 p1 = 0 := by simp only [r_X3_sumOf, if_neg s_1, if_neg s_2, if_neg s_3, if_neg s_4, if_neg s_5, if_neg s_6, if_neg s_7, if_neg s_8, if_neg s_9, if_neg s_10, if_neg s_11, if_neg s_12, if_neg s_13, if_neg s_14]
  exact ct_iret hx hb hr hlocks hP hD hS rfl (by rw [e_1]) dX3_sumOf_155
def r_X3_changeOf (rC : Int32) (rIn : Int32) (p0 : Int32) (p1 : Int32) (p2 : Int32) : Int32 := (if p0 = 1 then (if p1 = 0 then 1 else 0) else (if p0 = 2 then p2 >>> (15 &&& 31) else (if p0 = 3 then (if p2 = 0 then 1 else 0) else (if p0 = 4 then p1 &&& 1023 else (if p0 = 5 then rC else (if p0 = 6 then 0 else (if p0 = 7 then 0 else (if p0 = 8 then rIn &&& 1 else 0))))))))
set_option maxHeartbeats 4000000 in
set_option maxRecDepth 100000 in
theorem c_X3_changeOf (l : Launch) (D : va_G) (cI cZ : ClassId) (qx : Nat) (qR : Nat) (qC : Nat) (qI : Nat) (qM : Nat) (qW : Nat) (qT : Nat) (qp : Nat) (qc : Nat) (qd : Nat) (qk : Nat) (qO : Nat) (qo : Nat) (fR : Nat → Int32) (fC : Nat → Int32) (fI : Nat → Int32) (fW : Nat → Int32) (fp : Nat → Int32) (fc : Nat → Int32) (fd : Nat → Int32) (fk : Nat → Int32) (fo : Nat → Int32) (rT : Int32) (rL : Int32) (rC : Int32) (rIn : Int32) (cyc : Int32) (wai : Int32) (mar : Int32) (rst : Int32) (hand : Int32) (hov : Int32) (said : Int32) (kept : Int32) (gone : Int32) (p0 : Int32) (p1 : Int32) (p2 : Int32) : CtI l D classes [(cI, .int), (cZ, .boolean)] yX3_changeOf w_X3_changeOf { frames := 0, cells := 0, slots := 0, locals := 0 } [.ref qx, .int p0, .int p1, .int p2] [(qx, .inr (3, [.ref qR, .ref qC, .ref qI, .ref qM, .ref qT, .ref qO, .int rT, .int rL, .int rC, .int rIn, .int cyc, .int wai])), (qR, .inl (cI, 32, .inl fR)), (qC, .inl (cI, 256, .inl fC)), (qI, .inl (cI, 1024, .inl fI)), (qM, .inr (0, [.ref qW, .int mar, .int rst])), (qW, .inl (cI, 1024, .inl fW)), (qT, .inr (2, [.ref qp, .ref qc, .ref qd, .ref qk, .int hand, .int hov, .int said])), (qp, .inl (cI, 16, .inl fp)), (qc, .inl (cI, 16, .inl fc)), (qd, .inl (cI, 16, .inl fd)), (qk, .inl (cZ, 16, .inl fk)), (qO, .inr (1, [.ref qo, .int kept, .int gone])), (qo, .inl (cI, 500, .inl fo))] [(qx, .inr (3, [.ref qR, .ref qC, .ref qI, .ref qM, .ref qT, .ref qO, .int rT, .int rL, .int rC, .int rIn, .int cyc, .int wai])), (qR, .inl (cI, 32, .inl fR)), (qC, .inl (cI, 256, .inl fC)), (qI, .inl (cI, 1024, .inl fI)), (qM, .inr (0, [.ref qW, .int mar, .int rst])), (qW, .inl (cI, 1024, .inl fW)), (qT, .inr (2, [.ref qp, .ref qc, .ref qd, .ref qk, .int hand, .int hov, .int said])), (qp, .inl (cI, 16, .inl fp)), (qc, .inl (cI, 16, .inl fc)), (qd, .inl (cI, 16, .inl fd)), (qk, .inl (cZ, 16, .inl fk)), (qO, .inr (1, [.ref qo, .int kept, .int gone])), (qo, .inl (cI, 500, .inl fo))] (r_X3_changeOf rC rIn p0 p1 p2) := by
  refine CtI.mk (cc := cX3_changeOf) (maxL := 4) (ret := (some .int)) (by decide) rfl (Nat.le_of_ble_eq_true rfl) ?_
  intro p e s m below meth c A hBeg ls hl
  obtain ⟨hx, hb, hr, hml, hts0, hown, hlocks, hin, hA, hK, hP, hD, hS⟩ := hBeg
  have hts := fun w h => hts0 w (List.mem_cons_of_mem _ h)
  have hown : s.vm.findClass RX3 = some m.cls := hown
  have hl : lv_has ls 4 [(0, .ref qx), (1, .int p0), (2, .int p1), (3, .int p2)] := hl
  skip
  refine lv_iload_n hx hb dX3_changeOf_0 rfl (lv_at hl 1 rfl) ?_
  by_cases s_1 : p0 = 1
  · skip
    refine lv_tableIn (tgt := 48) (off := 47) hx hb dX3_changeOf_1 (by rw [s_1]; decide) (by rw [s_1]; decide) (by rw [s_1]; rfl) (by decide) ?_
    refine lv_iload_n hx hb dX3_changeOf_48 rfl (lv_at hl 2 rfl) ?_
    refine lv_if_ne (tgt := 56) hx hb dX3_changeOf_49 (by decide) (fun c_2 => ?_) (fun c_2 => ?_)
    · skip
      refine lv_iconst (v := 0) hx hb dX3_changeOf_56 (by decide) ?_
      have e_1 : r_X3_changeOf rC rIn p0 p1 p2 = 0 := by simp only [r_X3_changeOf, if_pos s_1, if_neg c_2]
      exact ct_iret hx hb hr hlocks hP hD hS rfl (by rw [e_1]) dX3_changeOf_57
    · skip
      refine lv_iconst (v := 1) hx hb dX3_changeOf_52 (by decide) ?_
      refine lv_goto (tgt := 57) hx hb dX3_changeOf_53 (by decide) ?_
      have e_1 : r_X3_changeOf rC rIn p0 p1 p2 = 1 := by simp only [r_X3_changeOf, if_pos s_1, if_pos c_2]
      exact ct_iret hx hb hr hlocks hP hD hS rfl (by rw [e_1]) dX3_changeOf_57
  by_cases s_3 : p0 = 2
  · skip
    refine lv_tableIn (tgt := 58) (off := 57) hx hb dX3_changeOf_1 (by rw [s_3]; decide) (by rw [s_3]; decide) (by rw [s_3]; rfl) (by decide) ?_
    refine lv_iload_n hx hb dX3_changeOf_58 rfl (lv_at hl 3 rfl) ?_
    refine lv_bipush (v := 15) hx hb dX3_changeOf_59 (by decide) ?_
    refine lv_ishr hx hb dX3_changeOf_61 ?_
    have e_1 : r_X3_changeOf rC rIn p0 p1 p2 = p2 >>> (15 &&& 31) := by simp only [r_X3_changeOf, if_neg s_1, if_pos s_3]
    exact ct_iret hx hb hr hlocks hP hD hS rfl (by rw [e_1]) dX3_changeOf_62
  by_cases s_4 : p0 = 3
  · skip
    refine lv_tableIn (tgt := 63) (off := 62) hx hb dX3_changeOf_1 (by rw [s_4]; decide) (by rw [s_4]; decide) (by rw [s_4]; rfl) (by decide) ?_
    refine lv_iload_n hx hb dX3_changeOf_63 rfl (lv_at hl 3 rfl) ?_
    refine lv_if_ne (tgt := 71) hx hb dX3_changeOf_64 (by decide) (fun c_5 => ?_) (fun c_5 => ?_)
    · skip
      refine lv_iconst (v := 0) hx hb dX3_changeOf_71 (by decide) ?_
      have e_1 : r_X3_changeOf rC rIn p0 p1 p2 = 0 := by simp only [r_X3_changeOf, if_neg s_1, if_neg s_3, if_pos s_4, if_neg c_5]
      exact ct_iret hx hb hr hlocks hP hD hS rfl (by rw [e_1]) dX3_changeOf_72
    · skip
      refine lv_iconst (v := 1) hx hb dX3_changeOf_67 (by decide) ?_
      refine lv_goto (tgt := 72) hx hb dX3_changeOf_68 (by decide) ?_
      have e_1 : r_X3_changeOf rC rIn p0 p1 p2 = 1 := by simp only [r_X3_changeOf, if_neg s_1, if_neg s_3, if_pos s_4, if_pos c_5]
      exact ct_iret hx hb hr hlocks hP hD hS rfl (by rw [e_1]) dX3_changeOf_72
  by_cases s_6 : p0 = 4
  · skip
    refine lv_tableIn (tgt := 73) (off := 72) hx hb dX3_changeOf_1 (by rw [s_6]; decide) (by rw [s_6]; decide) (by rw [s_6]; rfl) (by decide) ?_
    refine lv_iload_n hx hb dX3_changeOf_73 rfl (lv_at hl 2 rfl) ?_
    refine lv_sipush (v := 1023) hx hb dX3_changeOf_74 (by decide) ?_
    refine lv_iand hx hb dX3_changeOf_77 ?_
    have e_1 : r_X3_changeOf rC rIn p0 p1 p2 = p1 &&& 1023 := by simp only [r_X3_changeOf, if_neg s_1, if_neg s_3, if_neg s_4, if_pos s_6]
    exact ct_iret hx hb hr hlocks hP hD hS rfl (by rw [e_1]) dX3_changeOf_78
  by_cases s_7 : p0 = 5
  · skip
    refine lv_tableIn (tgt := 79) (off := 78) hx hb dX3_changeOf_1 (by rw [s_7]; decide) (by rw [s_7]; decide) (by rw [s_7]; rfl) (by decide) ?_
    refine lv_aload_n hx hb dX3_changeOf_79 rfl (lv_at hl 0 rfl) ?_
    refine va_get (D := D) (ci := 3) (v := .int rC) (C := RX3) (T := TX3) (N := 12) hx hb hts ilX3 hown hK hP 0 rfl rfl 8 (by decide) (hts _ wf_X3_75) (fun _ h9 => h9) rfl dX3_changeOf_80 ?_
    have e_1 : r_X3_changeOf rC rIn p0 p1 p2 = rC := by simp only [r_X3_changeOf, if_neg s_1, if_neg s_3, if_neg s_4, if_neg s_6, if_pos s_7]
    exact ct_iret hx hb hr hlocks hP hD hS rfl (by rw [e_1]) dX3_changeOf_83
  by_cases s_8 : p0 = 6
  · skip
    refine lv_tableIn (tgt := 91) (off := 90) hx hb dX3_changeOf_1 (by rw [s_8]; decide) (by rw [s_8]; decide) (by rw [s_8]; rfl) (by decide) ?_
    refine lv_iconst (v := 0) hx hb dX3_changeOf_91 (by decide) ?_
    have e_1 : r_X3_changeOf rC rIn p0 p1 p2 = 0 := by simp only [r_X3_changeOf, if_neg s_1, if_neg s_3, if_neg s_4, if_neg s_6, if_neg s_7, if_pos s_8]
    exact ct_iret hx hb hr hlocks hP hD hS rfl (by rw [e_1]) dX3_changeOf_92
  by_cases s_9 : p0 = 7
  · skip
    refine lv_tableIn (tgt := 91) (off := 90) hx hb dX3_changeOf_1 (by rw [s_9]; decide) (by rw [s_9]; decide) (by rw [s_9]; rfl) (by decide) ?_
    refine lv_iconst (v := 0) hx hb dX3_changeOf_91 (by decide) ?_
    have e_1 : r_X3_changeOf rC rIn p0 p1 p2 = 0 := by simp only [r_X3_changeOf, if_neg s_1, if_neg s_3, if_neg s_4, if_neg s_6, if_neg s_7, if_neg s_8, if_pos s_9]
    exact ct_iret hx hb hr hlocks hP hD hS rfl (by rw [e_1]) dX3_changeOf_92
  by_cases s_10 : p0 = 8
  · skip
    refine lv_tableIn (tgt := 84) (off := 83) hx hb dX3_changeOf_1 (by rw [s_10]; decide) (by rw [s_10]; decide) (by rw [s_10]; rfl) (by decide) ?_
    refine lv_aload_n hx hb dX3_changeOf_84 rfl (lv_at hl 0 rfl) ?_
    refine va_get (D := D) (ci := 3) (v := .int rIn) (C := RX3) (T := TX3) (N := 12) hx hb hts ilX3 hown hK hP 0 rfl rfl 9 (by decide) (hts _ wf_X3_48) (fun _ h9 => h9) rfl dX3_changeOf_85 ?_
    refine lv_iconst (v := 1) hx hb dX3_changeOf_88 (by decide) ?_
    refine lv_iand hx hb dX3_changeOf_89 ?_
    have e_1 : r_X3_changeOf rC rIn p0 p1 p2 = rIn &&& 1 := by simp only [r_X3_changeOf, if_neg s_1, if_neg s_3, if_neg s_4, if_neg s_6, if_neg s_7, if_neg s_8, if_neg s_9, if_pos s_10]
    exact ct_iret hx hb hr hlocks hP hD hS rfl (by rw [e_1]) dX3_changeOf_90
  refine lv_tableOut (tgt := 91) hx hb dX3_changeOf_1 (by have h_s_1 := lv_neT (k := 1) (a := 1) s_1 (by decide); have h_s_3 := lv_neT (k := 2) (a := 2) s_3 (by decide); have h_s_4 := lv_neT (k := 3) (a := 3) s_4 (by decide); have h_s_6 := lv_neT (k := 4) (a := 4) s_6 (by decide); have h_s_7 := lv_neT (k := 5) (a := 5) s_7 (by decide); have h_s_8 := lv_neT (k := 6) (a := 6) s_8 (by decide); have h_s_9 := lv_neT (k := 7) (a := 7) s_9 (by decide); have h_s_10 := lv_neT (k := 8) (a := 8) s_10 (by decide); omega) (by decide) ?_
  refine lv_iconst (v := 0) hx hb dX3_changeOf_91 (by decide) ?_
  have e_1 : r_X3_changeOf rC rIn p0 p1 p2 = 0 := by simp only [r_X3_changeOf, if_neg s_1, if_neg s_3, if_neg s_4, if_neg s_6, if_neg s_7, if_neg s_8, if_neg s_9, if_neg s_10]
  exact ct_iret hx hb hr hlocks hP hD hS rfl (by rw [e_1]) dX3_changeOf_92
def j_X3_useMemory_17_qW (fW : Nat → Int32) (mar : Int32) (p0 : Int32) (p1 : Int32) : Nat → Int32 := (if ((p0 >>> (12 &&& 31)) &&& 15) = 6 then upd fW (Int32.toNatClampNeg (mar &&& 1023)) p1 else fW)
def z_X3_useMemory_qM1 (mar : Int32) (p0 : Int32) (p2 : Int32) : Int32 := (if ((p0 >>> (16 &&& 31)) &&& 15) = 1 then p2 else mar)
def z_X3_useMemory_qM2 (rst : Int32) (p0 : Int32) : Int32 := (if ((p0 >>> (16 &&& 31)) &&& 15) = 1 then 0 else rst)
set_option maxHeartbeats 4000000 in
set_option maxRecDepth 100000 in
theorem c_X3_useMemory (l : Launch) (D : va_G) (cI cZ : ClassId) (qx : Nat) (qR : Nat) (qC : Nat) (qI : Nat) (qM : Nat) (qW : Nat) (qT : Nat) (qp : Nat) (qc : Nat) (qd : Nat) (qk : Nat) (qO : Nat) (qo : Nat) (fR : Nat → Int32) (fC : Nat → Int32) (fI : Nat → Int32) (fW : Nat → Int32) (fp : Nat → Int32) (fc : Nat → Int32) (fd : Nat → Int32) (fk : Nat → Int32) (fo : Nat → Int32) (rT : Int32) (rL : Int32) (rC : Int32) (rIn : Int32) (cyc : Int32) (wai : Int32) (mar : Int32) (rst : Int32) (hand : Int32) (hov : Int32) (said : Int32) (kept : Int32) (gone : Int32) (p0 : Int32) (p1 : Int32) (p2 : Int32) : CtV l D classes [(cI, .int), (cZ, .boolean)] yX3_useMemory w_X3_useMemory { frames := 1, cells := 0, slots := 0, locals := 21 } [.ref qx, .int p0, .int p1, .int p2] [(qx, .inr (3, [.ref qR, .ref qC, .ref qI, .ref qM, .ref qT, .ref qO, .int rT, .int rL, .int rC, .int rIn, .int cyc, .int wai])), (qR, .inl (cI, 32, .inl fR)), (qC, .inl (cI, 256, .inl fC)), (qI, .inl (cI, 1024, .inl fI)), (qM, .inr (0, [.ref qW, .int mar, .int rst])), (qW, .inl (cI, 1024, .inl fW)), (qT, .inr (2, [.ref qp, .ref qc, .ref qd, .ref qk, .int hand, .int hov, .int said])), (qp, .inl (cI, 16, .inl fp)), (qc, .inl (cI, 16, .inl fc)), (qd, .inl (cI, 16, .inl fd)), (qk, .inl (cZ, 16, .inl fk)), (qO, .inr (1, [.ref qo, .int kept, .int gone])), (qo, .inl (cI, 500, .inl fo))] (fun (_ : Unit) => [(qx, .inr (3, [.ref qR, .ref qC, .ref qI, .ref qM, .ref qT, .ref qO, .int rT, .int rL, .int rC, .int rIn, .int cyc, .int wai])), (qR, .inl (cI, 32, .inl fR)), (qC, .inl (cI, 256, .inl fC)), (qI, .inl (cI, 1024, .inl fI)), (qM, .inr (0, [.ref qW, .int (z_X3_useMemory_qM1 mar p0 p2), .int (z_X3_useMemory_qM2 rst p0)])), (qW, .inl (cI, 1024, .inl (j_X3_useMemory_17_qW fW mar p0 p1))), (qT, .inr (2, [.ref qp, .ref qc, .ref qd, .ref qk, .int hand, .int hov, .int said])), (qp, .inl (cI, 16, .inl fp)), (qc, .inl (cI, 16, .inl fc)), (qd, .inl (cI, 16, .inl fd)), (qk, .inl (cZ, 16, .inl fk)), (qO, .inr (1, [.ref qo, .int kept, .int gone])), (qo, .inl (cI, 500, .inl fo))]) 0 0 := by
  refine CtV.mk (cc := cX3_useMemory) (maxL := 4) (ret := none) (by decide) rfl (Nat.le_of_ble_eq_true rfl) ?_
  intro p e s m below meth c A hBeg ls hl
  obtain ⟨hx, hb, hr, hml, hts0, hown, hlocks, hin, hA, hK, hP, hD, hS⟩ := hBeg
  have hts := fun w h => hts0 w (List.mem_cons_of_mem _ h)
  have hown : s.vm.findClass RX3 = some m.cls := hown
  have hl : lv_has ls 4 [(0, .ref qx), (1, .int p0), (2, .int p1), (3, .int p2)] := hl
  skip
  refine lv_iload_n hx hb dX3_useMemory_0 rfl (lv_at hl 1 rfl) ?_
  refine ctI_S (As := [.int p0]) (rest := []) (wc := []) (wr := [(qx, .inr (3, [.ref qR, .ref qC, .ref qI, .ref qM, .ref qT, .ref qO, .int rT, .int rL, .int rC, .int rIn, .int cyc, .int wai])), (qR, .inl (cI, 32, .inl fR)), (qC, .inl (cI, 256, .inl fC)), (qI, .inl (cI, 1024, .inl fI)), (qM, .inr (0, [.ref qW, .int mar, .int rst])), (qW, .inl (cI, 1024, .inl fW)), (qT, .inr (2, [.ref qp, .ref qc, .ref qd, .ref qk, .int hand, .int hov, .int said])), (qp, .inl (cI, 16, .inl fp)), (qc, .inl (cI, 16, .inl fc)), (qd, .inl (cI, 16, .inl fd)), (qk, .inl (cZ, 16, .inl fk)), (qO, .inr (1, [.ref qo, .int kept, .int gone])), (qo, .inl (cI, 500, .inl fo))]) ⟨hx, hb, hml, hown, hts⟩ (c_X3_f2Of l D cI cZ p0) (cwS 1 hts (gd_S wm_X3_134 wt_X3_f2Of wz_X3 wo_X3_f2Of) rfl rfl rfl (by decide +kernel) ⟨Nat.le_of_ble_eq_true rfl, Nat.le_of_ble_eq_true rfl⟩) hK hP hD hS hA [] [0, 1, 2, 3, 4, 5, 6, 7, 8, 9, 10, 11, 12] rfl rfl (by decide) (by decide) (by decide) rfl rfl hl.1 (Nat.le_of_ble_eq_true rfl) dX3_useMemory_1 ⟨Nat.le_of_ble_eq_true rfl, Nat.le_of_ble_eq_true rfl⟩ (fun H locs hP hD hS => ?_)
  have hP : va_P D classes [(qx, .inr (3, [.ref qR, .ref qC, .ref qI, .ref qM, .ref qT, .ref qO, .int rT, .int rL, .int rC, .int rIn, .int cyc, .int wai])), (qR, .inl (cI, 32, .inl fR)), (qC, .inl (cI, 256, .inl fC)), (qI, .inl (cI, 1024, .inl fI)), (qM, .inr (0, [.ref qW, .int mar, .int rst])), (qW, .inl (cI, 1024, .inl fW)), (qT, .inr (2, [.ref qp, .ref qc, .ref qd, .ref qk, .int hand, .int hov, .int said])), (qp, .inl (cI, 16, .inl fp)), (qc, .inl (cI, 16, .inl fc)), (qd, .inl (cI, 16, .inl fd)), (qk, .inl (cZ, 16, .inl fk)), (qO, .inr (1, [.ref qo, .int kept, .int gone])), (qo, .inl (cI, 500, .inl fo))] H := hP
  have hD : va_D A [(qx, .inr (3, [.ref qR, .ref qC, .ref qI, .ref qM, .ref qT, .ref qO, .int rT, .int rL, .int rC, .int rIn, .int cyc, .int wai])), (qR, .inl (cI, 32, .inl fR)), (qC, .inl (cI, 256, .inl fC)), (qI, .inl (cI, 1024, .inl fI)), (qM, .inr (0, [.ref qW, .int mar, .int rst])), (qW, .inl (cI, 1024, .inl fW)), (qT, .inr (2, [.ref qp, .ref qc, .ref qd, .ref qk, .int hand, .int hov, .int said])), (qp, .inl (cI, 16, .inl fp)), (qc, .inl (cI, 16, .inl fc)), (qd, .inl (cI, 16, .inl fd)), (qk, .inl (cZ, 16, .inl fk)), (qO, .inr (1, [.ref qo, .int kept, .int gone])), (qo, .inl (cI, 500, .inl fo))] := hD
  refine lv_bipush (v := 6) hx hb dX3_useMemory_4 (by decide) ?_
  refine ct_merge (fun H locs ls => va_P D classes [(qx, .inr (3, [.ref qR, .ref qC, .ref qI, .ref qM, .ref qT, .ref qO, .int rT, .int rL, .int rC, .int rIn, .int cyc, .int wai])), (qR, .inl (cI, 32, .inl fR)), (qC, .inl (cI, 256, .inl fC)), (qI, .inl (cI, 1024, .inl fI)), (qM, .inr (0, [.ref qW, .int mar, .int rst])), (qW, .inl (cI, 1024, .inl (j_X3_useMemory_17_qW fW mar p0 p1))), (qT, .inr (2, [.ref qp, .ref qc, .ref qd, .ref qk, .int hand, .int hov, .int said])), (qp, .inl (cI, 16, .inl fp)), (qc, .inl (cI, 16, .inl fc)), (qd, .inl (cI, 16, .inl fd)), (qk, .inl (cZ, 16, .inl fk)), (qO, .inr (1, [.ref qo, .int kept, .int gone])), (qo, .inl (cI, 500, .inl fo))] H ∧ va_D A [(qx, .inr (3, [.ref qR, .ref qC, .ref qI, .ref qM, .ref qT, .ref qO, .int rT, .int rL, .int rC, .int rIn, .int cyc, .int wai])), (qR, .inl (cI, 32, .inl fR)), (qC, .inl (cI, 256, .inl fC)), (qI, .inl (cI, 1024, .inl fI)), (qM, .inr (0, [.ref qW, .int mar, .int rst])), (qW, .inl (cI, 1024, .inl (j_X3_useMemory_17_qW fW mar p0 p1))), (qT, .inr (2, [.ref qp, .ref qc, .ref qd, .ref qk, .int hand, .int hov, .int said])), (qp, .inl (cI, 16, .inl fp)), (qc, .inl (cI, 16, .inl fc)), (qd, .inl (cI, 16, .inl fd)), (qk, .inl (cZ, 16, .inl fk)), (qO, .inr (1, [.ref qo, .int kept, .int gone])), (qo, .inl (cI, 500, .inl fo))] ∧ va_S A s.heap H locs ∧ lv_has ls 4 [(0, .ref qx), (1, .int p0), (2, .int p1), (3, .int p2)]) 17 [] ?_ (fun J => ?_)
  · skip
    intro H locs ls hh
    obtain ⟨hP, hD, hS, hl⟩ := hh
    refine lv_iload_n hx hb dX3_useMemory_17 rfl (lv_at hl 1 rfl) ?_
    refine ctI_S (As := [.int p0]) (rest := []) (wc := []) (wr := [(qx, .inr (3, [.ref qR, .ref qC, .ref qI, .ref qM, .ref qT, .ref qO, .int rT, .int rL, .int rC, .int rIn, .int cyc, .int wai])), (qR, .inl (cI, 32, .inl fR)), (qC, .inl (cI, 256, .inl fC)), (qI, .inl (cI, 1024, .inl fI)), (qM, .inr (0, [.ref qW, .int mar, .int rst])), (qW, .inl (cI, 1024, .inl (j_X3_useMemory_17_qW fW mar p0 p1))), (qT, .inr (2, [.ref qp, .ref qc, .ref qd, .ref qk, .int hand, .int hov, .int said])), (qp, .inl (cI, 16, .inl fp)), (qc, .inl (cI, 16, .inl fc)), (qd, .inl (cI, 16, .inl fd)), (qk, .inl (cZ, 16, .inl fk)), (qO, .inr (1, [.ref qo, .int kept, .int gone])), (qo, .inl (cI, 500, .inl fo))]) ⟨hx, hb, hml, hown, hts⟩ (c_X3_f1Of l D cI cZ p0) (cwS 1 hts (gd_S wm_X3_131 wt_X3_f1Of wz_X3 wo_X3_f1Of) rfl rfl rfl (by decide +kernel) ⟨Nat.le_of_ble_eq_true rfl, Nat.le_of_ble_eq_true rfl⟩) hK hP hD hS hA [] [0, 1, 2, 3, 4, 5, 6, 7, 8, 9, 10, 11, 12] rfl rfl (by decide) (by decide) (by decide) rfl rfl hl.1 (Nat.le_of_ble_eq_true rfl) dX3_useMemory_18 ⟨Nat.le_of_ble_eq_true rfl, Nat.le_of_ble_eq_true rfl⟩ (fun H locs hP hD hS => ?_)
    have hP : va_P D classes [(qx, .inr (3, [.ref qR, .ref qC, .ref qI, .ref qM, .ref qT, .ref qO, .int rT, .int rL, .int rC, .int rIn, .int cyc, .int wai])), (qR, .inl (cI, 32, .inl fR)), (qC, .inl (cI, 256, .inl fC)), (qI, .inl (cI, 1024, .inl fI)), (qM, .inr (0, [.ref qW, .int mar, .int rst])), (qW, .inl (cI, 1024, .inl (j_X3_useMemory_17_qW fW mar p0 p1))), (qT, .inr (2, [.ref qp, .ref qc, .ref qd, .ref qk, .int hand, .int hov, .int said])), (qp, .inl (cI, 16, .inl fp)), (qc, .inl (cI, 16, .inl fc)), (qd, .inl (cI, 16, .inl fd)), (qk, .inl (cZ, 16, .inl fk)), (qO, .inr (1, [.ref qo, .int kept, .int gone])), (qo, .inl (cI, 500, .inl fo))] H := hP
    have hD : va_D A [(qx, .inr (3, [.ref qR, .ref qC, .ref qI, .ref qM, .ref qT, .ref qO, .int rT, .int rL, .int rC, .int rIn, .int cyc, .int wai])), (qR, .inl (cI, 32, .inl fR)), (qC, .inl (cI, 256, .inl fC)), (qI, .inl (cI, 1024, .inl fI)), (qM, .inr (0, [.ref qW, .int mar, .int rst])), (qW, .inl (cI, 1024, .inl (j_X3_useMemory_17_qW fW mar p0 p1))), (qT, .inr (2, [.ref qp, .ref qc, .ref qd, .ref qk, .int hand, .int hov, .int said])), (qp, .inl (cI, 16, .inl fp)), (qc, .inl (cI, 16, .inl fc)), (qd, .inl (cI, 16, .inl fd)), (qk, .inl (cZ, 16, .inl fk)), (qO, .inr (1, [.ref qo, .int kept, .int gone])), (qo, .inl (cI, 500, .inl fo))] := hD
    refine lv_iconst (v := 1) hx hb dX3_useMemory_21 (by decide) ?_
    refine lv_icmp_ne (tgt := 33) hx hb dX3_useMemory_22 (by decide) (fun c_1 => ?_) (fun c_1 => ?_)
    · skip
      have e_1 : z_X3_useMemory_qM1 mar p0 p2 = mar := by simp only [z_X3_useMemory_qM1, if_neg c_1]
      have e_2 : z_X3_useMemory_qM2 rst p0 = rst := by simp only [z_X3_useMemory_qM2, if_neg c_1]
      exact ct_vret () hx hb hr hlocks hP hD hS (by rw [e_1, e_2]) dX3_useMemory_33
    · skip
      refine lv_aload_n hx hb dX3_useMemory_25 rfl (lv_at hl 0 rfl) ?_
      refine va_get (D := D) (ci := 3) (v := .ref qM) (C := RX3) (T := TX3) (N := 12) hx hb hts ilX3 hown hK hP 0 rfl rfl 3 (by decide) (hts _ wf_X3_22) (fun _ h9 => h9) rfl dX3_useMemory_26 ?_
      refine lv_iload_n hx hb dX3_useMemory_29 rfl (lv_at hl 3 rfl) ?_
      refine ctV_V (As := [.int p2]) (rest := []) (wc := [(qM, .inr (0, [.ref qW, .int mar, .int rst])), (qW, .inl (cI, 1024, .inl (j_X3_useMemory_17_qW fW mar p0 p1)))]) (wr := [(qx, .inr (3, [.ref qR, .ref qC, .ref qI, .ref qM, .ref qT, .ref qO, .int rT, .int rL, .int rC, .int rIn, .int cyc, .int wai])), (qR, .inl (cI, 32, .inl fR)), (qC, .inl (cI, 256, .inl fC)), (qI, .inl (cI, 1024, .inl fI)), (qT, .inr (2, [.ref qp, .ref qc, .ref qd, .ref qk, .int hand, .int hov, .int said])), (qp, .inl (cI, 16, .inl fp)), (qc, .inl (cI, 16, .inl fc)), (qd, .inl (cI, 16, .inl fd)), (qk, .inl (cZ, 16, .inl fk)), (qO, .inr (1, [.ref qo, .int kept, .int gone])), (qo, .inl (cI, 500, .inl fo))]) ⟨hx, hb, hml, hown, hts⟩ (c_X0_begin l D cI cZ qM qW (j_X3_useMemory_17_qW fW mar p0 p1) mar rst p2) (cwV 1 hts (gd_V wm_X3_182 wi_X0_begin ws_X0_begin wz_X0 wo_X0_begin) rfl rfl rfl (by decide +kernel) ⟨Nat.le_of_ble_eq_true rfl, Nat.le_of_ble_eq_true rfl⟩) hK hP hD hS hA 4 rfl rfl rfl [4, 5] [0, 1, 2, 3, 6, 7, 8, 9, 10, 11, 12] rfl rfl (by decide) (by decide) (by decide) rfl rfl hl.1 (Nat.le_of_ble_eq_true rfl) dX3_useMemory_30 ⟨Nat.le_of_ble_eq_true rfl, Nat.le_of_ble_eq_true rfl⟩ (fun u H locs hP hD hS => ?_)
      have hP : va_P D classes [(qx, .inr (3, [.ref qR, .ref qC, .ref qI, .ref qM, .ref qT, .ref qO, .int rT, .int rL, .int rC, .int rIn, .int cyc, .int wai])), (qR, .inl (cI, 32, .inl fR)), (qC, .inl (cI, 256, .inl fC)), (qI, .inl (cI, 1024, .inl fI)), (qT, .inr (2, [.ref qp, .ref qc, .ref qd, .ref qk, .int hand, .int hov, .int said])), (qp, .inl (cI, 16, .inl fp)), (qc, .inl (cI, 16, .inl fc)), (qd, .inl (cI, 16, .inl fd)), (qk, .inl (cZ, 16, .inl fk)), (qO, .inr (1, [.ref qo, .int kept, .int gone])), (qo, .inl (cI, 500, .inl fo)), (qM, .inr (0, [.ref qW, .int p2, .int 0])), (qW, .inl (cI, 1024, .inl (j_X3_useMemory_17_qW fW mar p0 p1)))] H := hP
      have hD : va_D A [(qx, .inr (3, [.ref qR, .ref qC, .ref qI, .ref qM, .ref qT, .ref qO, .int rT, .int rL, .int rC, .int rIn, .int cyc, .int wai])), (qR, .inl (cI, 32, .inl fR)), (qC, .inl (cI, 256, .inl fC)), (qI, .inl (cI, 1024, .inl fI)), (qT, .inr (2, [.ref qp, .ref qc, .ref qd, .ref qk, .int hand, .int hov, .int said])), (qp, .inl (cI, 16, .inl fp)), (qc, .inl (cI, 16, .inl fc)), (qd, .inl (cI, 16, .inl fd)), (qk, .inl (cZ, 16, .inl fk)), (qO, .inr (1, [.ref qo, .int kept, .int gone])), (qo, .inl (cI, 500, .inl fo)), (qM, .inr (0, [.ref qW, .int p2, .int 0])), (qW, .inl (cI, 1024, .inl (j_X3_useMemory_17_qW fW mar p0 p1)))] := hD
      have hP := hP.sub (ws' := [(qx, .inr (3, [.ref qR, .ref qC, .ref qI, .ref qM, .ref qT, .ref qO, .int rT, .int rL, .int rC, .int rIn, .int cyc, .int wai])), (qR, .inl (cI, 32, .inl fR)), (qC, .inl (cI, 256, .inl fC)), (qI, .inl (cI, 1024, .inl fI)), (qM, .inr (0, [.ref qW, .int p2, .int 0])), (qW, .inl (cI, 1024, .inl (j_X3_useMemory_17_qW fW mar p0 p1))), (qT, .inr (2, [.ref qp, .ref qc, .ref qd, .ref qk, .int hand, .int hov, .int said])), (qp, .inl (cI, 16, .inl fp)), (qc, .inl (cI, 16, .inl fc)), (qd, .inl (cI, 16, .inl fd)), (qk, .inl (cZ, 16, .inl fk)), (qO, .inr (1, [.ref qo, .int kept, .int gone])), (qo, .inl (cI, 500, .inl fo))]) [0, 1, 2, 3, 11, 12, 4, 5, 6, 7, 8, 9, 10] rfl
      have hD := hD.sub (ws' := [(qx, .inr (3, [.ref qR, .ref qC, .ref qI, .ref qM, .ref qT, .ref qO, .int rT, .int rL, .int rC, .int rIn, .int cyc, .int wai])), (qR, .inl (cI, 32, .inl fR)), (qC, .inl (cI, 256, .inl fC)), (qI, .inl (cI, 1024, .inl fI)), (qM, .inr (0, [.ref qW, .int p2, .int 0])), (qW, .inl (cI, 1024, .inl (j_X3_useMemory_17_qW fW mar p0 p1))), (qT, .inr (2, [.ref qp, .ref qc, .ref qd, .ref qk, .int hand, .int hov, .int said])), (qp, .inl (cI, 16, .inl fp)), (qc, .inl (cI, 16, .inl fc)), (qd, .inl (cI, 16, .inl fd)), (qk, .inl (cZ, 16, .inl fk)), (qO, .inr (1, [.ref qo, .int kept, .int gone])), (qo, .inl (cI, 500, .inl fo))]) [0, 1, 2, 3, 11, 12, 4, 5, 6, 7, 8, 9, 10] (by decide) rfl
      have e_1 : z_X3_useMemory_qM1 mar p0 p2 = p2 := by simp only [z_X3_useMemory_qM1, if_pos c_1]
      have e_2 : z_X3_useMemory_qM2 rst p0 = 0 := by simp only [z_X3_useMemory_qM2, if_pos c_1]
      exact ct_vret () hx hb hr hlocks hP hD hS (by rw [e_1, e_2]) dX3_useMemory_33
  · skip
    refine lv_icmp_ne (tgt := 17) hx hb dX3_useMemory_6 (by decide) (fun c_2 => ?_) (fun c_2 => ?_)
    · skip
      have hP := hP.sub (ws' := [(qx, .inr (3, [.ref qR, .ref qC, .ref qI, .ref qM, .ref qT, .ref qO, .int rT, .int rL, .int rC, .int rIn, .int cyc, .int wai])), (qR, .inl (cI, 32, .inl fR)), (qC, .inl (cI, 256, .inl fC)), (qI, .inl (cI, 1024, .inl fI)), (qM, .inr (0, [.ref qW, .int mar, .int rst])), (qW, .inl (cI, 1024, .inl fW)), (qT, .inr (2, [.ref qp, .ref qc, .ref qd, .ref qk, .int hand, .int hov, .int said])), (qp, .inl (cI, 16, .inl fp)), (qc, .inl (cI, 16, .inl fc)), (qd, .inl (cI, 16, .inl fd)), (qk, .inl (cZ, 16, .inl fk)), (qO, .inr (1, [.ref qo, .int kept, .int gone])), (qo, .inl (cI, 500, .inl fo))]) [0, 1, 2, 3, 4, 5, 6, 7, 8, 9, 10, 11, 12] rfl
      have hD := hD.sub (ws' := [(qx, .inr (3, [.ref qR, .ref qC, .ref qI, .ref qM, .ref qT, .ref qO, .int rT, .int rL, .int rC, .int rIn, .int cyc, .int wai])), (qR, .inl (cI, 32, .inl fR)), (qC, .inl (cI, 256, .inl fC)), (qI, .inl (cI, 1024, .inl fI)), (qM, .inr (0, [.ref qW, .int mar, .int rst])), (qW, .inl (cI, 1024, .inl fW)), (qT, .inr (2, [.ref qp, .ref qc, .ref qd, .ref qk, .int hand, .int hov, .int said])), (qp, .inl (cI, 16, .inl fp)), (qc, .inl (cI, 16, .inl fc)), (qd, .inl (cI, 16, .inl fd)), (qk, .inl (cZ, 16, .inl fk)), (qO, .inr (1, [.ref qo, .int kept, .int gone])), (qo, .inl (cI, 500, .inl fo))]) [0, 1, 2, 3, 4, 5, 6, 7, 8, 9, 10, 11, 12] (by decide) rfl
      have e_1 : j_X3_useMemory_17_qW fW mar p0 p1 = fW := by simp only [j_X3_useMemory_17_qW, if_neg c_2]
      exact J _ _ _ ⟨(by rw [e_1]; exact hP), (by rw [e_1]; exact hD), hS, (lv_sub hl [0, 1, 2, 3] rfl)⟩
    · skip
      refine lv_aload_n hx hb dX3_useMemory_9 rfl (lv_at hl 0 rfl) ?_
      refine va_get (D := D) (ci := 3) (v := .ref qM) (C := RX3) (T := TX3) (N := 12) hx hb hts ilX3 hown hK hP 0 rfl rfl 3 (by decide) (hts _ wf_X3_22) (fun _ h9 => h9) rfl dX3_useMemory_10 ?_
      refine lv_iload_n hx hb dX3_useMemory_13 rfl (lv_at hl 2 rfl) ?_
      refine ctV_V (As := [.int p1]) (rest := []) (wc := [(qM, .inr (0, [.ref qW, .int mar, .int rst])), (qW, .inl (cI, 1024, .inl fW))]) (wr := [(qx, .inr (3, [.ref qR, .ref qC, .ref qI, .ref qM, .ref qT, .ref qO, .int rT, .int rL, .int rC, .int rIn, .int cyc, .int wai])), (qR, .inl (cI, 32, .inl fR)), (qC, .inl (cI, 256, .inl fC)), (qI, .inl (cI, 1024, .inl fI)), (qT, .inr (2, [.ref qp, .ref qc, .ref qd, .ref qk, .int hand, .int hov, .int said])), (qp, .inl (cI, 16, .inl fp)), (qc, .inl (cI, 16, .inl fc)), (qd, .inl (cI, 16, .inl fd)), (qk, .inl (cZ, 16, .inl fk)), (qO, .inr (1, [.ref qo, .int kept, .int gone])), (qo, .inl (cI, 500, .inl fo))]) ⟨hx, hb, hml, hown, hts⟩ (c_X0_write l D cI cZ qM qW fW mar rst p1) (cwV 1 hts (gd_V wm_X3_179 wi_X0_write ws_X0_write wz_X0 wo_X0_write) rfl rfl rfl (by decide +kernel) ⟨Nat.le_of_ble_eq_true rfl, Nat.le_of_ble_eq_true rfl⟩) hK hP hD hS hA 4 rfl rfl rfl [4, 5] [0, 1, 2, 3, 6, 7, 8, 9, 10, 11, 12] rfl rfl (by decide) (by decide) (by decide) rfl rfl hl.1 (Nat.le_of_ble_eq_true rfl) dX3_useMemory_14 ⟨Nat.le_of_ble_eq_true rfl, Nat.le_of_ble_eq_true rfl⟩ (fun u H locs hP hD hS => ?_)
      have hP : va_P D classes [(qx, .inr (3, [.ref qR, .ref qC, .ref qI, .ref qM, .ref qT, .ref qO, .int rT, .int rL, .int rC, .int rIn, .int cyc, .int wai])), (qR, .inl (cI, 32, .inl fR)), (qC, .inl (cI, 256, .inl fC)), (qI, .inl (cI, 1024, .inl fI)), (qT, .inr (2, [.ref qp, .ref qc, .ref qd, .ref qk, .int hand, .int hov, .int said])), (qp, .inl (cI, 16, .inl fp)), (qc, .inl (cI, 16, .inl fc)), (qd, .inl (cI, 16, .inl fd)), (qk, .inl (cZ, 16, .inl fk)), (qO, .inr (1, [.ref qo, .int kept, .int gone])), (qo, .inl (cI, 500, .inl fo)), (qM, .inr (0, [.ref qW, .int mar, .int rst])), (qW, .inl (cI, 1024, .inl (upd fW (Int32.toNatClampNeg (mar &&& 1023)) p1)))] H := hP
      have hD : va_D A [(qx, .inr (3, [.ref qR, .ref qC, .ref qI, .ref qM, .ref qT, .ref qO, .int rT, .int rL, .int rC, .int rIn, .int cyc, .int wai])), (qR, .inl (cI, 32, .inl fR)), (qC, .inl (cI, 256, .inl fC)), (qI, .inl (cI, 1024, .inl fI)), (qT, .inr (2, [.ref qp, .ref qc, .ref qd, .ref qk, .int hand, .int hov, .int said])), (qp, .inl (cI, 16, .inl fp)), (qc, .inl (cI, 16, .inl fc)), (qd, .inl (cI, 16, .inl fd)), (qk, .inl (cZ, 16, .inl fk)), (qO, .inr (1, [.ref qo, .int kept, .int gone])), (qo, .inl (cI, 500, .inl fo)), (qM, .inr (0, [.ref qW, .int mar, .int rst])), (qW, .inl (cI, 1024, .inl (upd fW (Int32.toNatClampNeg (mar &&& 1023)) p1)))] := hD
      have hP := hP.sub (ws' := [(qx, .inr (3, [.ref qR, .ref qC, .ref qI, .ref qM, .ref qT, .ref qO, .int rT, .int rL, .int rC, .int rIn, .int cyc, .int wai])), (qR, .inl (cI, 32, .inl fR)), (qC, .inl (cI, 256, .inl fC)), (qI, .inl (cI, 1024, .inl fI)), (qM, .inr (0, [.ref qW, .int mar, .int rst])), (qW, .inl (cI, 1024, .inl (upd fW (Int32.toNatClampNeg (mar &&& 1023)) p1))), (qT, .inr (2, [.ref qp, .ref qc, .ref qd, .ref qk, .int hand, .int hov, .int said])), (qp, .inl (cI, 16, .inl fp)), (qc, .inl (cI, 16, .inl fc)), (qd, .inl (cI, 16, .inl fd)), (qk, .inl (cZ, 16, .inl fk)), (qO, .inr (1, [.ref qo, .int kept, .int gone])), (qo, .inl (cI, 500, .inl fo))]) [0, 1, 2, 3, 11, 12, 4, 5, 6, 7, 8, 9, 10] rfl
      have hD := hD.sub (ws' := [(qx, .inr (3, [.ref qR, .ref qC, .ref qI, .ref qM, .ref qT, .ref qO, .int rT, .int rL, .int rC, .int rIn, .int cyc, .int wai])), (qR, .inl (cI, 32, .inl fR)), (qC, .inl (cI, 256, .inl fC)), (qI, .inl (cI, 1024, .inl fI)), (qM, .inr (0, [.ref qW, .int mar, .int rst])), (qW, .inl (cI, 1024, .inl (upd fW (Int32.toNatClampNeg (mar &&& 1023)) p1))), (qT, .inr (2, [.ref qp, .ref qc, .ref qd, .ref qk, .int hand, .int hov, .int said])), (qp, .inl (cI, 16, .inl fp)), (qc, .inl (cI, 16, .inl fc)), (qd, .inl (cI, 16, .inl fd)), (qk, .inl (cZ, 16, .inl fk)), (qO, .inr (1, [.ref qo, .int kept, .int gone])), (qo, .inl (cI, 500, .inl fo))]) [0, 1, 2, 3, 11, 12, 4, 5, 6, 7, 8, 9, 10] (by decide) rfl
      have e_1 : j_X3_useMemory_17_qW fW mar p0 p1 = upd fW (Int32.toNatClampNeg (mar &&& 1023)) p1 := by simp only [j_X3_useMemory_17_qW, if_pos c_2]
      exact J _ _ _ ⟨(by rw [e_1]; exact hP), (by rw [e_1]; exact hD), hS, (lv_sub hl [0, 1, 2, 3] rfl)⟩
def j_X3_mustWait_28_s0 (p0 : Int32) : Int32 := (if ((p0 >>> (20 &&& 31)) &&& 7) = 5 then (if (r_X3_hasConstant p0) = 0 then 1 else 0) else 0)
def r_X3_mustWait (rst : Int32) (p0 : Int32) : Int32 := (if ((p0 >>> (16 &&& 31)) &&& 15) = 1 then (if rst < 5 then 1 else (if (j_X3_mustWait_28_s0 p0) = 0 then (if ((p0 >>> (12 &&& 31)) &&& 15) = 6 then (if 2 ≤ rst then 0 else 1) else 0) else (if rst < 4 then 1 else (if ((p0 >>> (12 &&& 31)) &&& 15) = 6 then (if 2 ≤ rst then 0 else 1) else 0)))) else (if (j_X3_mustWait_28_s0 p0) = 0 then (if ((p0 >>> (12 &&& 31)) &&& 15) = 6 then (if 2 ≤ rst then 0 else 1) else 0) else (if rst < 4 then 1 else (if ((p0 >>> (12 &&& 31)) &&& 15) = 6 then (if 2 ≤ rst then 0 else 1) else 0))))
set_option maxHeartbeats 4000000 in
set_option maxRecDepth 100000 in
theorem c_X3_mustWait (l : Launch) (D : va_G) (cI cZ : ClassId) (qx : Nat) (qR : Nat) (qC : Nat) (qI : Nat) (qM : Nat) (qW : Nat) (qT : Nat) (qp : Nat) (qc : Nat) (qd : Nat) (qk : Nat) (qO : Nat) (qo : Nat) (fR : Nat → Int32) (fC : Nat → Int32) (fI : Nat → Int32) (fW : Nat → Int32) (fp : Nat → Int32) (fc : Nat → Int32) (fd : Nat → Int32) (fk : Nat → Int32) (fo : Nat → Int32) (rT : Int32) (rL : Int32) (rC : Int32) (rIn : Int32) (cyc : Int32) (wai : Int32) (mar : Int32) (rst : Int32) (hand : Int32) (hov : Int32) (said : Int32) (kept : Int32) (gone : Int32) (p0 : Int32) : CtI l D classes [(cI, .int), (cZ, .boolean)] yX3_mustWait w_X3_mustWait { frames := 2, cells := 0, slots := 0, locals := 40 } [.ref qx, .int p0] [(qx, .inr (3, [.ref qR, .ref qC, .ref qI, .ref qM, .ref qT, .ref qO, .int rT, .int rL, .int rC, .int rIn, .int cyc, .int wai])), (qR, .inl (cI, 32, .inl fR)), (qC, .inl (cI, 256, .inl fC)), (qI, .inl (cI, 1024, .inl fI)), (qM, .inr (0, [.ref qW, .int mar, .int rst])), (qW, .inl (cI, 1024, .inl fW)), (qT, .inr (2, [.ref qp, .ref qc, .ref qd, .ref qk, .int hand, .int hov, .int said])), (qp, .inl (cI, 16, .inl fp)), (qc, .inl (cI, 16, .inl fc)), (qd, .inl (cI, 16, .inl fd)), (qk, .inl (cZ, 16, .inl fk)), (qO, .inr (1, [.ref qo, .int kept, .int gone])), (qo, .inl (cI, 500, .inl fo))] [(qx, .inr (3, [.ref qR, .ref qC, .ref qI, .ref qM, .ref qT, .ref qO, .int rT, .int rL, .int rC, .int rIn, .int cyc, .int wai])), (qR, .inl (cI, 32, .inl fR)), (qC, .inl (cI, 256, .inl fC)), (qI, .inl (cI, 1024, .inl fI)), (qM, .inr (0, [.ref qW, .int mar, .int rst])), (qW, .inl (cI, 1024, .inl fW)), (qT, .inr (2, [.ref qp, .ref qc, .ref qd, .ref qk, .int hand, .int hov, .int said])), (qp, .inl (cI, 16, .inl fp)), (qc, .inl (cI, 16, .inl fc)), (qd, .inl (cI, 16, .inl fd)), (qk, .inl (cZ, 16, .inl fk)), (qO, .inr (1, [.ref qo, .int kept, .int gone])), (qo, .inl (cI, 500, .inl fo))] (r_X3_mustWait rst p0) := by
  refine CtI.mk (cc := cX3_mustWait) (maxL := 4) (ret := (some .boolean)) (by decide) rfl (Nat.le_of_ble_eq_true rfl) ?_
  intro p e s m below meth c A hBeg ls hl
  obtain ⟨hx, hb, hr, hml, hts0, hown, hlocks, hin, hA, hK, hP, hD, hS⟩ := hBeg
  have hts := fun w h => hts0 w (List.mem_cons_of_mem _ h)
  have hown : s.vm.findClass RX3 = some m.cls := hown
  have hl : lv_has ls 4 [(0, .ref qx), (1, .int p0)] := hl
  skip
  refine lv_aload_n hx hb dX3_mustWait_0 rfl (lv_at hl 0 rfl) ?_
  refine va_get (D := D) (ci := 3) (v := .ref qM) (C := RX3) (T := TX3) (N := 12) hx hb hts ilX3 hown hK hP 0 rfl rfl 3 (by decide) (hts _ wf_X3_22) (fun _ h9 => h9) rfl dX3_mustWait_1 ?_
  refine va_get (D := D) (ci := 0) (v := .int rst) (C := RX0) (T := TX0) (N := 3) hx hb hts ilX0 hown hK hP 4 rfl rfl 2 (by decide) (hts _ wf_X3_121) (fun _ h9 => h9) rfl dX3_mustWait_4 ?_
  refine lv_istore_n (lv' := [(2, .int rst), (0, .ref qx), (1, .int p0)]) hx hb dX3_mustWait_7 rfl hl (by decide) rfl (fun ls hl => ?_)
  refine lv_iload_n hx hb dX3_mustWait_8 rfl (lv_at hl 2 rfl) ?_
  refine ctI_S (As := [.int p0]) (rest := []) (wc := []) (wr := [(qx, .inr (3, [.ref qR, .ref qC, .ref qI, .ref qM, .ref qT, .ref qO, .int rT, .int rL, .int rC, .int rIn, .int cyc, .int wai])), (qR, .inl (cI, 32, .inl fR)), (qC, .inl (cI, 256, .inl fC)), (qI, .inl (cI, 1024, .inl fI)), (qM, .inr (0, [.ref qW, .int mar, .int rst])), (qW, .inl (cI, 1024, .inl fW)), (qT, .inr (2, [.ref qp, .ref qc, .ref qd, .ref qk, .int hand, .int hov, .int said])), (qp, .inl (cI, 16, .inl fp)), (qc, .inl (cI, 16, .inl fc)), (qd, .inl (cI, 16, .inl fd)), (qk, .inl (cZ, 16, .inl fk)), (qO, .inr (1, [.ref qo, .int kept, .int gone])), (qo, .inl (cI, 500, .inl fo))]) ⟨hx, hb, hml, hown, hts⟩ (c_X3_bsOf l D cI cZ p0) (cwS 1 hts (gd_S wm_X3_124 wt_X3_bsOf wz_X3 wo_X3_bsOf) rfl rfl rfl (by decide +kernel) ⟨Nat.le_of_ble_eq_true rfl, Nat.le_of_ble_eq_true rfl⟩) hK hP hD hS hA [] [0, 1, 2, 3, 4, 5, 6, 7, 8, 9, 10, 11, 12] rfl rfl (by decide) (by decide) (by decide) rfl rfl hl.1 (Nat.le_of_ble_eq_true rfl) dX3_mustWait_9 ⟨Nat.le_of_ble_eq_true rfl, Nat.le_of_ble_eq_true rfl⟩ (fun H locs hP hD hS => ?_)
  have hP : va_P D classes [(qx, .inr (3, [.ref qR, .ref qC, .ref qI, .ref qM, .ref qT, .ref qO, .int rT, .int rL, .int rC, .int rIn, .int cyc, .int wai])), (qR, .inl (cI, 32, .inl fR)), (qC, .inl (cI, 256, .inl fC)), (qI, .inl (cI, 1024, .inl fI)), (qM, .inr (0, [.ref qW, .int mar, .int rst])), (qW, .inl (cI, 1024, .inl fW)), (qT, .inr (2, [.ref qp, .ref qc, .ref qd, .ref qk, .int hand, .int hov, .int said])), (qp, .inl (cI, 16, .inl fp)), (qc, .inl (cI, 16, .inl fc)), (qd, .inl (cI, 16, .inl fd)), (qk, .inl (cZ, 16, .inl fk)), (qO, .inr (1, [.ref qo, .int kept, .int gone])), (qo, .inl (cI, 500, .inl fo))] H := hP
  have hD : va_D A [(qx, .inr (3, [.ref qR, .ref qC, .ref qI, .ref qM, .ref qT, .ref qO, .int rT, .int rL, .int rC, .int rIn, .int cyc, .int wai])), (qR, .inl (cI, 32, .inl fR)), (qC, .inl (cI, 256, .inl fC)), (qI, .inl (cI, 1024, .inl fI)), (qM, .inr (0, [.ref qW, .int mar, .int rst])), (qW, .inl (cI, 1024, .inl fW)), (qT, .inr (2, [.ref qp, .ref qc, .ref qd, .ref qk, .int hand, .int hov, .int said])), (qp, .inl (cI, 16, .inl fp)), (qc, .inl (cI, 16, .inl fc)), (qd, .inl (cI, 16, .inl fd)), (qk, .inl (cZ, 16, .inl fk)), (qO, .inr (1, [.ref qo, .int kept, .int gone])), (qo, .inl (cI, 500, .inl fo))] := hD
  refine lv_iconst (v := 5) hx hb dX3_mustWait_12 (by decide) ?_
  refine ct_merge (fun H locs ls => va_P D classes [(qx, .inr (3, [.ref qR, .ref qC, .ref qI, .ref qM, .ref qT, .ref qO, .int rT, .int rL, .int rC, .int rIn, .int cyc, .int wai])), (qR, .inl (cI, 32, .inl fR)), (qC, .inl (cI, 256, .inl fC)), (qI, .inl (cI, 1024, .inl fI)), (qM, .inr (0, [.ref qW, .int mar, .int rst])), (qW, .inl (cI, 1024, .inl fW)), (qT, .inr (2, [.ref qp, .ref qc, .ref qd, .ref qk, .int hand, .int hov, .int said])), (qp, .inl (cI, 16, .inl fp)), (qc, .inl (cI, 16, .inl fc)), (qd, .inl (cI, 16, .inl fd)), (qk, .inl (cZ, 16, .inl fk)), (qO, .inr (1, [.ref qo, .int kept, .int gone])), (qo, .inl (cI, 500, .inl fo))] H ∧ va_D A [(qx, .inr (3, [.ref qR, .ref qC, .ref qI, .ref qM, .ref qT, .ref qO, .int rT, .int rL, .int rC, .int rIn, .int cyc, .int wai])), (qR, .inl (cI, 32, .inl fR)), (qC, .inl (cI, 256, .inl fC)), (qI, .inl (cI, 1024, .inl fI)), (qM, .inr (0, [.ref qW, .int mar, .int rst])), (qW, .inl (cI, 1024, .inl fW)), (qT, .inr (2, [.ref qp, .ref qc, .ref qd, .ref qk, .int hand, .int hov, .int said])), (qp, .inl (cI, 16, .inl fp)), (qc, .inl (cI, 16, .inl fc)), (qd, .inl (cI, 16, .inl fd)), (qk, .inl (cZ, 16, .inl fk)), (qO, .inr (1, [.ref qo, .int kept, .int gone])), (qo, .inl (cI, 500, .inl fo))] ∧ va_S A s.heap H locs ∧ lv_has ls 4 [(2, .int rst), (0, .ref qx), (1, .int p0)]) 28 [.int (j_X3_mustWait_28_s0 p0)] ?_ (fun J => ?_)
  · skip
    intro H locs ls hh
    obtain ⟨hP, hD, hS, hl⟩ := hh
    refine lv_istore_n (lv' := [(3, .int (j_X3_mustWait_28_s0 p0)), (2, .int rst), (0, .ref qx), (1, .int p0)]) hx hb dX3_mustWait_28 rfl hl (by decide) rfl (fun ls hl => ?_)
    refine lv_iload_n hx hb dX3_mustWait_29 rfl (lv_at hl 3 rfl) ?_
    refine ctI_S (As := [.int p0]) (rest := []) (wc := []) (wr := [(qx, .inr (3, [.ref qR, .ref qC, .ref qI, .ref qM, .ref qT, .ref qO, .int rT, .int rL, .int rC, .int rIn, .int cyc, .int wai])), (qR, .inl (cI, 32, .inl fR)), (qC, .inl (cI, 256, .inl fC)), (qI, .inl (cI, 1024, .inl fI)), (qM, .inr (0, [.ref qW, .int mar, .int rst])), (qW, .inl (cI, 1024, .inl fW)), (qT, .inr (2, [.ref qp, .ref qc, .ref qd, .ref qk, .int hand, .int hov, .int said])), (qp, .inl (cI, 16, .inl fp)), (qc, .inl (cI, 16, .inl fc)), (qd, .inl (cI, 16, .inl fd)), (qk, .inl (cZ, 16, .inl fk)), (qO, .inr (1, [.ref qo, .int kept, .int gone])), (qo, .inl (cI, 500, .inl fo))]) ⟨hx, hb, hml, hown, hts⟩ (c_X3_f1Of l D cI cZ p0) (cwS 1 hts (gd_S wm_X3_131 wt_X3_f1Of wz_X3 wo_X3_f1Of) rfl rfl rfl (by decide +kernel) ⟨Nat.le_of_ble_eq_true rfl, Nat.le_of_ble_eq_true rfl⟩) hK hP hD hS hA [] [0, 1, 2, 3, 4, 5, 6, 7, 8, 9, 10, 11, 12] rfl rfl (by decide) (by decide) (by decide) rfl rfl hl.1 (Nat.le_of_ble_eq_true rfl) dX3_mustWait_30 ⟨Nat.le_of_ble_eq_true rfl, Nat.le_of_ble_eq_true rfl⟩ (fun H locs hP hD hS => ?_)
    have hP : va_P D classes [(qx, .inr (3, [.ref qR, .ref qC, .ref qI, .ref qM, .ref qT, .ref qO, .int rT, .int rL, .int rC, .int rIn, .int cyc, .int wai])), (qR, .inl (cI, 32, .inl fR)), (qC, .inl (cI, 256, .inl fC)), (qI, .inl (cI, 1024, .inl fI)), (qM, .inr (0, [.ref qW, .int mar, .int rst])), (qW, .inl (cI, 1024, .inl fW)), (qT, .inr (2, [.ref qp, .ref qc, .ref qd, .ref qk, .int hand, .int hov, .int said])), (qp, .inl (cI, 16, .inl fp)), (qc, .inl (cI, 16, .inl fc)), (qd, .inl (cI, 16, .inl fd)), (qk, .inl (cZ, 16, .inl fk)), (qO, .inr (1, [.ref qo, .int kept, .int gone])), (qo, .inl (cI, 500, .inl fo))] H := hP
    have hD : va_D A [(qx, .inr (3, [.ref qR, .ref qC, .ref qI, .ref qM, .ref qT, .ref qO, .int rT, .int rL, .int rC, .int rIn, .int cyc, .int wai])), (qR, .inl (cI, 32, .inl fR)), (qC, .inl (cI, 256, .inl fC)), (qI, .inl (cI, 1024, .inl fI)), (qM, .inr (0, [.ref qW, .int mar, .int rst])), (qW, .inl (cI, 1024, .inl fW)), (qT, .inr (2, [.ref qp, .ref qc, .ref qd, .ref qk, .int hand, .int hov, .int said])), (qp, .inl (cI, 16, .inl fp)), (qc, .inl (cI, 16, .inl fc)), (qd, .inl (cI, 16, .inl fd)), (qk, .inl (cZ, 16, .inl fk)), (qO, .inr (1, [.ref qo, .int kept, .int gone])), (qo, .inl (cI, 500, .inl fo))] := hD
    refine lv_iconst (v := 1) hx hb dX3_mustWait_33 (by decide) ?_
    refine lv_icmp_ne (tgt := 42) hx hb dX3_mustWait_34 (by decide) (fun c_1 => ?_) (fun c_1 => ?_)
    · skip
      refine lv_iload_n hx hb dX3_mustWait_42 rfl (lv_at hl 0 rfl) ?_
      refine lv_if_eq (tgt := 51) hx hb dX3_mustWait_43 (by decide) (fun c_2 => ?_) (fun c_2 => ?_)
      · skip
        refine lv_iload_n hx hb dX3_mustWait_51 rfl (lv_at hl 3 rfl) ?_
        refine ctI_S (As := [.int p0]) (rest := []) (wc := []) (wr := [(qx, .inr (3, [.ref qR, .ref qC, .ref qI, .ref qM, .ref qT, .ref qO, .int rT, .int rL, .int rC, .int rIn, .int cyc, .int wai])), (qR, .inl (cI, 32, .inl fR)), (qC, .inl (cI, 256, .inl fC)), (qI, .inl (cI, 1024, .inl fI)), (qM, .inr (0, [.ref qW, .int mar, .int rst])), (qW, .inl (cI, 1024, .inl fW)), (qT, .inr (2, [.ref qp, .ref qc, .ref qd, .ref qk, .int hand, .int hov, .int said])), (qp, .inl (cI, 16, .inl fp)), (qc, .inl (cI, 16, .inl fc)), (qd, .inl (cI, 16, .inl fd)), (qk, .inl (cZ, 16, .inl fk)), (qO, .inr (1, [.ref qo, .int kept, .int gone])), (qo, .inl (cI, 500, .inl fo))]) ⟨hx, hb, hml, hown, hts⟩ (c_X3_f2Of l D cI cZ p0) (cwS 1 hts (gd_S wm_X3_134 wt_X3_f2Of wz_X3 wo_X3_f2Of) rfl rfl rfl (by decide +kernel) ⟨Nat.le_of_ble_eq_true rfl, Nat.le_of_ble_eq_true rfl⟩) hK hP hD hS hA [] [0, 1, 2, 3, 4, 5, 6, 7, 8, 9, 10, 11, 12] rfl rfl (by decide) (by decide) (by decide) rfl rfl hl.1 (Nat.le_of_ble_eq_true rfl) dX3_mustWait_52 ⟨Nat.le_of_ble_eq_true rfl, Nat.le_of_ble_eq_true rfl⟩ (fun H locs hP hD hS => ?_)
        have hP : va_P D classes [(qx, .inr (3, [.ref qR, .ref qC, .ref qI, .ref qM, .ref qT, .ref qO, .int rT, .int rL, .int rC, .int rIn, .int cyc, .int wai])), (qR, .inl (cI, 32, .inl fR)), (qC, .inl (cI, 256, .inl fC)), (qI, .inl (cI, 1024, .inl fI)), (qM, .inr (0, [.ref qW, .int mar, .int rst])), (qW, .inl (cI, 1024, .inl fW)), (qT, .inr (2, [.ref qp, .ref qc, .ref qd, .ref qk, .int hand, .int hov, .int said])), (qp, .inl (cI, 16, .inl fp)), (qc, .inl (cI, 16, .inl fc)), (qd, .inl (cI, 16, .inl fd)), (qk, .inl (cZ, 16, .inl fk)), (qO, .inr (1, [.ref qo, .int kept, .int gone])), (qo, .inl (cI, 500, .inl fo))] H := hP
        have hD : va_D A [(qx, .inr (3, [.ref qR, .ref qC, .ref qI, .ref qM, .ref qT, .ref qO, .int rT, .int rL, .int rC, .int rIn, .int cyc, .int wai])), (qR, .inl (cI, 32, .inl fR)), (qC, .inl (cI, 256, .inl fC)), (qI, .inl (cI, 1024, .inl fI)), (qM, .inr (0, [.ref qW, .int mar, .int rst])), (qW, .inl (cI, 1024, .inl fW)), (qT, .inr (2, [.ref qp, .ref qc, .ref qd, .ref qk, .int hand, .int hov, .int said])), (qp, .inl (cI, 16, .inl fp)), (qc, .inl (cI, 16, .inl fc)), (qd, .inl (cI, 16, .inl fd)), (qk, .inl (cZ, 16, .inl fk)), (qO, .inr (1, [.ref qo, .int kept, .int gone])), (qo, .inl (cI, 500, .inl fo))] := hD
        refine lv_bipush (v := 6) hx hb dX3_mustWait_55 (by decide) ?_
        refine lv_icmp_ne (tgt := 69) hx hb dX3_mustWait_57 (by decide) (fun c_3 => ?_) (fun c_3 => ?_)
        · skip
          refine lv_iconst (v := 0) hx hb dX3_mustWait_69 (by decide) ?_
          have e_1 : r_X3_mustWait rst p0 = 0 := by simp only [r_X3_mustWait, if_neg c_1, if_pos c_2, if_neg c_3]
          exact ct_zret hx hb hr hlocks hP hD hS rfl (by rw [e_1]) (Or.inl rfl) dX3_mustWait_70
        · skip
          refine lv_iload_n hx hb dX3_mustWait_60 rfl (lv_at hl 1 rfl) ?_
          refine lv_iconst (v := 2) hx hb dX3_mustWait_61 (by decide) ?_
          refine lv_icmp_ge (tgt := 69) hx hb dX3_mustWait_62 (by decide) (fun c_4 => ?_) (fun c_4 => ?_)
          · skip
            refine lv_iconst (v := 0) hx hb dX3_mustWait_69 (by decide) ?_
            have e_1 : r_X3_mustWait rst p0 = 0 := by simp only [r_X3_mustWait, if_neg c_1, if_pos c_2, if_pos c_3, if_pos c_4]
            exact ct_zret hx hb hr hlocks hP hD hS rfl (by rw [e_1]) (Or.inl rfl) dX3_mustWait_70
          · skip
            refine lv_iconst (v := 1) hx hb dX3_mustWait_65 (by decide) ?_
            refine lv_goto (tgt := 70) hx hb dX3_mustWait_66 (by decide) ?_
            have e_1 : r_X3_mustWait rst p0 = 1 := by simp only [r_X3_mustWait, if_neg c_1, if_pos c_2, if_pos c_3, if_neg c_4]
            exact ct_zret hx hb hr hlocks hP hD hS rfl (by rw [e_1]) (Or.inr rfl) dX3_mustWait_70
      · skip
        refine lv_iload_n hx hb dX3_mustWait_46 rfl (lv_at hl 1 rfl) ?_
        refine lv_iconst (v := 4) hx hb dX3_mustWait_47 (by decide) ?_
        refine lv_icmp_lt (tgt := 65) hx hb dX3_mustWait_48 (by decide) (fun c_5 => ?_) (fun c_5 => ?_)
        · skip
          refine lv_iconst (v := 1) hx hb dX3_mustWait_65 (by decide) ?_
          refine lv_goto (tgt := 70) hx hb dX3_mustWait_66 (by decide) ?_
          have e_1 : r_X3_mustWait rst p0 = 1 := by simp only [r_X3_mustWait, if_neg c_1, if_neg c_2, if_pos c_5]
          exact ct_zret hx hb hr hlocks hP hD hS rfl (by rw [e_1]) (Or.inr rfl) dX3_mustWait_70
        · skip
          refine lv_iload_n hx hb dX3_mustWait_51 rfl (lv_at hl 3 rfl) ?_
          refine ctI_S (As := [.int p0]) (rest := []) (wc := []) (wr := [(qx, .inr (3, [.ref qR, .ref qC, .ref qI, .ref qM, .ref qT, .ref qO, .int rT, .int rL, .int rC, .int rIn, .int cyc, .int wai])), (qR, .inl (cI, 32, .inl fR)), (qC, .inl (cI, 256, .inl fC)), (qI, .inl (cI, 1024, .inl fI)), (qM, .inr (0, [.ref qW, .int mar, .int rst])), (qW, .inl (cI, 1024, .inl fW)), (qT, .inr (2, [.ref qp, .ref qc, .ref qd, .ref qk, .int hand, .int hov, .int said])), (qp, .inl (cI, 16, .inl fp)), (qc, .inl (cI, 16, .inl fc)), (qd, .inl (cI, 16, .inl fd)), (qk, .inl (cZ, 16, .inl fk)), (qO, .inr (1, [.ref qo, .int kept, .int gone])), (qo, .inl (cI, 500, .inl fo))]) ⟨hx, hb, hml, hown, hts⟩ (c_X3_f2Of l D cI cZ p0) (cwS 1 hts (gd_S wm_X3_134 wt_X3_f2Of wz_X3 wo_X3_f2Of) rfl rfl rfl (by decide +kernel) ⟨Nat.le_of_ble_eq_true rfl, Nat.le_of_ble_eq_true rfl⟩) hK hP hD hS hA [] [0, 1, 2, 3, 4, 5, 6, 7, 8, 9, 10, 11, 12] rfl rfl (by decide) (by decide) (by decide) rfl rfl hl.1 (Nat.le_of_ble_eq_true rfl) dX3_mustWait_52 ⟨Nat.le_of_ble_eq_true rfl, Nat.le_of_ble_eq_true rfl⟩ (fun H locs hP hD hS => ?_)
          have hP : va_P D classes [(qx, .inr (3, [.ref qR, .ref qC, .ref qI, .ref qM, .ref qT, .ref qO, .int rT, .int rL, .int rC, .int rIn, .int cyc, .int wai])), (qR, .inl (cI, 32, .inl fR)), (qC, .inl (cI, 256, .inl fC)), (qI, .inl (cI, 1024, .inl fI)), (qM, .inr (0, [.ref qW, .int mar, .int rst])), (qW, .inl (cI, 1024, .inl fW)), (qT, .inr (2, [.ref qp, .ref qc, .ref qd, .ref qk, .int hand, .int hov, .int said])), (qp, .inl (cI, 16, .inl fp)), (qc, .inl (cI, 16, .inl fc)), (qd, .inl (cI, 16, .inl fd)), (qk, .inl (cZ, 16, .inl fk)), (qO, .inr (1, [.ref qo, .int kept, .int gone])), (qo, .inl (cI, 500, .inl fo))] H := hP
          have hD : va_D A [(qx, .inr (3, [.ref qR, .ref qC, .ref qI, .ref qM, .ref qT, .ref qO, .int rT, .int rL, .int rC, .int rIn, .int cyc, .int wai])), (qR, .inl (cI, 32, .inl fR)), (qC, .inl (cI, 256, .inl fC)), (qI, .inl (cI, 1024, .inl fI)), (qM, .inr (0, [.ref qW, .int mar, .int rst])), (qW, .inl (cI, 1024, .inl fW)), (qT, .inr (2, [.ref qp, .ref qc, .ref qd, .ref qk, .int hand, .int hov, .int said])), (qp, .inl (cI, 16, .inl fp)), (qc, .inl (cI, 16, .inl fc)), (qd, .inl (cI, 16, .inl fd)), (qk, .inl (cZ, 16, .inl fk)), (qO, .inr (1, [.ref qo, .int kept, .int gone])), (qo, .inl (cI, 500, .inl fo))] := hD
          refine lv_bipush (v := 6) hx hb dX3_mustWait_55 (by decide) ?_
          refine lv_icmp_ne (tgt := 69) hx hb dX3_mustWait_57 (by decide) (fun c_6 => ?_) (fun c_6 => ?_)
          · skip
            refine lv_iconst (v := 0) hx hb dX3_mustWait_69 (by decide) ?_
            have e_1 : r_X3_mustWait rst p0 = 0 := by simp only [r_X3_mustWait, if_neg c_1, if_neg c_2, if_neg c_5, if_neg c_6]
            exact ct_zret hx hb hr hlocks hP hD hS rfl (by rw [e_1]) (Or.inl rfl) dX3_mustWait_70
          · skip
            refine lv_iload_n hx hb dX3_mustWait_60 rfl (lv_at hl 1 rfl) ?_
            refine lv_iconst (v := 2) hx hb dX3_mustWait_61 (by decide) ?_
            refine lv_icmp_ge (tgt := 69) hx hb dX3_mustWait_62 (by decide) (fun c_7 => ?_) (fun c_7 => ?_)
            · skip
              refine lv_iconst (v := 0) hx hb dX3_mustWait_69 (by decide) ?_
              have e_1 : r_X3_mustWait rst p0 = 0 := by simp only [r_X3_mustWait, if_neg c_1, if_neg c_2, if_neg c_5, if_pos c_6, if_pos c_7]
              exact ct_zret hx hb hr hlocks hP hD hS rfl (by rw [e_1]) (Or.inl rfl) dX3_mustWait_70
            · skip
              refine lv_iconst (v := 1) hx hb dX3_mustWait_65 (by decide) ?_
              refine lv_goto (tgt := 70) hx hb dX3_mustWait_66 (by decide) ?_
              have e_1 : r_X3_mustWait rst p0 = 1 := by simp only [r_X3_mustWait, if_neg c_1, if_neg c_2, if_neg c_5, if_pos c_6, if_neg c_7]
              exact ct_zret hx hb hr hlocks hP hD hS rfl (by rw [e_1]) (Or.inr rfl) dX3_mustWait_70
    · skip
      refine lv_iload_n hx hb dX3_mustWait_37 rfl (lv_at hl 1 rfl) ?_
      refine lv_iconst (v := 5) hx hb dX3_mustWait_38 (by decide) ?_
      refine lv_icmp_lt (tgt := 65) hx hb dX3_mustWait_39 (by decide) (fun c_8 => ?_) (fun c_8 => ?_)
      · skip
        refine lv_iconst (v := 1) hx hb dX3_mustWait_65 (by decide) ?_
        refine lv_goto (tgt := 70) hx hb dX3_mustWait_66 (by decide) ?_
        have e_1 : r_X3_mustWait rst p0 = 1 := by simp only [r_X3_mustWait, if_pos c_1, if_pos c_8]
        exact ct_zret hx hb hr hlocks hP hD hS rfl (by rw [e_1]) (Or.inr rfl) dX3_mustWait_70
      · skip
        refine lv_iload_n hx hb dX3_mustWait_42 rfl (lv_at hl 0 rfl) ?_
        refine lv_if_eq (tgt := 51) hx hb dX3_mustWait_43 (by decide) (fun c_9 => ?_) (fun c_9 => ?_)
        · skip
          refine lv_iload_n hx hb dX3_mustWait_51 rfl (lv_at hl 3 rfl) ?_
          refine ctI_S (As := [.int p0]) (rest := []) (wc := []) (wr := [(qx, .inr (3, [.ref qR, .ref qC, .ref qI, .ref qM, .ref qT, .ref qO, .int rT, .int rL, .int rC, .int rIn, .int cyc, .int wai])), (qR, .inl (cI, 32, .inl fR)), (qC, .inl (cI, 256, .inl fC)), (qI, .inl (cI, 1024, .inl fI)), (qM, .inr (0, [.ref qW, .int mar, .int rst])), (qW, .inl (cI, 1024, .inl fW)), (qT, .inr (2, [.ref qp, .ref qc, .ref qd, .ref qk, .int hand, .int hov, .int said])), (qp, .inl (cI, 16, .inl fp)), (qc, .inl (cI, 16, .inl fc)), (qd, .inl (cI, 16, .inl fd)), (qk, .inl (cZ, 16, .inl fk)), (qO, .inr (1, [.ref qo, .int kept, .int gone])), (qo, .inl (cI, 500, .inl fo))]) ⟨hx, hb, hml, hown, hts⟩ (c_X3_f2Of l D cI cZ p0) (cwS 1 hts (gd_S wm_X3_134 wt_X3_f2Of wz_X3 wo_X3_f2Of) rfl rfl rfl (by decide +kernel) ⟨Nat.le_of_ble_eq_true rfl, Nat.le_of_ble_eq_true rfl⟩) hK hP hD hS hA [] [0, 1, 2, 3, 4, 5, 6, 7, 8, 9, 10, 11, 12] rfl rfl (by decide) (by decide) (by decide) rfl rfl hl.1 (Nat.le_of_ble_eq_true rfl) dX3_mustWait_52 ⟨Nat.le_of_ble_eq_true rfl, Nat.le_of_ble_eq_true rfl⟩ (fun H locs hP hD hS => ?_)
          have hP : va_P D classes [(qx, .inr (3, [.ref qR, .ref qC, .ref qI, .ref qM, .ref qT, .ref qO, .int rT, .int rL, .int rC, .int rIn, .int cyc, .int wai])), (qR, .inl (cI, 32, .inl fR)), (qC, .inl (cI, 256, .inl fC)), (qI, .inl (cI, 1024, .inl fI)), (qM, .inr (0, [.ref qW, .int mar, .int rst])), (qW, .inl (cI, 1024, .inl fW)), (qT, .inr (2, [.ref qp, .ref qc, .ref qd, .ref qk, .int hand, .int hov, .int said])), (qp, .inl (cI, 16, .inl fp)), (qc, .inl (cI, 16, .inl fc)), (qd, .inl (cI, 16, .inl fd)), (qk, .inl (cZ, 16, .inl fk)), (qO, .inr (1, [.ref qo, .int kept, .int gone])), (qo, .inl (cI, 500, .inl fo))] H := hP
          have hD : va_D A [(qx, .inr (3, [.ref qR, .ref qC, .ref qI, .ref qM, .ref qT, .ref qO, .int rT, .int rL, .int rC, .int rIn, .int cyc, .int wai])), (qR, .inl (cI, 32, .inl fR)), (qC, .inl (cI, 256, .inl fC)), (qI, .inl (cI, 1024, .inl fI)), (qM, .inr (0, [.ref qW, .int mar, .int rst])), (qW, .inl (cI, 1024, .inl fW)), (qT, .inr (2, [.ref qp, .ref qc, .ref qd, .ref qk, .int hand, .int hov, .int said])), (qp, .inl (cI, 16, .inl fp)), (qc, .inl (cI, 16, .inl fc)), (qd, .inl (cI, 16, .inl fd)), (qk, .inl (cZ, 16, .inl fk)), (qO, .inr (1, [.ref qo, .int kept, .int gone])), (qo, .inl (cI, 500, .inl fo))] := hD
          refine lv_bipush (v := 6) hx hb dX3_mustWait_55 (by decide) ?_
          refine lv_icmp_ne (tgt := 69) hx hb dX3_mustWait_57 (by decide) (fun c_10 => ?_) (fun c_10 => ?_)
          · skip
            refine lv_iconst (v := 0) hx hb dX3_mustWait_69 (by decide) ?_
            have e_1 : r_X3_mustWait rst p0 = 0 := by simp only [r_X3_mustWait, if_pos c_1, if_neg c_8, if_pos c_9, if_neg c_10]
            exact ct_zret hx hb hr hlocks hP hD hS rfl (by rw [e_1]) (Or.inl rfl) dX3_mustWait_70
          · skip
            refine lv_iload_n hx hb dX3_mustWait_60 rfl (lv_at hl 1 rfl) ?_
            refine lv_iconst (v := 2) hx hb dX3_mustWait_61 (by decide) ?_
            refine lv_icmp_ge (tgt := 69) hx hb dX3_mustWait_62 (by decide) (fun c_11 => ?_) (fun c_11 => ?_)
            · skip
              refine lv_iconst (v := 0) hx hb dX3_mustWait_69 (by decide) ?_
              have e_1 : r_X3_mustWait rst p0 = 0 := by simp only [r_X3_mustWait, if_pos c_1, if_neg c_8, if_pos c_9, if_pos c_10, if_pos c_11]
              exact ct_zret hx hb hr hlocks hP hD hS rfl (by rw [e_1]) (Or.inl rfl) dX3_mustWait_70
            · skip
              refine lv_iconst (v := 1) hx hb dX3_mustWait_65 (by decide) ?_
              refine lv_goto (tgt := 70) hx hb dX3_mustWait_66 (by decide) ?_
              have e_1 : r_X3_mustWait rst p0 = 1 := by simp only [r_X3_mustWait, if_pos c_1, if_neg c_8, if_pos c_9, if_pos c_10, if_neg c_11]
              exact ct_zret hx hb hr hlocks hP hD hS rfl (by rw [e_1]) (Or.inr rfl) dX3_mustWait_70
        · skip
          refine lv_iload_n hx hb dX3_mustWait_46 rfl (lv_at hl 1 rfl) ?_
          refine lv_iconst (v := 4) hx hb dX3_mustWait_47 (by decide) ?_
          refine lv_icmp_lt (tgt := 65) hx hb dX3_mustWait_48 (by decide) (fun c_12 => ?_) (fun c_12 => ?_)
          · skip
            refine lv_iconst (v := 1) hx hb dX3_mustWait_65 (by decide) ?_
            refine lv_goto (tgt := 70) hx hb dX3_mustWait_66 (by decide) ?_
            have e_1 : r_X3_mustWait rst p0 = 1 := by simp only [r_X3_mustWait, if_pos c_1, if_neg c_8, if_neg c_9, if_pos c_12]
            exact ct_zret hx hb hr hlocks hP hD hS rfl (by rw [e_1]) (Or.inr rfl) dX3_mustWait_70
          · skip
            refine lv_iload_n hx hb dX3_mustWait_51 rfl (lv_at hl 3 rfl) ?_
            refine ctI_S (As := [.int p0]) (rest := []) (wc := []) (wr := [(qx, .inr (3, [.ref qR, .ref qC, .ref qI, .ref qM, .ref qT, .ref qO, .int rT, .int rL, .int rC, .int rIn, .int cyc, .int wai])), (qR, .inl (cI, 32, .inl fR)), (qC, .inl (cI, 256, .inl fC)), (qI, .inl (cI, 1024, .inl fI)), (qM, .inr (0, [.ref qW, .int mar, .int rst])), (qW, .inl (cI, 1024, .inl fW)), (qT, .inr (2, [.ref qp, .ref qc, .ref qd, .ref qk, .int hand, .int hov, .int said])), (qp, .inl (cI, 16, .inl fp)), (qc, .inl (cI, 16, .inl fc)), (qd, .inl (cI, 16, .inl fd)), (qk, .inl (cZ, 16, .inl fk)), (qO, .inr (1, [.ref qo, .int kept, .int gone])), (qo, .inl (cI, 500, .inl fo))]) ⟨hx, hb, hml, hown, hts⟩ (c_X3_f2Of l D cI cZ p0) (cwS 1 hts (gd_S wm_X3_134 wt_X3_f2Of wz_X3 wo_X3_f2Of) rfl rfl rfl (by decide +kernel) ⟨Nat.le_of_ble_eq_true rfl, Nat.le_of_ble_eq_true rfl⟩) hK hP hD hS hA [] [0, 1, 2, 3, 4, 5, 6, 7, 8, 9, 10, 11, 12] rfl rfl (by decide) (by decide) (by decide) rfl rfl hl.1 (Nat.le_of_ble_eq_true rfl) dX3_mustWait_52 ⟨Nat.le_of_ble_eq_true rfl, Nat.le_of_ble_eq_true rfl⟩ (fun H locs hP hD hS => ?_)
            have hP : va_P D classes [(qx, .inr (3, [.ref qR, .ref qC, .ref qI, .ref qM, .ref qT, .ref qO, .int rT, .int rL, .int rC, .int rIn, .int cyc, .int wai])), (qR, .inl (cI, 32, .inl fR)), (qC, .inl (cI, 256, .inl fC)), (qI, .inl (cI, 1024, .inl fI)), (qM, .inr (0, [.ref qW, .int mar, .int rst])), (qW, .inl (cI, 1024, .inl fW)), (qT, .inr (2, [.ref qp, .ref qc, .ref qd, .ref qk, .int hand, .int hov, .int said])), (qp, .inl (cI, 16, .inl fp)), (qc, .inl (cI, 16, .inl fc)), (qd, .inl (cI, 16, .inl fd)), (qk, .inl (cZ, 16, .inl fk)), (qO, .inr (1, [.ref qo, .int kept, .int gone])), (qo, .inl (cI, 500, .inl fo))] H := hP
            have hD : va_D A [(qx, .inr (3, [.ref qR, .ref qC, .ref qI, .ref qM, .ref qT, .ref qO, .int rT, .int rL, .int rC, .int rIn, .int cyc, .int wai])), (qR, .inl (cI, 32, .inl fR)), (qC, .inl (cI, 256, .inl fC)), (qI, .inl (cI, 1024, .inl fI)), (qM, .inr (0, [.ref qW, .int mar, .int rst])), (qW, .inl (cI, 1024, .inl fW)), (qT, .inr (2, [.ref qp, .ref qc, .ref qd, .ref qk, .int hand, .int hov, .int said])), (qp, .inl (cI, 16, .inl fp)), (qc, .inl (cI, 16, .inl fc)), (qd, .inl (cI, 16, .inl fd)), (qk, .inl (cZ, 16, .inl fk)), (qO, .inr (1, [.ref qo, .int kept, .int gone])), (qo, .inl (cI, 500, .inl fo))] := hD
            refine lv_bipush (v := 6) hx hb dX3_mustWait_55 (by decide) ?_
            refine lv_icmp_ne (tgt := 69) hx hb dX3_mustWait_57 (by decide) (fun c_13 => ?_) (fun c_13 => ?_)
            · skip
              refine lv_iconst (v := 0) hx hb dX3_mustWait_69 (by decide) ?_
              have e_1 : r_X3_mustWait rst p0 = 0 := by simp only [r_X3_mustWait, if_pos c_1, if_neg c_8, if_neg c_9, if_neg c_12, if_neg c_13]
              exact ct_zret hx hb hr hlocks hP hD hS rfl (by rw [e_1]) (Or.inl rfl) dX3_mustWait_70
            · skip
              refine lv_iload_n hx hb dX3_mustWait_60 rfl (lv_at hl 1 rfl) ?_
              refine lv_iconst (v := 2) hx hb dX3_mustWait_61 (by decide) ?_
              refine lv_icmp_ge (tgt := 69) hx hb dX3_mustWait_62 (by decide) (fun c_14 => ?_) (fun c_14 => ?_)
              · skip
                refine lv_iconst (v := 0) hx hb dX3_mustWait_69 (by decide) ?_
                have e_1 : r_X3_mustWait rst p0 = 0 := by simp only [r_X3_mustWait, if_pos c_1, if_neg c_8, if_neg c_9, if_neg c_12, if_pos c_13, if_pos c_14]
                exact ct_zret hx hb hr hlocks hP hD hS rfl (by rw [e_1]) (Or.inl rfl) dX3_mustWait_70
              · skip
                refine lv_iconst (v := 1) hx hb dX3_mustWait_65 (by decide) ?_
                refine lv_goto (tgt := 70) hx hb dX3_mustWait_66 (by decide) ?_
                have e_1 : r_X3_mustWait rst p0 = 1 := by simp only [r_X3_mustWait, if_pos c_1, if_neg c_8, if_neg c_9, if_neg c_12, if_pos c_13, if_neg c_14]
                exact ct_zret hx hb hr hlocks hP hD hS rfl (by rw [e_1]) (Or.inr rfl) dX3_mustWait_70
  · skip
    refine lv_icmp_ne (tgt := 27) hx hb dX3_mustWait_13 (by decide) (fun c_15 => ?_) (fun c_15 => ?_)
    · skip
      refine lv_iconst (v := 0) hx hb dX3_mustWait_27 (by decide) ?_
      have hP := hP.sub (ws' := [(qx, .inr (3, [.ref qR, .ref qC, .ref qI, .ref qM, .ref qT, .ref qO, .int rT, .int rL, .int rC, .int rIn, .int cyc, .int wai])), (qR, .inl (cI, 32, .inl fR)), (qC, .inl (cI, 256, .inl fC)), (qI, .inl (cI, 1024, .inl fI)), (qM, .inr (0, [.ref qW, .int mar, .int rst])), (qW, .inl (cI, 1024, .inl fW)), (qT, .inr (2, [.ref qp, .ref qc, .ref qd, .ref qk, .int hand, .int hov, .int said])), (qp, .inl (cI, 16, .inl fp)), (qc, .inl (cI, 16, .inl fc)), (qd, .inl (cI, 16, .inl fd)), (qk, .inl (cZ, 16, .inl fk)), (qO, .inr (1, [.ref qo, .int kept, .int gone])), (qo, .inl (cI, 500, .inl fo))]) [0, 1, 2, 3, 4, 5, 6, 7, 8, 9, 10, 11, 12] rfl
      have hD := hD.sub (ws' := [(qx, .inr (3, [.ref qR, .ref qC, .ref qI, .ref qM, .ref qT, .ref qO, .int rT, .int rL, .int rC, .int rIn, .int cyc, .int wai])), (qR, .inl (cI, 32, .inl fR)), (qC, .inl (cI, 256, .inl fC)), (qI, .inl (cI, 1024, .inl fI)), (qM, .inr (0, [.ref qW, .int mar, .int rst])), (qW, .inl (cI, 1024, .inl fW)), (qT, .inr (2, [.ref qp, .ref qc, .ref qd, .ref qk, .int hand, .int hov, .int said])), (qp, .inl (cI, 16, .inl fp)), (qc, .inl (cI, 16, .inl fc)), (qd, .inl (cI, 16, .inl fd)), (qk, .inl (cZ, 16, .inl fk)), (qO, .inr (1, [.ref qo, .int kept, .int gone])), (qo, .inl (cI, 500, .inl fo))]) [0, 1, 2, 3, 4, 5, 6, 7, 8, 9, 10, 11, 12] (by decide) rfl
      have e_1 : j_X3_mustWait_28_s0 p0 = 0 := by simp only [j_X3_mustWait_28_s0, if_neg c_15]
      refine W.eq (g2 := F0 m 28 ls [.int (j_X3_mustWait_28_s0 p0)]) (by rw [e_1]) ?_
      exact J _ _ _ ⟨hP, hD, hS, (lv_sub hl [0, 1, 2] rfl)⟩
    · skip
      refine lv_iload_n hx hb dX3_mustWait_16 rfl (lv_at hl 2 rfl) ?_
      refine ctI_S (As := [.int p0]) (rest := []) (wc := []) (wr := [(qx, .inr (3, [.ref qR, .ref qC, .ref qI, .ref qM, .ref qT, .ref qO, .int rT, .int rL, .int rC, .int rIn, .int cyc, .int wai])), (qR, .inl (cI, 32, .inl fR)), (qC, .inl (cI, 256, .inl fC)), (qI, .inl (cI, 1024, .inl fI)), (qM, .inr (0, [.ref qW, .int mar, .int rst])), (qW, .inl (cI, 1024, .inl fW)), (qT, .inr (2, [.ref qp, .ref qc, .ref qd, .ref qk, .int hand, .int hov, .int said])), (qp, .inl (cI, 16, .inl fp)), (qc, .inl (cI, 16, .inl fc)), (qd, .inl (cI, 16, .inl fd)), (qk, .inl (cZ, 16, .inl fk)), (qO, .inr (1, [.ref qo, .int kept, .int gone])), (qo, .inl (cI, 500, .inl fo))]) ⟨hx, hb, hml, hown, hts⟩ (c_X3_hasConstant l D cI cZ p0) (cwS 1 hts (gd_S wm_X3_128 wt_X3_hasConstant wz_X3 wo_X3_hasConstant) rfl rfl rfl (by decide +kernel) ⟨Nat.le_of_ble_eq_true rfl, Nat.le_of_ble_eq_true rfl⟩) hK hP hD hS hA [] [0, 1, 2, 3, 4, 5, 6, 7, 8, 9, 10, 11, 12] rfl rfl (by decide) (by decide) (by decide) rfl rfl hl.1 (Nat.le_of_ble_eq_true rfl) dX3_mustWait_17 ⟨Nat.le_of_ble_eq_true rfl, Nat.le_of_ble_eq_true rfl⟩ (fun H locs hP hD hS => ?_)
      have hP : va_P D classes [(qx, .inr (3, [.ref qR, .ref qC, .ref qI, .ref qM, .ref qT, .ref qO, .int rT, .int rL, .int rC, .int rIn, .int cyc, .int wai])), (qR, .inl (cI, 32, .inl fR)), (qC, .inl (cI, 256, .inl fC)), (qI, .inl (cI, 1024, .inl fI)), (qM, .inr (0, [.ref qW, .int mar, .int rst])), (qW, .inl (cI, 1024, .inl fW)), (qT, .inr (2, [.ref qp, .ref qc, .ref qd, .ref qk, .int hand, .int hov, .int said])), (qp, .inl (cI, 16, .inl fp)), (qc, .inl (cI, 16, .inl fc)), (qd, .inl (cI, 16, .inl fd)), (qk, .inl (cZ, 16, .inl fk)), (qO, .inr (1, [.ref qo, .int kept, .int gone])), (qo, .inl (cI, 500, .inl fo))] H := hP
      have hD : va_D A [(qx, .inr (3, [.ref qR, .ref qC, .ref qI, .ref qM, .ref qT, .ref qO, .int rT, .int rL, .int rC, .int rIn, .int cyc, .int wai])), (qR, .inl (cI, 32, .inl fR)), (qC, .inl (cI, 256, .inl fC)), (qI, .inl (cI, 1024, .inl fI)), (qM, .inr (0, [.ref qW, .int mar, .int rst])), (qW, .inl (cI, 1024, .inl fW)), (qT, .inr (2, [.ref qp, .ref qc, .ref qd, .ref qk, .int hand, .int hov, .int said])), (qp, .inl (cI, 16, .inl fp)), (qc, .inl (cI, 16, .inl fc)), (qd, .inl (cI, 16, .inl fd)), (qk, .inl (cZ, 16, .inl fk)), (qO, .inr (1, [.ref qo, .int kept, .int gone])), (qo, .inl (cI, 500, .inl fo))] := hD
      refine lv_if_ne (tgt := 27) hx hb dX3_mustWait_20 (by decide) (fun c_16 => ?_) (fun c_16 => ?_)
      · skip
        refine lv_iconst (v := 0) hx hb dX3_mustWait_27 (by decide) ?_
        have hP := hP.sub (ws' := [(qx, .inr (3, [.ref qR, .ref qC, .ref qI, .ref qM, .ref qT, .ref qO, .int rT, .int rL, .int rC, .int rIn, .int cyc, .int wai])), (qR, .inl (cI, 32, .inl fR)), (qC, .inl (cI, 256, .inl fC)), (qI, .inl (cI, 1024, .inl fI)), (qM, .inr (0, [.ref qW, .int mar, .int rst])), (qW, .inl (cI, 1024, .inl fW)), (qT, .inr (2, [.ref qp, .ref qc, .ref qd, .ref qk, .int hand, .int hov, .int said])), (qp, .inl (cI, 16, .inl fp)), (qc, .inl (cI, 16, .inl fc)), (qd, .inl (cI, 16, .inl fd)), (qk, .inl (cZ, 16, .inl fk)), (qO, .inr (1, [.ref qo, .int kept, .int gone])), (qo, .inl (cI, 500, .inl fo))]) [0, 1, 2, 3, 4, 5, 6, 7, 8, 9, 10, 11, 12] rfl
        have hD := hD.sub (ws' := [(qx, .inr (3, [.ref qR, .ref qC, .ref qI, .ref qM, .ref qT, .ref qO, .int rT, .int rL, .int rC, .int rIn, .int cyc, .int wai])), (qR, .inl (cI, 32, .inl fR)), (qC, .inl (cI, 256, .inl fC)), (qI, .inl (cI, 1024, .inl fI)), (qM, .inr (0, [.ref qW, .int mar, .int rst])), (qW, .inl (cI, 1024, .inl fW)), (qT, .inr (2, [.ref qp, .ref qc, .ref qd, .ref qk, .int hand, .int hov, .int said])), (qp, .inl (cI, 16, .inl fp)), (qc, .inl (cI, 16, .inl fc)), (qd, .inl (cI, 16, .inl fd)), (qk, .inl (cZ, 16, .inl fk)), (qO, .inr (1, [.ref qo, .int kept, .int gone])), (qo, .inl (cI, 500, .inl fo))]) [0, 1, 2, 3, 4, 5, 6, 7, 8, 9, 10, 11, 12] (by decide) rfl
        have e_1 : j_X3_mustWait_28_s0 p0 = 0 := by simp only [j_X3_mustWait_28_s0, if_pos c_15, if_neg c_16]
        refine W.eq (g2 := F0 m 28 ls [.int (j_X3_mustWait_28_s0 p0)]) (by rw [e_1]) ?_
        exact J _ _ _ ⟨hP, hD, hS, (lv_sub hl [0, 1, 2] rfl)⟩
      · skip
        refine lv_iconst (v := 1) hx hb dX3_mustWait_23 (by decide) ?_
        refine lv_goto (tgt := 28) hx hb dX3_mustWait_24 (by decide) ?_
        have hP := hP.sub (ws' := [(qx, .inr (3, [.ref qR, .ref qC, .ref qI, .ref qM, .ref qT, .ref qO, .int rT, .int rL, .int rC, .int rIn, .int cyc, .int wai])), (qR, .inl (cI, 32, .inl fR)), (qC, .inl (cI, 256, .inl fC)), (qI, .inl (cI, 1024, .inl fI)), (qM, .inr (0, [.ref qW, .int mar, .int rst])), (qW, .inl (cI, 1024, .inl fW)), (qT, .inr (2, [.ref qp, .ref qc, .ref qd, .ref qk, .int hand, .int hov, .int said])), (qp, .inl (cI, 16, .inl fp)), (qc, .inl (cI, 16, .inl fc)), (qd, .inl (cI, 16, .inl fd)), (qk, .inl (cZ, 16, .inl fk)), (qO, .inr (1, [.ref qo, .int kept, .int gone])), (qo, .inl (cI, 500, .inl fo))]) [0, 1, 2, 3, 4, 5, 6, 7, 8, 9, 10, 11, 12] rfl
        have hD := hD.sub (ws' := [(qx, .inr (3, [.ref qR, .ref qC, .ref qI, .ref qM, .ref qT, .ref qO, .int rT, .int rL, .int rC, .int rIn, .int cyc, .int wai])), (qR, .inl (cI, 32, .inl fR)), (qC, .inl (cI, 256, .inl fC)), (qI, .inl (cI, 1024, .inl fI)), (qM, .inr (0, [.ref qW, .int mar, .int rst])), (qW, .inl (cI, 1024, .inl fW)), (qT, .inr (2, [.ref qp, .ref qc, .ref qd, .ref qk, .int hand, .int hov, .int said])), (qp, .inl (cI, 16, .inl fp)), (qc, .inl (cI, 16, .inl fc)), (qd, .inl (cI, 16, .inl fd)), (qk, .inl (cZ, 16, .inl fk)), (qO, .inr (1, [.ref qo, .int kept, .int gone])), (qo, .inl (cI, 500, .inl fo))]) [0, 1, 2, 3, 4, 5, 6, 7, 8, 9, 10, 11, 12] (by decide) rfl
        have e_1 : j_X3_mustWait_28_s0 p0 = 1 := by simp only [j_X3_mustWait_28_s0, if_pos c_15, if_pos c_16]
        refine W.eq (g2 := F0 m 28 ls [.int (j_X3_mustWait_28_s0 p0)]) (by rw [e_1]) ?_
        exact J _ _ _ ⟨hP, hD, hS, (lv_sub hl [0, 1, 2] rfl)⟩
end
