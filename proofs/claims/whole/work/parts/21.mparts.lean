section
def r_X4_hasConstant (nF1 : Int32) (nF2 : Int32) : Int32 := (if nF1 = 7 then 1 else (if nF2 = 7 then 1 else 0))
set_option maxHeartbeats 4000000 in
set_option maxRecDepth 100000 in
theorem c_X4_hasConstant (l : Launch) (D : va_G) (cI cZ : ClassId) (qm : Nat) (pI : Nat) (pC : Nat) (pM : Nat) (pR : Nat) (pP : Nat) (pH : Nat) (pK : Nat) (pD : Nat) (pO : Nat) (gI : Nat → Int32) (gC : Nat → Int32) (gM : Nat → Int32) (gR : Nat → Int32) (gP : Nat → Int32) (gH : Nat → Int32) (gK : Nat → Int32) (gD : Nat → Int32) (gO : Nat → Int32) (nT : Int32) (nL : Int32) (nC : Int32) (nMar : Int32) (nIn : Int32) (nHand : Int32) (nGiv : Int32) (nCyc : Int32) (nWai : Int32) (nSw : Int32) (nBeg : Int32) (nOut : Int32) (nRsel : Int32) (nAluf : Int32) (nBs : Int32) (nF1 : Int32) (nF2 : Int32) (nSum : Int32) (nSc : Int32) : CtI l D classes [(cI, .int), (cZ, .boolean)] yX4_hasConstant w_X4_hasConstant { frames := 0, cells := 0, slots := 0, locals := 0 } [.ref qm] [(qm, .inr (4, [.ref pI, .ref pC, .ref pM, .ref pR, .int nT, .int nL, .int nC, .int nMar, .int nIn, .ref pP, .ref pH, .ref pK, .ref pD, .int nHand, .int nGiv, .int nCyc, .int nWai, .int nSw, .int nBeg, .int nOut, .ref pO, .int nRsel, .int nAluf, .int nBs, .int nF1, .int nF2, .int nSum, .int nSc])), (pI, .inl (cI, 1024, .inl gI)), (pC, .inl (cI, 256, .inl gC)), (pM, .inl (cI, 1024, .inl gM)), (pR, .inl (cI, 32, .inl gR)), (pP, .inl (cI, 16, .inl gP)), (pH, .inl (cI, 16, .inl gH)), (pK, .inl (cZ, 16, .inl gK)), (pD, .inl (cI, 16, .inl gD)), (pO, .inl (cI, 500, .inl gO))] [(qm, .inr (4, [.ref pI, .ref pC, .ref pM, .ref pR, .int nT, .int nL, .int nC, .int nMar, .int nIn, .ref pP, .ref pH, .ref pK, .ref pD, .int nHand, .int nGiv, .int nCyc, .int nWai, .int nSw, .int nBeg, .int nOut, .ref pO, .int nRsel, .int nAluf, .int nBs, .int nF1, .int nF2, .int nSum, .int nSc])), (pI, .inl (cI, 1024, .inl gI)), (pC, .inl (cI, 256, .inl gC)), (pM, .inl (cI, 1024, .inl gM)), (pR, .inl (cI, 32, .inl gR)), (pP, .inl (cI, 16, .inl gP)), (pH, .inl (cI, 16, .inl gH)), (pK, .inl (cZ, 16, .inl gK)), (pD, .inl (cI, 16, .inl gD)), (pO, .inl (cI, 500, .inl gO))] (r_X4_hasConstant nF1 nF2) := by
  refine CtI.mk (cc := cX4_hasConstant) (maxL := 1) (ret := (some .boolean)) (by decide) rfl (Nat.le_of_ble_eq_true rfl) ?_
  intro p e s m below meth c A hBeg ls hl
  obtain ⟨hx, hb, hr, hml, hts0, hown, hlocks, hin, hA, hK, hP, hD, hS⟩ := hBeg
  have hts := fun w h => hts0 w (List.mem_cons_of_mem _ h)
  have hown : s.vm.findClass RX4 = some m.cls := hown
  have hl : lv_has ls 1 [(0, .ref qm)] := hl
  skip
  refine lv_aload_n hx hb dX4_hasConstant_0 rfl (lv_at hl 0 rfl) ?_
  refine va_get (D := D) (ci := 4) (v := .int nF1) (C := RX4) (T := TX4) (N := 28) hx hb hts ilX4 hown hK hP 0 rfl rfl 24 (by decide) (hts _ wf_X4_50) (fun _ h9 => h9) rfl dX4_hasConstant_1 ?_
  refine lv_bipush (v := 7) hx hb dX4_hasConstant_4 (by decide) ?_
  refine lv_icmp_eq (tgt := 18) hx hb dX4_hasConstant_6 (by decide) (fun c_1 => ?_) (fun c_1 => ?_)
  · skip
    refine lv_iconst (v := 1) hx hb dX4_hasConstant_18 (by decide) ?_
    refine lv_goto (tgt := 23) hx hb dX4_hasConstant_19 (by decide) ?_
    have e_1 : r_X4_hasConstant nF1 nF2 = 1 := by simp only [r_X4_hasConstant, if_pos c_1]
    exact ct_zret hx hb hr hlocks hP hD hS rfl (by rw [e_1]) (Or.inr rfl) dX4_hasConstant_23
  · skip
    refine lv_aload_n hx hb dX4_hasConstant_9 rfl (lv_at hl 0 rfl) ?_
    refine va_get (D := D) (ci := 4) (v := .int nF2) (C := RX4) (T := TX4) (N := 28) hx hb hts ilX4 hown hK hP 0 rfl rfl 25 (by decide) (hts _ wf_X4_53) (fun _ h9 => h9) rfl dX4_hasConstant_10 ?_
    refine lv_bipush (v := 7) hx hb dX4_hasConstant_13 (by decide) ?_
    refine lv_icmp_ne (tgt := 22) hx hb dX4_hasConstant_15 (by decide) (fun c_2 => ?_) (fun c_2 => ?_)
    · skip
      refine lv_iconst (v := 0) hx hb dX4_hasConstant_22 (by decide) ?_
      have e_1 : r_X4_hasConstant nF1 nF2 = 0 := by simp only [r_X4_hasConstant, if_neg c_1, if_neg c_2]
      exact ct_zret hx hb hr hlocks hP hD hS rfl (by rw [e_1]) (Or.inl rfl) dX4_hasConstant_23
    · skip
      refine lv_iconst (v := 1) hx hb dX4_hasConstant_18 (by decide) ?_
      refine lv_goto (tgt := 23) hx hb dX4_hasConstant_19 (by decide) ?_
      have e_1 : r_X4_hasConstant nF1 nF2 = 1 := by simp only [r_X4_hasConstant, if_neg c_1, if_pos c_2]
      exact ct_zret hx hb hr hlocks hP hD hS rfl (by rw [e_1]) (Or.inr rfl) dX4_hasConstant_23
def r_X4_waits (nCyc : Int32) (nBeg : Int32) (nBs : Int32) (nF1 : Int32) (nF2 : Int32) : Int32 := (if nF1 = 1 then (if (nCyc - nBeg) < 5 then 1 else (if nBs = 5 then (if (r_X4_hasConstant nF1 nF2) = 0 then (if (nCyc - nBeg) < 4 then 1 else (if nF2 = 6 then (if 2 ≤ (nCyc - nBeg) then 0 else 1) else 0)) else (if nF2 = 6 then (if 2 ≤ (nCyc - nBeg) then 0 else 1) else 0)) else (if nF2 = 6 then (if 2 ≤ (nCyc - nBeg) then 0 else 1) else 0))) else (if nBs = 5 then (if (r_X4_hasConstant nF1 nF2) = 0 then (if (nCyc - nBeg) < 4 then 1 else (if nF2 = 6 then (if 2 ≤ (nCyc - nBeg) then 0 else 1) else 0)) else (if nF2 = 6 then (if 2 ≤ (nCyc - nBeg) then 0 else 1) else 0)) else (if nF2 = 6 then (if 2 ≤ (nCyc - nBeg) then 0 else 1) else 0)))
set_option maxHeartbeats 4000000 in
set_option maxRecDepth 100000 in
theorem c_X4_waits (l : Launch) (D : va_G) (cI cZ : ClassId) (qm : Nat) (pI : Nat) (pC : Nat) (pM : Nat) (pR : Nat) (pP : Nat) (pH : Nat) (pK : Nat) (pD : Nat) (pO : Nat) (gI : Nat → Int32) (gC : Nat → Int32) (gM : Nat → Int32) (gR : Nat → Int32) (gP : Nat → Int32) (gH : Nat → Int32) (gK : Nat → Int32) (gD : Nat → Int32) (gO : Nat → Int32) (nT : Int32) (nL : Int32) (nC : Int32) (nMar : Int32) (nIn : Int32) (nHand : Int32) (nGiv : Int32) (nCyc : Int32) (nWai : Int32) (nSw : Int32) (nBeg : Int32) (nOut : Int32) (nRsel : Int32) (nAluf : Int32) (nBs : Int32) (nF1 : Int32) (nF2 : Int32) (nSum : Int32) (nSc : Int32) : CtI l D classes [(cI, .int), (cZ, .boolean)] yX4_waits w_X4_waits { frames := 1, cells := 0, slots := 0, locals := 20 } [.ref qm] [(qm, .inr (4, [.ref pI, .ref pC, .ref pM, .ref pR, .int nT, .int nL, .int nC, .int nMar, .int nIn, .ref pP, .ref pH, .ref pK, .ref pD, .int nHand, .int nGiv, .int nCyc, .int nWai, .int nSw, .int nBeg, .int nOut, .ref pO, .int nRsel, .int nAluf, .int nBs, .int nF1, .int nF2, .int nSum, .int nSc])), (pI, .inl (cI, 1024, .inl gI)), (pC, .inl (cI, 256, .inl gC)), (pM, .inl (cI, 1024, .inl gM)), (pR, .inl (cI, 32, .inl gR)), (pP, .inl (cI, 16, .inl gP)), (pH, .inl (cI, 16, .inl gH)), (pK, .inl (cZ, 16, .inl gK)), (pD, .inl (cI, 16, .inl gD)), (pO, .inl (cI, 500, .inl gO))] [(qm, .inr (4, [.ref pI, .ref pC, .ref pM, .ref pR, .int nT, .int nL, .int nC, .int nMar, .int nIn, .ref pP, .ref pH, .ref pK, .ref pD, .int nHand, .int nGiv, .int nCyc, .int nWai, .int nSw, .int nBeg, .int nOut, .ref pO, .int nRsel, .int nAluf, .int nBs, .int nF1, .int nF2, .int nSum, .int nSc])), (pI, .inl (cI, 1024, .inl gI)), (pC, .inl (cI, 256, .inl gC)), (pM, .inl (cI, 1024, .inl gM)), (pR, .inl (cI, 32, .inl gR)), (pP, .inl (cI, 16, .inl gP)), (pH, .inl (cI, 16, .inl gH)), (pK, .inl (cZ, 16, .inl gK)), (pD, .inl (cI, 16, .inl gD)), (pO, .inl (cI, 500, .inl gO))] (r_X4_waits nCyc nBeg nBs nF1 nF2) := by
  refine CtI.mk (cc := cX4_waits) (maxL := 2) (ret := (some .boolean)) (by decide) rfl (Nat.le_of_ble_eq_true rfl) ?_
  intro p e s m below meth c A hBeg ls hl
  obtain ⟨hx, hb, hr, hml, hts0, hown, hlocks, hin, hA, hK, hP, hD, hS⟩ := hBeg
  have hts := fun w h => hts0 w (List.mem_cons_of_mem _ h)
  have hown : s.vm.findClass RX4 = some m.cls := hown
  have hl : lv_has ls 2 [(0, .ref qm)] := hl
  skip
  refine lv_aload_n hx hb dX4_waits_0 rfl (lv_at hl 0 rfl) ?_
  refine va_get (D := D) (ci := 4) (v := .int nCyc) (C := RX4) (T := TX4) (N := 28) hx hb hts ilX4 hown hK hP 0 rfl rfl 15 (by decide) (hts _ wf_X4_56) (fun _ h9 => h9) rfl dX4_waits_1 ?_
  refine lv_aload_n hx hb dX4_waits_4 rfl (lv_at hl 0 rfl) ?_
  refine va_get (D := D) (ci := 4) (v := .int nBeg) (C := RX4) (T := TX4) (N := 28) hx hb hts ilX4 hown hK hP 0 rfl rfl 18 (by decide) (hts _ wf_X4_35) (fun _ h9 => h9) rfl dX4_waits_5 ?_
  refine lv_isub hx hb dX4_waits_8 ?_
  refine lv_istore_n (lv' := [(1, .int (nCyc - nBeg)), (0, .ref qm)]) hx hb dX4_waits_9 rfl hl (by decide) rfl (fun ls hl => ?_)
  refine lv_aload_n hx hb dX4_waits_10 rfl (lv_at hl 1 rfl) ?_
  refine va_get (D := D) (ci := 4) (v := .int nF1) (C := RX4) (T := TX4) (N := 28) hx hb hts ilX4 hown hK hP 0 rfl rfl 24 (by decide) (hts _ wf_X4_50) (fun _ h9 => h9) rfl dX4_waits_11 ?_
  refine lv_iconst (v := 1) hx hb dX4_waits_14 (by decide) ?_
  refine lv_icmp_ne (tgt := 23) hx hb dX4_waits_15 (by decide) (fun c_1 => ?_) (fun c_1 => ?_)
  · skip
    refine lv_aload_n hx hb dX4_waits_23 rfl (lv_at hl 1 rfl) ?_
    refine va_get (D := D) (ci := 4) (v := .int nBs) (C := RX4) (T := TX4) (N := 28) hx hb hts ilX4 hown hK hP 0 rfl rfl 23 (by decide) (hts _ wf_X4_59) (fun _ h9 => h9) rfl dX4_waits_24 ?_
    refine lv_iconst (v := 5) hx hb dX4_waits_27 (by decide) ?_
    refine lv_icmp_ne (tgt := 43) hx hb dX4_waits_28 (by decide) (fun c_2 => ?_) (fun c_2 => ?_)
    · skip
      refine lv_aload_n hx hb dX4_waits_43 rfl (lv_at hl 1 rfl) ?_
      refine va_get (D := D) (ci := 4) (v := .int nF2) (C := RX4) (T := TX4) (N := 28) hx hb hts ilX4 hown hK hP 0 rfl rfl 25 (by decide) (hts _ wf_X4_53) (fun _ h9 => h9) rfl dX4_waits_44 ?_
      refine lv_bipush (v := 6) hx hb dX4_waits_47 (by decide) ?_
      refine lv_icmp_ne (tgt := 61) hx hb dX4_waits_49 (by decide) (fun c_3 => ?_) (fun c_3 => ?_)
      · skip
        refine lv_iconst (v := 0) hx hb dX4_waits_61 (by decide) ?_
        have e_1 : r_X4_waits nCyc nBeg nBs nF1 nF2 = 0 := by simp only [r_X4_waits, if_neg c_1, if_neg c_2, if_neg c_3]
        exact ct_zret hx hb hr hlocks hP hD hS rfl (by rw [e_1]) (Or.inl rfl) dX4_waits_62
      · skip
        refine lv_iload_n hx hb dX4_waits_52 rfl (lv_at hl 0 rfl) ?_
        refine lv_iconst (v := 2) hx hb dX4_waits_53 (by decide) ?_
        refine lv_icmp_ge (tgt := 61) hx hb dX4_waits_54 (by decide) (fun c_4 => ?_) (fun c_4 => ?_)
        · skip
          refine lv_iconst (v := 0) hx hb dX4_waits_61 (by decide) ?_
          have e_1 : r_X4_waits nCyc nBeg nBs nF1 nF2 = 0 := by simp only [r_X4_waits, if_neg c_1, if_neg c_2, if_pos c_3, if_pos c_4]
          exact ct_zret hx hb hr hlocks hP hD hS rfl (by rw [e_1]) (Or.inl rfl) dX4_waits_62
        · skip
          refine lv_iconst (v := 1) hx hb dX4_waits_57 (by decide) ?_
          refine lv_goto (tgt := 62) hx hb dX4_waits_58 (by decide) ?_
          have e_1 : r_X4_waits nCyc nBeg nBs nF1 nF2 = 1 := by simp only [r_X4_waits, if_neg c_1, if_neg c_2, if_pos c_3, if_neg c_4]
          exact ct_zret hx hb hr hlocks hP hD hS rfl (by rw [e_1]) (Or.inr rfl) dX4_waits_62
    · skip
      refine lv_aload_n hx hb dX4_waits_31 rfl (lv_at hl 1 rfl) ?_
      refine ctI_V (As := []) (rest := []) (wc := [(qm, .inr (4, [.ref pI, .ref pC, .ref pM, .ref pR, .int nT, .int nL, .int nC, .int nMar, .int nIn, .ref pP, .ref pH, .ref pK, .ref pD, .int nHand, .int nGiv, .int nCyc, .int nWai, .int nSw, .int nBeg, .int nOut, .ref pO, .int nRsel, .int nAluf, .int nBs, .int nF1, .int nF2, .int nSum, .int nSc])), (pI, .inl (cI, 1024, .inl gI)), (pC, .inl (cI, 256, .inl gC)), (pM, .inl (cI, 1024, .inl gM)), (pR, .inl (cI, 32, .inl gR)), (pP, .inl (cI, 16, .inl gP)), (pH, .inl (cI, 16, .inl gH)), (pK, .inl (cZ, 16, .inl gK)), (pD, .inl (cI, 16, .inl gD)), (pO, .inl (cI, 500, .inl gO))]) (wr := []) ⟨hx, hb, hml, hown, hts⟩ (c_X4_hasConstant l D cI cZ qm pI pC pM pR pP pH pK pD pO gI gC gM gR gP gH gK gD gO nT nL nC nMar nIn nHand nGiv nCyc nWai nSw nBeg nOut nRsel nAluf nBs nF1 nF2 nSum nSc) (cwV 0 hts (gd_V wm_X4_62 wi_X4_hasConstant ws_X4_hasConstant wz_X4 wo_X4_hasConstant) rfl rfl rfl (by decide +kernel) ⟨Nat.le_of_ble_eq_true rfl, Nat.le_of_ble_eq_true rfl⟩) hK hP hD hS hA 0 rfl rfl rfl [0, 1, 2, 3, 4, 5, 6, 7, 8, 9] [] rfl rfl (by decide) (by decide) (by decide) rfl rfl hl.1 (Nat.le_of_ble_eq_true rfl) dX4_waits_32 ⟨Nat.le_of_ble_eq_true rfl, Nat.le_of_ble_eq_true rfl⟩ (fun H locs hP hD hS => ?_)
      have hP : va_P D classes [(qm, .inr (4, [.ref pI, .ref pC, .ref pM, .ref pR, .int nT, .int nL, .int nC, .int nMar, .int nIn, .ref pP, .ref pH, .ref pK, .ref pD, .int nHand, .int nGiv, .int nCyc, .int nWai, .int nSw, .int nBeg, .int nOut, .ref pO, .int nRsel, .int nAluf, .int nBs, .int nF1, .int nF2, .int nSum, .int nSc])), (pI, .inl (cI, 1024, .inl gI)), (pC, .inl (cI, 256, .inl gC)), (pM, .inl (cI, 1024, .inl gM)), (pR, .inl (cI, 32, .inl gR)), (pP, .inl (cI, 16, .inl gP)), (pH, .inl (cI, 16, .inl gH)), (pK, .inl (cZ, 16, .inl gK)), (pD, .inl (cI, 16, .inl gD)), (pO, .inl (cI, 500, .inl gO))] H := hP
      have hD : va_D A [(qm, .inr (4, [.ref pI, .ref pC, .ref pM, .ref pR, .int nT, .int nL, .int nC, .int nMar, .int nIn, .ref pP, .ref pH, .ref pK, .ref pD, .int nHand, .int nGiv, .int nCyc, .int nWai, .int nSw, .int nBeg, .int nOut, .ref pO, .int nRsel, .int nAluf, .int nBs, .int nF1, .int nF2, .int nSum, .int nSc])), (pI, .inl (cI, 1024, .inl gI)), (pC, .inl (cI, 256, .inl gC)), (pM, .inl (cI, 1024, .inl gM)), (pR, .inl (cI, 32, .inl gR)), (pP, .inl (cI, 16, .inl gP)), (pH, .inl (cI, 16, .inl gH)), (pK, .inl (cZ, 16, .inl gK)), (pD, .inl (cI, 16, .inl gD)), (pO, .inl (cI, 500, .inl gO))] := hD
      refine lv_if_ne (tgt := 43) hx hb dX4_waits_35 (by decide) (fun c_5 => ?_) (fun c_5 => ?_)
      · skip
        refine lv_aload_n hx hb dX4_waits_43 rfl (lv_at hl 1 rfl) ?_
        refine va_get (D := D) (ci := 4) (v := .int nF2) (C := RX4) (T := TX4) (N := 28) hx hb hts ilX4 hown hK hP 0 rfl rfl 25 (by decide) (hts _ wf_X4_53) (fun _ h9 => h9) rfl dX4_waits_44 ?_
        refine lv_bipush (v := 6) hx hb dX4_waits_47 (by decide) ?_
        refine lv_icmp_ne (tgt := 61) hx hb dX4_waits_49 (by decide) (fun c_6 => ?_) (fun c_6 => ?_)
        · skip
          refine lv_iconst (v := 0) hx hb dX4_waits_61 (by decide) ?_
          have e_1 : r_X4_waits nCyc nBeg nBs nF1 nF2 = 0 := by simp only [r_X4_waits, if_neg c_1, if_pos c_2, if_neg c_5, if_neg c_6]
          exact ct_zret hx hb hr hlocks hP hD hS rfl (by rw [e_1]) (Or.inl rfl) dX4_waits_62
        · skip
          refine lv_iload_n hx hb dX4_waits_52 rfl (lv_at hl 0 rfl) ?_
          refine lv_iconst (v := 2) hx hb dX4_waits_53 (by decide) ?_
          refine lv_icmp_ge (tgt := 61) hx hb dX4_waits_54 (by decide) (fun c_7 => ?_) (fun c_7 => ?_)
          · skip
            refine lv_iconst (v := 0) hx hb dX4_waits_61 (by decide) ?_
            have e_1 : r_X4_waits nCyc nBeg nBs nF1 nF2 = 0 := by simp only [r_X4_waits, if_neg c_1, if_pos c_2, if_neg c_5, if_pos c_6, if_pos c_7]
            exact ct_zret hx hb hr hlocks hP hD hS rfl (by rw [e_1]) (Or.inl rfl) dX4_waits_62
          · skip
            refine lv_iconst (v := 1) hx hb dX4_waits_57 (by decide) ?_
            refine lv_goto (tgt := 62) hx hb dX4_waits_58 (by decide) ?_
            have e_1 : r_X4_waits nCyc nBeg nBs nF1 nF2 = 1 := by simp only [r_X4_waits, if_neg c_1, if_pos c_2, if_neg c_5, if_pos c_6, if_neg c_7]
            exact ct_zret hx hb hr hlocks hP hD hS rfl (by rw [e_1]) (Or.inr rfl) dX4_waits_62
      · skip
        refine lv_iload_n hx hb dX4_waits_38 rfl (lv_at hl 0 rfl) ?_
        refine lv_iconst (v := 4) hx hb dX4_waits_39 (by decide) ?_
        refine lv_icmp_lt (tgt := 57) hx hb dX4_waits_40 (by decide) (fun c_8 => ?_) (fun c_8 => ?_)
        · skip
          refine lv_iconst (v := 1) hx hb dX4_waits_57 (by decide) ?_
          refine lv_goto (tgt := 62) hx hb dX4_waits_58 (by decide) ?_
          have e_1 : r_X4_waits nCyc nBeg nBs nF1 nF2 = 1 := by simp only [r_X4_waits, if_neg c_1, if_pos c_2, if_pos c_5, if_pos c_8]
          exact ct_zret hx hb hr hlocks hP hD hS rfl (by rw [e_1]) (Or.inr rfl) dX4_waits_62
        · skip
          refine lv_aload_n hx hb dX4_waits_43 rfl (lv_at hl 1 rfl) ?_
          refine va_get (D := D) (ci := 4) (v := .int nF2) (C := RX4) (T := TX4) (N := 28) hx hb hts ilX4 hown hK hP 0 rfl rfl 25 (by decide) (hts _ wf_X4_53) (fun _ h9 => h9) rfl dX4_waits_44 ?_
          refine lv_bipush (v := 6) hx hb dX4_waits_47 (by decide) ?_
          refine lv_icmp_ne (tgt := 61) hx hb dX4_waits_49 (by decide) (fun c_9 => ?_) (fun c_9 => ?_)
          · skip
            refine lv_iconst (v := 0) hx hb dX4_waits_61 (by decide) ?_
            have e_1 : r_X4_waits nCyc nBeg nBs nF1 nF2 = 0 := by simp only [r_X4_waits, if_neg c_1, if_pos c_2, if_pos c_5, if_neg c_8, if_neg c_9]
            exact ct_zret hx hb hr hlocks hP hD hS rfl (by rw [e_1]) (Or.inl rfl) dX4_waits_62
          · skip
            refine lv_iload_n hx hb dX4_waits_52 rfl (lv_at hl 0 rfl) ?_
            refine lv_iconst (v := 2) hx hb dX4_waits_53 (by decide) ?_
            refine lv_icmp_ge (tgt := 61) hx hb dX4_waits_54 (by decide) (fun c_10 => ?_) (fun c_10 => ?_)
            · skip
              refine lv_iconst (v := 0) hx hb dX4_waits_61 (by decide) ?_
              have e_1 : r_X4_waits nCyc nBeg nBs nF1 nF2 = 0 := by simp only [r_X4_waits, if_neg c_1, if_pos c_2, if_pos c_5, if_neg c_8, if_pos c_9, if_pos c_10]
              exact ct_zret hx hb hr hlocks hP hD hS rfl (by rw [e_1]) (Or.inl rfl) dX4_waits_62
            · skip
              refine lv_iconst (v := 1) hx hb dX4_waits_57 (by decide) ?_
              refine lv_goto (tgt := 62) hx hb dX4_waits_58 (by decide) ?_
              have e_1 : r_X4_waits nCyc nBeg nBs nF1 nF2 = 1 := by simp only [r_X4_waits, if_neg c_1, if_pos c_2, if_pos c_5, if_neg c_8, if_pos c_9, if_neg c_10]
              exact ct_zret hx hb hr hlocks hP hD hS rfl (by rw [e_1]) (Or.inr rfl) dX4_waits_62
  · skip
    refine lv_iload_n hx hb dX4_waits_18 rfl (lv_at hl 0 rfl) ?_
    refine lv_iconst (v := 5) hx hb dX4_waits_19 (by decide) ?_
    refine lv_icmp_lt (tgt := 57) hx hb dX4_waits_20 (by decide) (fun c_11 => ?_) (fun c_11 => ?_)
    · skip
      refine lv_iconst (v := 1) hx hb dX4_waits_57 (by decide) ?_
      refine lv_goto (tgt := 62) hx hb dX4_waits_58 (by decide) ?_
      have e_1 : r_X4_waits nCyc nBeg nBs nF1 nF2 = 1 := by simp only [r_X4_waits, if_pos c_1, if_pos c_11]
      exact ct_zret hx hb hr hlocks hP hD hS rfl (by rw [e_1]) (Or.inr rfl) dX4_waits_62
    · skip
      refine lv_aload_n hx hb dX4_waits_23 rfl (lv_at hl 1 rfl) ?_
      refine va_get (D := D) (ci := 4) (v := .int nBs) (C := RX4) (T := TX4) (N := 28) hx hb hts ilX4 hown hK hP 0 rfl rfl 23 (by decide) (hts _ wf_X4_59) (fun _ h9 => h9) rfl dX4_waits_24 ?_
      refine lv_iconst (v := 5) hx hb dX4_waits_27 (by decide) ?_
      refine lv_icmp_ne (tgt := 43) hx hb dX4_waits_28 (by decide) (fun c_12 => ?_) (fun c_12 => ?_)
      · skip
        refine lv_aload_n hx hb dX4_waits_43 rfl (lv_at hl 1 rfl) ?_
        refine va_get (D := D) (ci := 4) (v := .int nF2) (C := RX4) (T := TX4) (N := 28) hx hb hts ilX4 hown hK hP 0 rfl rfl 25 (by decide) (hts _ wf_X4_53) (fun _ h9 => h9) rfl dX4_waits_44 ?_
        refine lv_bipush (v := 6) hx hb dX4_waits_47 (by decide) ?_
        refine lv_icmp_ne (tgt := 61) hx hb dX4_waits_49 (by decide) (fun c_13 => ?_) (fun c_13 => ?_)
        · skip
          refine lv_iconst (v := 0) hx hb dX4_waits_61 (by decide) ?_
          have e_1 : r_X4_waits nCyc nBeg nBs nF1 nF2 = 0 := by simp only [r_X4_waits, if_pos c_1, if_neg c_11, if_neg c_12, if_neg c_13]
          exact ct_zret hx hb hr hlocks hP hD hS rfl (by rw [e_1]) (Or.inl rfl) dX4_waits_62
        · skip
          refine lv_iload_n hx hb dX4_waits_52 rfl (lv_at hl 0 rfl) ?_
          refine lv_iconst (v := 2) hx hb dX4_waits_53 (by decide) ?_
          refine lv_icmp_ge (tgt := 61) hx hb dX4_waits_54 (by decide) (fun c_14 => ?_) (fun c_14 => ?_)
          · skip
            refine lv_iconst (v := 0) hx hb dX4_waits_61 (by decide) ?_
            have e_1 : r_X4_waits nCyc nBeg nBs nF1 nF2 = 0 := by simp only [r_X4_waits, if_pos c_1, if_neg c_11, if_neg c_12, if_pos c_13, if_pos c_14]
            exact ct_zret hx hb hr hlocks hP hD hS rfl (by rw [e_1]) (Or.inl rfl) dX4_waits_62
          · skip
            refine lv_iconst (v := 1) hx hb dX4_waits_57 (by decide) ?_
            refine lv_goto (tgt := 62) hx hb dX4_waits_58 (by decide) ?_
            have e_1 : r_X4_waits nCyc nBeg nBs nF1 nF2 = 1 := by simp only [r_X4_waits, if_pos c_1, if_neg c_11, if_neg c_12, if_pos c_13, if_neg c_14]
            exact ct_zret hx hb hr hlocks hP hD hS rfl (by rw [e_1]) (Or.inr rfl) dX4_waits_62
      · skip
        refine lv_aload_n hx hb dX4_waits_31 rfl (lv_at hl 1 rfl) ?_
        refine ctI_V (As := []) (rest := []) (wc := [(qm, .inr (4, [.ref pI, .ref pC, .ref pM, .ref pR, .int nT, .int nL, .int nC, .int nMar, .int nIn, .ref pP, .ref pH, .ref pK, .ref pD, .int nHand, .int nGiv, .int nCyc, .int nWai, .int nSw, .int nBeg, .int nOut, .ref pO, .int nRsel, .int nAluf, .int nBs, .int nF1, .int nF2, .int nSum, .int nSc])), (pI, .inl (cI, 1024, .inl gI)), (pC, .inl (cI, 256, .inl gC)), (pM, .inl (cI, 1024, .inl gM)), (pR, .inl (cI, 32, .inl gR)), (pP, .inl (cI, 16, .inl gP)), (pH, .inl (cI, 16, .inl gH)), (pK, .inl (cZ, 16, .inl gK)), (pD, .inl (cI, 16, .inl gD)), (pO, .inl (cI, 500, .inl gO))]) (wr := []) ⟨hx, hb, hml, hown, hts⟩ (c_X4_hasConstant l D cI cZ qm pI pC pM pR pP pH pK pD pO gI gC gM gR gP gH gK gD gO nT nL nC nMar nIn nHand nGiv nCyc nWai nSw nBeg nOut nRsel nAluf nBs nF1 nF2 nSum nSc) (cwV 0 hts (gd_V wm_X4_62 wi_X4_hasConstant ws_X4_hasConstant wz_X4 wo_X4_hasConstant) rfl rfl rfl (by decide +kernel) ⟨Nat.le_of_ble_eq_true rfl, Nat.le_of_ble_eq_true rfl⟩) hK hP hD hS hA 0 rfl rfl rfl [0, 1, 2, 3, 4, 5, 6, 7, 8, 9] [] rfl rfl (by decide) (by decide) (by decide) rfl rfl hl.1 (Nat.le_of_ble_eq_true rfl) dX4_waits_32 ⟨Nat.le_of_ble_eq_true rfl, Nat.le_of_ble_eq_true rfl⟩ (fun H locs hP hD hS => ?_)
        have hP : va_P D classes [(qm, .inr (4, [.ref pI, .ref pC, .ref pM, .ref pR, .int nT, .int nL, .int nC, .int nMar, .int nIn, .ref pP, .ref pH, .ref pK, .ref pD, .int nHand, .int nGiv, .int nCyc, .int nWai, .int nSw, .int nBeg, .int nOut, .ref pO, .int nRsel, .int nAluf, .int nBs, .int nF1, .int nF2, .int nSum, .int nSc])), (pI, .inl (cI, 1024, .inl gI)), (pC, .inl (cI, 256, .inl gC)), (pM, .inl (cI, 1024, .inl gM)), (pR, .inl (cI, 32, .inl gR)), (pP, .inl (cI, 16, .inl gP)), (pH, .inl (cI, 16, .inl gH)), (pK, .inl (cZ, 16, .inl gK)), (pD, .inl (cI, 16, .inl gD)), (pO, .inl (cI, 500, .inl gO))] H := hP
        have hD : va_D A [(qm, .inr (4, [.ref pI, .ref pC, .ref pM, .ref pR, .int nT, .int nL, .int nC, .int nMar, .int nIn, .ref pP, .ref pH, .ref pK, .ref pD, .int nHand, .int nGiv, .int nCyc, .int nWai, .int nSw, .int nBeg, .int nOut, .ref pO, .int nRsel, .int nAluf, .int nBs, .int nF1, .int nF2, .int nSum, .int nSc])), (pI, .inl (cI, 1024, .inl gI)), (pC, .inl (cI, 256, .inl gC)), (pM, .inl (cI, 1024, .inl gM)), (pR, .inl (cI, 32, .inl gR)), (pP, .inl (cI, 16, .inl gP)), (pH, .inl (cI, 16, .inl gH)), (pK, .inl (cZ, 16, .inl gK)), (pD, .inl (cI, 16, .inl gD)), (pO, .inl (cI, 500, .inl gO))] := hD
        refine lv_if_ne (tgt := 43) hx hb dX4_waits_35 (by decide) (fun c_15 => ?_) (fun c_15 => ?_)
        · skip
          refine lv_aload_n hx hb dX4_waits_43 rfl (lv_at hl 1 rfl) ?_
          refine va_get (D := D) (ci := 4) (v := .int nF2) (C := RX4) (T := TX4) (N := 28) hx hb hts ilX4 hown hK hP 0 rfl rfl 25 (by decide) (hts _ wf_X4_53) (fun _ h9 => h9) rfl dX4_waits_44 ?_
          refine lv_bipush (v := 6) hx hb dX4_waits_47 (by decide) ?_
          refine lv_icmp_ne (tgt := 61) hx hb dX4_waits_49 (by decide) (fun c_16 => ?_) (fun c_16 => ?_)
          · skip
            refine lv_iconst (v := 0) hx hb dX4_waits_61 (by decide) ?_
            have e_1 : r_X4_waits nCyc nBeg nBs nF1 nF2 = 0 := by simp only [r_X4_waits, if_pos c_1, if_neg c_11, if_pos c_12, if_neg c_15, if_neg c_16]
            exact ct_zret hx hb hr hlocks hP hD hS rfl (by rw [e_1]) (Or.inl rfl) dX4_waits_62
          · skip
            refine lv_iload_n hx hb dX4_waits_52 rfl (lv_at hl 0 rfl) ?_
            refine lv_iconst (v := 2) hx hb dX4_waits_53 (by decide) ?_
            refine lv_icmp_ge (tgt := 61) hx hb dX4_waits_54 (by decide) (fun c_17 => ?_) (fun c_17 => ?_)
            · skip
              refine lv_iconst (v := 0) hx hb dX4_waits_61 (by decide) ?_
              have e_1 : r_X4_waits nCyc nBeg nBs nF1 nF2 = 0 := by simp only [r_X4_waits, if_pos c_1, if_neg c_11, if_pos c_12, if_neg c_15, if_pos c_16, if_pos c_17]
              exact ct_zret hx hb hr hlocks hP hD hS rfl (by rw [e_1]) (Or.inl rfl) dX4_waits_62
            · skip
              refine lv_iconst (v := 1) hx hb dX4_waits_57 (by decide) ?_
              refine lv_goto (tgt := 62) hx hb dX4_waits_58 (by decide) ?_
              have e_1 : r_X4_waits nCyc nBeg nBs nF1 nF2 = 1 := by simp only [r_X4_waits, if_pos c_1, if_neg c_11, if_pos c_12, if_neg c_15, if_pos c_16, if_neg c_17]
              exact ct_zret hx hb hr hlocks hP hD hS rfl (by rw [e_1]) (Or.inr rfl) dX4_waits_62
        · skip
          refine lv_iload_n hx hb dX4_waits_38 rfl (lv_at hl 0 rfl) ?_
          refine lv_iconst (v := 4) hx hb dX4_waits_39 (by decide) ?_
          refine lv_icmp_lt (tgt := 57) hx hb dX4_waits_40 (by decide) (fun c_18 => ?_) (fun c_18 => ?_)
          · skip
            refine lv_iconst (v := 1) hx hb dX4_waits_57 (by decide) ?_
            refine lv_goto (tgt := 62) hx hb dX4_waits_58 (by decide) ?_
            have e_1 : r_X4_waits nCyc nBeg nBs nF1 nF2 = 1 := by simp only [r_X4_waits, if_pos c_1, if_neg c_11, if_pos c_12, if_pos c_15, if_pos c_18]
            exact ct_zret hx hb hr hlocks hP hD hS rfl (by rw [e_1]) (Or.inr rfl) dX4_waits_62
          · skip
            refine lv_aload_n hx hb dX4_waits_43 rfl (lv_at hl 1 rfl) ?_
            refine va_get (D := D) (ci := 4) (v := .int nF2) (C := RX4) (T := TX4) (N := 28) hx hb hts ilX4 hown hK hP 0 rfl rfl 25 (by decide) (hts _ wf_X4_53) (fun _ h9 => h9) rfl dX4_waits_44 ?_
            refine lv_bipush (v := 6) hx hb dX4_waits_47 (by decide) ?_
            refine lv_icmp_ne (tgt := 61) hx hb dX4_waits_49 (by decide) (fun c_19 => ?_) (fun c_19 => ?_)
            · skip
              refine lv_iconst (v := 0) hx hb dX4_waits_61 (by decide) ?_
              have e_1 : r_X4_waits nCyc nBeg nBs nF1 nF2 = 0 := by simp only [r_X4_waits, if_pos c_1, if_neg c_11, if_pos c_12, if_pos c_15, if_neg c_18, if_neg c_19]
              exact ct_zret hx hb hr hlocks hP hD hS rfl (by rw [e_1]) (Or.inl rfl) dX4_waits_62
            · skip
              refine lv_iload_n hx hb dX4_waits_52 rfl (lv_at hl 0 rfl) ?_
              refine lv_iconst (v := 2) hx hb dX4_waits_53 (by decide) ?_
              refine lv_icmp_ge (tgt := 61) hx hb dX4_waits_54 (by decide) (fun c_20 => ?_) (fun c_20 => ?_)
              · skip
                refine lv_iconst (v := 0) hx hb dX4_waits_61 (by decide) ?_
                have e_1 : r_X4_waits nCyc nBeg nBs nF1 nF2 = 0 := by simp only [r_X4_waits, if_pos c_1, if_neg c_11, if_pos c_12, if_pos c_15, if_neg c_18, if_pos c_19, if_pos c_20]
                exact ct_zret hx hb hr hlocks hP hD hS rfl (by rw [e_1]) (Or.inl rfl) dX4_waits_62
              · skip
                refine lv_iconst (v := 1) hx hb dX4_waits_57 (by decide) ?_
                refine lv_goto (tgt := 62) hx hb dX4_waits_58 (by decide) ?_
                have e_1 : r_X4_waits nCyc nBeg nBs nF1 nF2 = 1 := by simp only [r_X4_waits, if_pos c_1, if_neg c_11, if_pos c_12, if_pos c_15, if_neg c_18, if_pos c_19, if_neg c_20]
                exact ct_zret hx hb hr hlocks hP hD hS rfl (by rw [e_1]) (Or.inr rfl) dX4_waits_62
def r_X4_shifted (nL : Int32) (nF1 : Int32) : Int32 := (if nF1 = 4 then ((2 : Int32) * nL) &&& 65535 else (if nF1 = 5 then nL / 2 else (if nF1 = 6 then ((nL - nL / 256 * 256) * 256) + (nL / 256) else nL)))
set_option maxHeartbeats 4000000 in
set_option maxRecDepth 100000 in
theorem c_X4_shifted (l : Launch) (D : va_G) (cI cZ : ClassId) (qm : Nat) (pI : Nat) (pC : Nat) (pM : Nat) (pR : Nat) (pP : Nat) (pH : Nat) (pK : Nat) (pD : Nat) (pO : Nat) (gI : Nat → Int32) (gC : Nat → Int32) (gM : Nat → Int32) (gR : Nat → Int32) (gP : Nat → Int32) (gH : Nat → Int32) (gK : Nat → Int32) (gD : Nat → Int32) (gO : Nat → Int32) (nT : Int32) (nL : Int32) (nC : Int32) (nMar : Int32) (nIn : Int32) (nHand : Int32) (nGiv : Int32) (nCyc : Int32) (nWai : Int32) (nSw : Int32) (nBeg : Int32) (nOut : Int32) (nRsel : Int32) (nAluf : Int32) (nBs : Int32) (nF1 : Int32) (nF2 : Int32) (nSum : Int32) (nSc : Int32) : CtI l D classes [(cI, .int), (cZ, .boolean)] yX4_shifted w_X4_shifted { frames := 0, cells := 0, slots := 0, locals := 0 } [.ref qm] [(qm, .inr (4, [.ref pI, .ref pC, .ref pM, .ref pR, .int nT, .int nL, .int nC, .int nMar, .int nIn, .ref pP, .ref pH, .ref pK, .ref pD, .int nHand, .int nGiv, .int nCyc, .int nWai, .int nSw, .int nBeg, .int nOut, .ref pO, .int nRsel, .int nAluf, .int nBs, .int nF1, .int nF2, .int nSum, .int nSc])), (pI, .inl (cI, 1024, .inl gI)), (pC, .inl (cI, 256, .inl gC)), (pM, .inl (cI, 1024, .inl gM)), (pR, .inl (cI, 32, .inl gR)), (pP, .inl (cI, 16, .inl gP)), (pH, .inl (cI, 16, .inl gH)), (pK, .inl (cZ, 16, .inl gK)), (pD, .inl (cI, 16, .inl gD)), (pO, .inl (cI, 500, .inl gO))] [(qm, .inr (4, [.ref pI, .ref pC, .ref pM, .ref pR, .int nT, .int nL, .int nC, .int nMar, .int nIn, .ref pP, .ref pH, .ref pK, .ref pD, .int nHand, .int nGiv, .int nCyc, .int nWai, .int nSw, .int nBeg, .int nOut, .ref pO, .int nRsel, .int nAluf, .int nBs, .int nF1, .int nF2, .int nSum, .int nSc])), (pI, .inl (cI, 1024, .inl gI)), (pC, .inl (cI, 256, .inl gC)), (pM, .inl (cI, 1024, .inl gM)), (pR, .inl (cI, 32, .inl gR)), (pP, .inl (cI, 16, .inl gP)), (pH, .inl (cI, 16, .inl gH)), (pK, .inl (cZ, 16, .inl gK)), (pD, .inl (cI, 16, .inl gD)), (pO, .inl (cI, 500, .inl gO))] (r_X4_shifted nL nF1) := by
  refine CtI.mk (cc := cX4_shifted) (maxL := 1) (ret := (some .int)) (by decide) rfl (Nat.le_of_ble_eq_true rfl) ?_
  intro p e s m below meth c A hBeg ls hl
  obtain ⟨hx, hb, hr, hml, hts0, hown, hlocks, hin, hA, hK, hP, hD, hS⟩ := hBeg
  have hts := fun w h => hts0 w (List.mem_cons_of_mem _ h)
  have hown : s.vm.findClass RX4 = some m.cls := hown
  have hl : lv_has ls 1 [(0, .ref qm)] := hl
  skip
  refine lv_aload_n hx hb dX4_shifted_0 rfl (lv_at hl 0 rfl) ?_
  refine va_get (D := D) (ci := 4) (v := .int nF1) (C := RX4) (T := TX4) (N := 28) hx hb hts ilX4 hown hK hP 0 rfl rfl 24 (by decide) (hts _ wf_X4_50) (fun _ h9 => h9) rfl dX4_shifted_1 ?_
  by_cases s_1 : nF1 = 4
  · skip
    refine lv_tableIn (tgt := 32) (off := 28) hx hb dX4_shifted_4 (by rw [s_1]; decide) (by rw [s_1]; decide) (by rw [s_1]; rfl) (by decide) ?_
    refine lv_iconst (v := 2) hx hb dX4_shifted_32 (by decide) ?_
    refine lv_aload_n hx hb dX4_shifted_33 rfl (lv_at hl 0 rfl) ?_
    refine va_get (D := D) (ci := 4) (v := .int nL) (C := RX4) (T := TX4) (N := 28) hx hb hts ilX4 hown hK hP 0 rfl rfl 5 (by decide) (hts _ wf_X4_66) (fun _ h9 => h9) rfl dX4_shifted_34 ?_
    refine lv_imul hx hb dX4_shifted_37 ?_
    refine lv_ldc (v := 65535) hx hb hown (hts _ wk_X4_46) dX4_shifted_38 ?_
    refine lv_iand hx hb dX4_shifted_40 ?_
    have e_1 : r_X4_shifted nL nF1 = ((2 : Int32) * nL) &&& 65535 := by simp only [r_X4_shifted, if_pos s_1]
    exact ct_iret hx hb hr hlocks hP hD hS rfl (by rw [e_1]) dX4_shifted_41
  by_cases s_2 : nF1 = 5
  · skip
    refine lv_tableIn (tgt := 42) (off := 38) hx hb dX4_shifted_4 (by rw [s_2]; decide) (by rw [s_2]; decide) (by rw [s_2]; rfl) (by decide) ?_
    refine lv_aload_n hx hb dX4_shifted_42 rfl (lv_at hl 0 rfl) ?_
    refine va_get (D := D) (ci := 4) (v := .int nL) (C := RX4) (T := TX4) (N := 28) hx hb hts ilX4 hown hK hP 0 rfl rfl 5 (by decide) (hts _ wf_X4_66) (fun _ h9 => h9) rfl dX4_shifted_43 ?_
    refine lv_iconst (v := 2) hx hb dX4_shifted_46 (by decide) ?_
    refine lv_idiv hx hb dX4_shifted_47 (by decide) ?_
    have e_1 : r_X4_shifted nL nF1 = nL / 2 := by simp only [r_X4_shifted, if_neg s_1, if_pos s_2]
    exact ct_iret hx hb hr hlocks hP hD hS rfl (by rw [e_1]) dX4_shifted_48
  by_cases s_3 : nF1 = 6
  · skip
    refine lv_tableIn (tgt := 49) (off := 45) hx hb dX4_shifted_4 (by rw [s_3]; decide) (by rw [s_3]; decide) (by rw [s_3]; rfl) (by decide) ?_
    refine lv_aload_n hx hb dX4_shifted_49 rfl (lv_at hl 0 rfl) ?_
    refine va_get (D := D) (ci := 4) (v := .int nL) (C := RX4) (T := TX4) (N := 28) hx hb hts ilX4 hown hK hP 0 rfl rfl 5 (by decide) (hts _ wf_X4_66) (fun _ h9 => h9) rfl dX4_shifted_50 ?_
    refine lv_sipush (v := 256) hx hb dX4_shifted_53 (by decide) ?_
    refine lv_irem hx hb dX4_shifted_56 (by decide) ?_
    refine lv_sipush (v := 256) hx hb dX4_shifted_57 (by decide) ?_
    refine lv_imul hx hb dX4_shifted_60 ?_
    refine lv_aload_n hx hb dX4_shifted_61 rfl (lv_at hl 0 rfl) ?_
    refine va_get (D := D) (ci := 4) (v := .int nL) (C := RX4) (T := TX4) (N := 28) hx hb hts ilX4 hown hK hP 0 rfl rfl 5 (by decide) (hts _ wf_X4_66) (fun _ h9 => h9) rfl dX4_shifted_62 ?_
    refine lv_sipush (v := 256) hx hb dX4_shifted_65 (by decide) ?_
    refine lv_idiv hx hb dX4_shifted_68 (by decide) ?_
    refine lv_iadd hx hb dX4_shifted_69 ?_
    have e_1 : r_X4_shifted nL nF1 = ((nL - nL / 256 * 256) * 256) + (nL / 256) := by simp only [r_X4_shifted, if_neg s_1, if_neg s_2, if_pos s_3]
    exact ct_iret hx hb hr hlocks hP hD hS rfl (by rw [e_1]) dX4_shifted_70
  refine lv_tableOut (tgt := 71) hx hb dX4_shifted_4 (by have h_s_1 := lv_neT (k := 4) (a := 4) s_1 (by decide); have h_s_2 := lv_neT (k := 5) (a := 5) s_2 (by decide); have h_s_3 := lv_neT (k := 6) (a := 6) s_3 (by decide); omega) (by decide) ?_
  refine lv_aload_n hx hb dX4_shifted_71 rfl (lv_at hl 0 rfl) ?_
  refine va_get (D := D) (ci := 4) (v := .int nL) (C := RX4) (T := TX4) (N := 28) hx hb hts ilX4 hown hK hP 0 rfl rfl 5 (by decide) (hts _ wf_X4_66) (fun _ h9 => h9) rfl dX4_shifted_72 ?_
  have e_1 : r_X4_shifted nL nF1 = nL := by simp only [r_X4_shifted, if_neg s_1, if_neg s_2, if_neg s_3]
  exact ct_iret hx hb hr hlocks hP hD hS rfl (by rw [e_1]) dX4_shifted_75
def r_X4_bus (gC : Nat → Int32) (gM : Nat → Int32) (gR : Nat → Int32) (nL : Int32) (nMar : Int32) (nIn : Int32) (nHand : Int32) (nRsel : Int32) (nBs : Int32) (nF1 : Int32) (nF2 : Int32) : Int32 := (if (r_X4_hasConstant nF1 nF2) = 0 then (if nBs = 0 then gR (Int32.toNatClampNeg nRsel) else (if nBs = 1 then 0 else (if nBs = 2 then 65535 else (if nBs = 3 then nIn else (if nBs = 4 then nHand else (if nBs = 5 then gM (Int32.toNatClampNeg (nMar - nMar / 1024 * 1024)) else (if nBs = 6 then nL else nMar))))))) else gC (Int32.toNatClampNeg (((8 : Int32) * nRsel) + nBs)))
set_option maxHeartbeats 4000000 in
set_option maxRecDepth 100000 in
theorem c_X4_bus (l : Launch) (D : va_G) (cI cZ : ClassId) (qm : Nat) (pI : Nat) (pC : Nat) (pM : Nat) (pR : Nat) (pP : Nat) (pH : Nat) (pK : Nat) (pD : Nat) (pO : Nat) (gI : Nat → Int32) (gC : Nat → Int32) (gM : Nat → Int32) (gR : Nat → Int32) (gP : Nat → Int32) (gH : Nat → Int32) (gK : Nat → Int32) (gD : Nat → Int32) (gO : Nat → Int32) (nT : Int32) (nL : Int32) (nC : Int32) (nMar : Int32) (nIn : Int32) (nHand : Int32) (nGiv : Int32) (nCyc : Int32) (nWai : Int32) (nSw : Int32) (nBeg : Int32) (nOut : Int32) (nRsel : Int32) (nAluf : Int32) (nBs : Int32) (nF1 : Int32) (nF2 : Int32) (nSum : Int32) (nSc : Int32) (hc : vp_in (((8 : Int32) * nRsel) + nBs) 256) (hrs : vp_in nRsel 32) (hm : vp_in (nMar - nMar / 1024 * 1024) 1024) : CtI l D classes [(cI, .int), (cZ, .boolean)] yX4_bus w_X4_bus { frames := 1, cells := 0, slots := 0, locals := 20 } [.ref qm] [(qm, .inr (4, [.ref pI, .ref pC, .ref pM, .ref pR, .int nT, .int nL, .int nC, .int nMar, .int nIn, .ref pP, .ref pH, .ref pK, .ref pD, .int nHand, .int nGiv, .int nCyc, .int nWai, .int nSw, .int nBeg, .int nOut, .ref pO, .int nRsel, .int nAluf, .int nBs, .int nF1, .int nF2, .int nSum, .int nSc])), (pI, .inl (cI, 1024, .inl gI)), (pC, .inl (cI, 256, .inl gC)), (pM, .inl (cI, 1024, .inl gM)), (pR, .inl (cI, 32, .inl gR)), (pP, .inl (cI, 16, .inl gP)), (pH, .inl (cI, 16, .inl gH)), (pK, .inl (cZ, 16, .inl gK)), (pD, .inl (cI, 16, .inl gD)), (pO, .inl (cI, 500, .inl gO))] [(qm, .inr (4, [.ref pI, .ref pC, .ref pM, .ref pR, .int nT, .int nL, .int nC, .int nMar, .int nIn, .ref pP, .ref pH, .ref pK, .ref pD, .int nHand, .int nGiv, .int nCyc, .int nWai, .int nSw, .int nBeg, .int nOut, .ref pO, .int nRsel, .int nAluf, .int nBs, .int nF1, .int nF2, .int nSum, .int nSc])), (pI, .inl (cI, 1024, .inl gI)), (pC, .inl (cI, 256, .inl gC)), (pM, .inl (cI, 1024, .inl gM)), (pR, .inl (cI, 32, .inl gR)), (pP, .inl (cI, 16, .inl gP)), (pH, .inl (cI, 16, .inl gH)), (pK, .inl (cZ, 16, .inl gK)), (pD, .inl (cI, 16, .inl gD)), (pO, .inl (cI, 500, .inl gO))] (r_X4_bus gC gM gR nL nMar nIn nHand nRsel nBs nF1 nF2) := by
  refine CtI.mk (cc := cX4_bus) (maxL := 1) (ret := (some .int)) (by decide) rfl (Nat.le_of_ble_eq_true rfl) ?_
  intro p e s m below meth c A hBeg ls hl
  obtain ⟨hx, hb, hr, hml, hts0, hown, hlocks, hin, hA, hK, hP, hD, hS⟩ := hBeg
  have hts := fun w h => hts0 w (List.mem_cons_of_mem _ h)
  have hown : s.vm.findClass RX4 = some m.cls := hown
  have hl : lv_has ls 1 [(0, .ref qm)] := hl
  skip
  refine lv_aload_n hx hb dX4_bus_0 rfl (lv_at hl 0 rfl) ?_
  refine ctI_V (As := []) (rest := []) (wc := [(qm, .inr (4, [.ref pI, .ref pC, .ref pM, .ref pR, .int nT, .int nL, .int nC, .int nMar, .int nIn, .ref pP, .ref pH, .ref pK, .ref pD, .int nHand, .int nGiv, .int nCyc, .int nWai, .int nSw, .int nBeg, .int nOut, .ref pO, .int nRsel, .int nAluf, .int nBs, .int nF1, .int nF2, .int nSum, .int nSc])), (pI, .inl (cI, 1024, .inl gI)), (pC, .inl (cI, 256, .inl gC)), (pM, .inl (cI, 1024, .inl gM)), (pR, .inl (cI, 32, .inl gR)), (pP, .inl (cI, 16, .inl gP)), (pH, .inl (cI, 16, .inl gH)), (pK, .inl (cZ, 16, .inl gK)), (pD, .inl (cI, 16, .inl gD)), (pO, .inl (cI, 500, .inl gO))]) (wr := []) ⟨hx, hb, hml, hown, hts⟩ (c_X4_hasConstant l D cI cZ qm pI pC pM pR pP pH pK pD pO gI gC gM gR gP gH gK gD gO nT nL nC nMar nIn nHand nGiv nCyc nWai nSw nBeg nOut nRsel nAluf nBs nF1 nF2 nSum nSc) (cwV 0 hts (gd_V wm_X4_62 wi_X4_hasConstant ws_X4_hasConstant wz_X4 wo_X4_hasConstant) rfl rfl rfl (by decide +kernel) ⟨Nat.le_of_ble_eq_true rfl, Nat.le_of_ble_eq_true rfl⟩) hK hP hD hS hA 0 rfl rfl rfl [0, 1, 2, 3, 4, 5, 6, 7, 8, 9] [] rfl rfl (by decide) (by decide) (by decide) rfl rfl hl.1 (Nat.le_of_ble_eq_true rfl) dX4_bus_1 ⟨Nat.le_of_ble_eq_true rfl, Nat.le_of_ble_eq_true rfl⟩ (fun H locs hP hD hS => ?_)
  have hP : va_P D classes [(qm, .inr (4, [.ref pI, .ref pC, .ref pM, .ref pR, .int nT, .int nL, .int nC, .int nMar, .int nIn, .ref pP, .ref pH, .ref pK, .ref pD, .int nHand, .int nGiv, .int nCyc, .int nWai, .int nSw, .int nBeg, .int nOut, .ref pO, .int nRsel, .int nAluf, .int nBs, .int nF1, .int nF2, .int nSum, .int nSc])), (pI, .inl (cI, 1024, .inl gI)), (pC, .inl (cI, 256, .inl gC)), (pM, .inl (cI, 1024, .inl gM)), (pR, .inl (cI, 32, .inl gR)), (pP, .inl (cI, 16, .inl gP)), (pH, .inl (cI, 16, .inl gH)), (pK, .inl (cZ, 16, .inl gK)), (pD, .inl (cI, 16, .inl gD)), (pO, .inl (cI, 500, .inl gO))] H := hP
  have hD : va_D A [(qm, .inr (4, [.ref pI, .ref pC, .ref pM, .ref pR, .int nT, .int nL, .int nC, .int nMar, .int nIn, .ref pP, .ref pH, .ref pK, .ref pD, .int nHand, .int nGiv, .int nCyc, .int nWai, .int nSw, .int nBeg, .int nOut, .ref pO, .int nRsel, .int nAluf, .int nBs, .int nF1, .int nF2, .int nSum, .int nSc])), (pI, .inl (cI, 1024, .inl gI)), (pC, .inl (cI, 256, .inl gC)), (pM, .inl (cI, 1024, .inl gM)), (pR, .inl (cI, 32, .inl gR)), (pP, .inl (cI, 16, .inl gP)), (pH, .inl (cI, 16, .inl gH)), (pK, .inl (cZ, 16, .inl gK)), (pD, .inl (cI, 16, .inl gD)), (pO, .inl (cI, 500, .inl gO))] := hD
  refine lv_if_eq (tgt := 25) hx hb dX4_bus_4 (by decide) (fun c_1 => ?_) (fun c_1 => ?_)
  · skip
    refine lv_aload_n hx hb dX4_bus_25 rfl (lv_at hl 0 rfl) ?_
    refine va_get (D := D) (ci := 4) (v := .int nBs) (C := RX4) (T := TX4) (N := 28) hx hb hts ilX4 hown hK hP 0 rfl rfl 23 (by decide) (hts _ wf_X4_59) (fun _ h9 => h9) rfl dX4_bus_26 ?_
    by_cases s_2 : nBs = 0
    · skip
      refine lv_tableIn (tgt := 72) (off := 43) hx hb dX4_bus_29 (by rw [s_2]; decide) (by rw [s_2]; decide) (by rw [s_2]; rfl) (by decide) ?_
      refine lv_aload_n hx hb dX4_bus_72 rfl (lv_at hl 0 rfl) ?_
      refine va_get (D := D) (ci := 4) (v := .ref pR) (C := RX4) (T := TX4) (N := 28) hx hb hts ilX4 hown hK hP 0 rfl rfl 3 (by decide) (hts _ wf_X4_19) (fun _ h9 => h9) rfl dX4_bus_73 ?_
      refine lv_aload_n hx hb dX4_bus_76 rfl (lv_at hl 0 rfl) ?_
      refine va_get (D := D) (ci := 4) (v := .int nRsel) (C := RX4) (T := TX4) (N := 28) hx hb hts ilX4 hown hK hP 0 rfl rfl 21 (by decide) (hts _ wf_X4_69) (fun _ h9 => h9) rfl dX4_bus_77 ?_
      refine va_iald hx hb hK hP 4 0 rfl rfl hrs dX4_bus_80 ?_
      have e_1 : r_X4_bus gC gM gR nL nMar nIn nHand nRsel nBs nF1 nF2 = gR (Int32.toNatClampNeg nRsel) := by simp only [r_X4_bus, if_pos c_1, if_pos s_2]
      exact ct_iret hx hb hr hlocks hP hD hS rfl (by rw [e_1]) dX4_bus_81
    by_cases s_3 : nBs = 1
    · skip
      refine lv_tableIn (tgt := 82) (off := 53) hx hb dX4_bus_29 (by rw [s_3]; decide) (by rw [s_3]; decide) (by rw [s_3]; rfl) (by decide) ?_
      refine lv_iconst (v := 0) hx hb dX4_bus_82 (by decide) ?_
      have e_1 : r_X4_bus gC gM gR nL nMar nIn nHand nRsel nBs nF1 nF2 = 0 := by simp only [r_X4_bus, if_pos c_1, if_neg s_2, if_pos s_3]
      exact ct_iret hx hb hr hlocks hP hD hS rfl (by rw [e_1]) dX4_bus_83
    by_cases s_4 : nBs = 2
    · skip
      refine lv_tableIn (tgt := 84) (off := 55) hx hb dX4_bus_29 (by rw [s_4]; decide) (by rw [s_4]; decide) (by rw [s_4]; rfl) (by decide) ?_
      refine lv_ldc (v := 65535) hx hb hown (hts _ wk_X4_46) dX4_bus_84 ?_
      have e_1 : r_X4_bus gC gM gR nL nMar nIn nHand nRsel nBs nF1 nF2 = 65535 := by simp only [r_X4_bus, if_pos c_1, if_neg s_2, if_neg s_3, if_pos s_4]
      exact ct_iret hx hb hr hlocks hP hD hS rfl (by rw [e_1]) dX4_bus_86
    by_cases s_5 : nBs = 3
    · skip
      refine lv_tableIn (tgt := 87) (off := 58) hx hb dX4_bus_29 (by rw [s_5]; decide) (by rw [s_5]; decide) (by rw [s_5]; rfl) (by decide) ?_
      refine lv_aload_n hx hb dX4_bus_87 rfl (lv_at hl 0 rfl) ?_
      refine va_get (D := D) (ci := 4) (v := .int nIn) (C := RX4) (T := TX4) (N := 28) hx hb hts ilX4 hown hK hP 0 rfl rfl 8 (by decide) (hts _ wf_X4_47) (fun _ h9 => h9) rfl dX4_bus_88 ?_
      have e_1 : r_X4_bus gC gM gR nL nMar nIn nHand nRsel nBs nF1 nF2 = nIn := by simp only [r_X4_bus, if_pos c_1, if_neg s_2, if_neg s_3, if_neg s_4, if_pos s_5]
      exact ct_iret hx hb hr hlocks hP hD hS rfl (by rw [e_1]) dX4_bus_91
    by_cases s_6 : nBs = 4
    · skip
      refine lv_tableIn (tgt := 92) (off := 63) hx hb dX4_bus_29 (by rw [s_6]; decide) (by rw [s_6]; decide) (by rw [s_6]; rfl) (by decide) ?_
      refine lv_aload_n hx hb dX4_bus_92 rfl (lv_at hl 0 rfl) ?_
      refine va_get (D := D) (ci := 4) (v := .int nHand) (C := RX4) (T := TX4) (N := 28) hx hb hts ilX4 hown hK hP 0 rfl rfl 13 (by decide) (hts _ wf_X4_72) (fun _ h9 => h9) rfl dX4_bus_93 ?_
      have e_1 : r_X4_bus gC gM gR nL nMar nIn nHand nRsel nBs nF1 nF2 = nHand := by simp only [r_X4_bus, if_pos c_1, if_neg s_2, if_neg s_3, if_neg s_4, if_neg s_5, if_pos s_6]
      exact ct_iret hx hb hr hlocks hP hD hS rfl (by rw [e_1]) dX4_bus_96
    by_cases s_7 : nBs = 5
    · skip
      refine lv_tableIn (tgt := 97) (off := 68) hx hb dX4_bus_29 (by rw [s_7]; decide) (by rw [s_7]; decide) (by rw [s_7]; rfl) (by decide) ?_
      refine lv_aload_n hx hb dX4_bus_97 rfl (lv_at hl 0 rfl) ?_
      refine va_get (D := D) (ci := 4) (v := .ref pM) (C := RX4) (T := TX4) (N := 28) hx hb hts ilX4 hown hK hP 0 rfl rfl 2 (by decide) (hts _ wf_X4_16) (fun _ h9 => h9) rfl dX4_bus_98 ?_
      refine lv_aload_n hx hb dX4_bus_101 rfl (lv_at hl 0 rfl) ?_
      refine va_get (D := D) (ci := 4) (v := .int nMar) (C := RX4) (T := TX4) (N := 28) hx hb hts ilX4 hown hK hP 0 rfl rfl 7 (by decide) (hts _ wf_X4_75) (fun _ h9 => h9) rfl dX4_bus_102 ?_
      refine lv_sipush (v := 1024) hx hb dX4_bus_105 (by decide) ?_
      refine lv_irem hx hb dX4_bus_108 (by decide) ?_
      refine va_iald hx hb hK hP 3 0 rfl rfl hm dX4_bus_109 ?_
      have e_1 : r_X4_bus gC gM gR nL nMar nIn nHand nRsel nBs nF1 nF2 = gM (Int32.toNatClampNeg (nMar - nMar / 1024 * 1024)) := by simp only [r_X4_bus, if_pos c_1, if_neg s_2, if_neg s_3, if_neg s_4, if_neg s_5, if_neg s_6, if_pos s_7]
      exact ct_iret hx hb hr hlocks hP hD hS rfl (by rw [e_1]) dX4_bus_110
    by_cases s_8 : nBs = 6
    · skip
      refine lv_tableIn (tgt := 111) (off := 82) hx hb dX4_bus_29 (by rw [s_8]; decide) (by rw [s_8]; decide) (by rw [s_8]; rfl) (by decide) ?_
      refine lv_aload_n hx hb dX4_bus_111 rfl (lv_at hl 0 rfl) ?_
      refine va_get (D := D) (ci := 4) (v := .int nL) (C := RX4) (T := TX4) (N := 28) hx hb hts ilX4 hown hK hP 0 rfl rfl 5 (by decide) (hts _ wf_X4_66) (fun _ h9 => h9) rfl dX4_bus_112 ?_
      have e_1 : r_X4_bus gC gM gR nL nMar nIn nHand nRsel nBs nF1 nF2 = nL := by simp only [r_X4_bus, if_pos c_1, if_neg s_2, if_neg s_3, if_neg s_4, if_neg s_5, if_neg s_6, if_neg s_7, if_pos s_8]
      exact ct_iret hx hb hr hlocks hP hD hS rfl (by rw [e_1]) dX4_bus_115
    refine lv_tableOut (tgt := 116) hx hb dX4_bus_29 (by have h_s_2 := lv_neT (k := 0) (a := 0) s_2 (by decide); have h_s_3 := lv_neT (k := 1) (a := 1) s_3 (by decide); have h_s_4 := lv_neT (k := 2) (a := 2) s_4 (by decide); have h_s_5 := lv_neT (k := 3) (a := 3) s_5 (by decide); have h_s_6 := lv_neT (k := 4) (a := 4) s_6 (by decide); have h_s_7 := lv_neT (k := 5) (a := 5) s_7 (by decide); have h_s_8 := lv_neT (k := 6) (a := 6) s_8 (by decide); omega) (by decide) ?_
    refine lv_aload_n hx hb dX4_bus_116 rfl (lv_at hl 0 rfl) ?_
    refine va_get (D := D) (ci := 4) (v := .int nMar) (C := RX4) (T := TX4) (N := 28) hx hb hts ilX4 hown hK hP 0 rfl rfl 7 (by decide) (hts _ wf_X4_75) (fun _ h9 => h9) rfl dX4_bus_117 ?_
    have e_1 : r_X4_bus gC gM gR nL nMar nIn nHand nRsel nBs nF1 nF2 = nMar := by simp only [r_X4_bus, if_pos c_1, if_neg s_2, if_neg s_3, if_neg s_4, if_neg s_5, if_neg s_6, if_neg s_7, if_neg s_8]
    exact ct_iret hx hb hr hlocks hP hD hS rfl (by rw [e_1]) dX4_bus_120
  · skip
    refine lv_aload_n hx hb dX4_bus_7 rfl (lv_at hl 0 rfl) ?_
    refine va_get (D := D) (ci := 4) (v := .ref pC) (C := RX4) (T := TX4) (N := 28) hx hb hts ilX4 hown hK hP 0 rfl rfl 1 (by decide) (hts _ wf_X4_13) (fun _ h9 => h9) rfl dX4_bus_8 ?_
    refine lv_bipush (v := 8) hx hb dX4_bus_11 (by decide) ?_
    refine lv_aload_n hx hb dX4_bus_13 rfl (lv_at hl 0 rfl) ?_
    refine va_get (D := D) (ci := 4) (v := .int nRsel) (C := RX4) (T := TX4) (N := 28) hx hb hts ilX4 hown hK hP 0 rfl rfl 21 (by decide) (hts _ wf_X4_69) (fun _ h9 => h9) rfl dX4_bus_14 ?_
    refine lv_imul hx hb dX4_bus_17 ?_
    refine lv_aload_n hx hb dX4_bus_18 rfl (lv_at hl 0 rfl) ?_
    refine va_get (D := D) (ci := 4) (v := .int nBs) (C := RX4) (T := TX4) (N := 28) hx hb hts ilX4 hown hK hP 0 rfl rfl 23 (by decide) (hts _ wf_X4_59) (fun _ h9 => h9) rfl dX4_bus_19 ?_
    refine lv_iadd hx hb dX4_bus_22 ?_
    refine va_iald hx hb hK hP 2 0 rfl rfl hc dX4_bus_23 ?_
    have e_1 : r_X4_bus gC gM gR nL nMar nIn nHand nRsel nBs nF1 nF2 = gC (Int32.toNatClampNeg (((8 : Int32) * nRsel) + nBs)) := by simp only [r_X4_bus, if_neg c_1]
    exact ct_iret hx hb hr hlocks hP hD hS rfl (by rw [e_1]) dX4_bus_24
set_option maxHeartbeats 4000000 in
set_option maxRecDepth 100000 in
theorem c_X4_add (l : Launch) (D : va_G) (cI cZ : ClassId) (qm : Nat) (pI : Nat) (pC : Nat) (pM : Nat) (pR : Nat) (pP : Nat) (pH : Nat) (pK : Nat) (pD : Nat) (pO : Nat) (gI : Nat → Int32) (gC : Nat → Int32) (gM : Nat → Int32) (gR : Nat → Int32) (gP : Nat → Int32) (gH : Nat → Int32) (gK : Nat → Int32) (gD : Nat → Int32) (gO : Nat → Int32) (nT : Int32) (nL : Int32) (nC : Int32) (nMar : Int32) (nIn : Int32) (nHand : Int32) (nGiv : Int32) (nCyc : Int32) (nWai : Int32) (nSw : Int32) (nBeg : Int32) (nOut : Int32) (nRsel : Int32) (nAluf : Int32) (nBs : Int32) (nF1 : Int32) (nF2 : Int32) (nSum : Int32) (nSc : Int32) (p0 : Int32) : CtV l D classes [(cI, .int), (cZ, .boolean)] yX4_add w_X4_add { frames := 0, cells := 0, slots := 0, locals := 0 } [.ref qm, .int p0] [(qm, .inr (4, [.ref pI, .ref pC, .ref pM, .ref pR, .int nT, .int nL, .int nC, .int nMar, .int nIn, .ref pP, .ref pH, .ref pK, .ref pD, .int nHand, .int nGiv, .int nCyc, .int nWai, .int nSw, .int nBeg, .int nOut, .ref pO, .int nRsel, .int nAluf, .int nBs, .int nF1, .int nF2, .int nSum, .int nSc])), (pI, .inl (cI, 1024, .inl gI)), (pC, .inl (cI, 256, .inl gC)), (pM, .inl (cI, 1024, .inl gM)), (pR, .inl (cI, 32, .inl gR)), (pP, .inl (cI, 16, .inl gP)), (pH, .inl (cI, 16, .inl gH)), (pK, .inl (cZ, 16, .inl gK)), (pD, .inl (cI, 16, .inl gD)), (pO, .inl (cI, 500, .inl gO))] (fun (_ : Unit) => [(qm, .inr (4, [.ref pI, .ref pC, .ref pM, .ref pR, .int nT, .int nL, .int nC, .int nMar, .int nIn, .ref pP, .ref pH, .ref pK, .ref pD, .int nHand, .int nGiv, .int nCyc, .int nWai, .int nSw, .int nBeg, .int nOut, .ref pO, .int nRsel, .int nAluf, .int nBs, .int nF1, .int nF2, .int (p0 &&& 65535), .int ((p0 >>> (16 &&& 31)) &&& 1)])), (pI, .inl (cI, 1024, .inl gI)), (pC, .inl (cI, 256, .inl gC)), (pM, .inl (cI, 1024, .inl gM)), (pR, .inl (cI, 32, .inl gR)), (pP, .inl (cI, 16, .inl gP)), (pH, .inl (cI, 16, .inl gH)), (pK, .inl (cZ, 16, .inl gK)), (pD, .inl (cI, 16, .inl gD)), (pO, .inl (cI, 500, .inl gO))]) 0 0 := by
  refine CtV.mk (cc := cX4_add) (maxL := 2) (ret := none) (by decide) rfl (Nat.le_of_ble_eq_true rfl) ?_
  intro p e s m below meth c A hBeg ls hl
  obtain ⟨hx, hb, hr, hml, hts0, hown, hlocks, hin, hA, hK, hP, hD, hS⟩ := hBeg
  have hts := fun w h => hts0 w (List.mem_cons_of_mem _ h)
  have hown : s.vm.findClass RX4 = some m.cls := hown
  have hl : lv_has ls 2 [(0, .ref qm), (1, .int p0)] := hl
  skip
  refine lv_aload_n hx hb dX4_add_0 rfl (lv_at hl 0 rfl) ?_
  refine lv_iload_n hx hb dX4_add_1 rfl (lv_at hl 1 rfl) ?_
  refine lv_ldc (v := 65535) hx hb hown (hts _ wk_X4_46) dX4_add_2 ?_
  refine lv_iand hx hb dX4_add_4 ?_
  refine va_put (D := D) (ci := 4) (v := .int (p0 &&& 65535)) (ty := (.int)) (C := RX4) (T := TX4) (N := 28) hx hb hts ilX4 tyX4 tyX4_ok nmX4 hown hK hP hD hS 0 rfl rfl 26 (by decide) (hts _ wf_X4_78) (fun _ h9 => h9) rfl (by decide +kernel) rfl rfl (Nat.le_of_ble_eq_true rfl) dX4_add_5 (fun H locs hP hD hS => ?_)
  have hP : va_P D classes [(qm, .inr (4, [.ref pI, .ref pC, .ref pM, .ref pR, .int nT, .int nL, .int nC, .int nMar, .int nIn, .ref pP, .ref pH, .ref pK, .ref pD, .int nHand, .int nGiv, .int nCyc, .int nWai, .int nSw, .int nBeg, .int nOut, .ref pO, .int nRsel, .int nAluf, .int nBs, .int nF1, .int nF2, .int (p0 &&& 65535), .int nSc])), (pI, .inl (cI, 1024, .inl gI)), (pC, .inl (cI, 256, .inl gC)), (pM, .inl (cI, 1024, .inl gM)), (pR, .inl (cI, 32, .inl gR)), (pP, .inl (cI, 16, .inl gP)), (pH, .inl (cI, 16, .inl gH)), (pK, .inl (cZ, 16, .inl gK)), (pD, .inl (cI, 16, .inl gD)), (pO, .inl (cI, 500, .inl gO))] H := hP
  have hD : va_D A [(qm, .inr (4, [.ref pI, .ref pC, .ref pM, .ref pR, .int nT, .int nL, .int nC, .int nMar, .int nIn, .ref pP, .ref pH, .ref pK, .ref pD, .int nHand, .int nGiv, .int nCyc, .int nWai, .int nSw, .int nBeg, .int nOut, .ref pO, .int nRsel, .int nAluf, .int nBs, .int nF1, .int nF2, .int (p0 &&& 65535), .int nSc])), (pI, .inl (cI, 1024, .inl gI)), (pC, .inl (cI, 256, .inl gC)), (pM, .inl (cI, 1024, .inl gM)), (pR, .inl (cI, 32, .inl gR)), (pP, .inl (cI, 16, .inl gP)), (pH, .inl (cI, 16, .inl gH)), (pK, .inl (cZ, 16, .inl gK)), (pD, .inl (cI, 16, .inl gD)), (pO, .inl (cI, 500, .inl gO))] := hD
  refine lv_aload_n hx hb dX4_add_8 rfl (lv_at hl 0 rfl) ?_
  refine lv_iload_n hx hb dX4_add_9 rfl (lv_at hl 1 rfl) ?_
  refine lv_bipush (v := 16) hx hb dX4_add_10 (by decide) ?_
  refine lv_ishr hx hb dX4_add_12 ?_
  refine lv_iconst (v := 1) hx hb dX4_add_13 (by decide) ?_
  refine lv_iand hx hb dX4_add_14 ?_
  refine va_put (D := D) (ci := 4) (v := .int ((p0 >>> (16 &&& 31)) &&& 1)) (ty := (.int)) (C := RX4) (T := TX4) (N := 28) hx hb hts ilX4 tyX4 tyX4_ok nmX4 hown hK hP hD hS 0 rfl rfl 27 (by decide) (hts _ wf_X4_81) (fun _ h9 => h9) rfl (by decide +kernel) rfl rfl (Nat.le_of_ble_eq_true rfl) dX4_add_15 (fun H locs hP hD hS => ?_)
  have hP : va_P D classes [(qm, .inr (4, [.ref pI, .ref pC, .ref pM, .ref pR, .int nT, .int nL, .int nC, .int nMar, .int nIn, .ref pP, .ref pH, .ref pK, .ref pD, .int nHand, .int nGiv, .int nCyc, .int nWai, .int nSw, .int nBeg, .int nOut, .ref pO, .int nRsel, .int nAluf, .int nBs, .int nF1, .int nF2, .int (p0 &&& 65535), .int ((p0 >>> (16 &&& 31)) &&& 1)])), (pI, .inl (cI, 1024, .inl gI)), (pC, .inl (cI, 256, .inl gC)), (pM, .inl (cI, 1024, .inl gM)), (pR, .inl (cI, 32, .inl gR)), (pP, .inl (cI, 16, .inl gP)), (pH, .inl (cI, 16, .inl gH)), (pK, .inl (cZ, 16, .inl gK)), (pD, .inl (cI, 16, .inl gD)), (pO, .inl (cI, 500, .inl gO))] H := hP
  have hD : va_D A [(qm, .inr (4, [.ref pI, .ref pC, .ref pM, .ref pR, .int nT, .int nL, .int nC, .int nMar, .int nIn, .ref pP, .ref pH, .ref pK, .ref pD, .int nHand, .int nGiv, .int nCyc, .int nWai, .int nSw, .int nBeg, .int nOut, .ref pO, .int nRsel, .int nAluf, .int nBs, .int nF1, .int nF2, .int (p0 &&& 65535), .int ((p0 >>> (16 &&& 31)) &&& 1)])), (pI, .inl (cI, 1024, .inl gI)), (pC, .inl (cI, 256, .inl gC)), (pM, .inl (cI, 1024, .inl gM)), (pR, .inl (cI, 32, .inl gR)), (pP, .inl (cI, 16, .inl gP)), (pH, .inl (cI, 16, .inl gH)), (pK, .inl (cZ, 16, .inl gK)), (pD, .inl (cI, 16, .inl gD)), (pO, .inl (cI, 500, .inl gO))] := hD
  exact ct_vret () hx hb hr hlocks hP hD hS rfl dX4_add_18
def z_X4_take_qm27 (p0 : Int32) (p1 : Int32) : Int32 := (if p0 < p1 then 0 else 1)
set_option maxHeartbeats 4000000 in
set_option maxRecDepth 100000 in
theorem c_X4_take (l : Launch) (D : va_G) (cI cZ : ClassId) (qm : Nat) (pI : Nat) (pC : Nat) (pM : Nat) (pR : Nat) (pP : Nat) (pH : Nat) (pK : Nat) (pD : Nat) (pO : Nat) (gI : Nat → Int32) (gC : Nat → Int32) (gM : Nat → Int32) (gR : Nat → Int32) (gP : Nat → Int32) (gH : Nat → Int32) (gK : Nat → Int32) (gD : Nat → Int32) (gO : Nat → Int32) (nT : Int32) (nL : Int32) (nC : Int32) (nMar : Int32) (nIn : Int32) (nHand : Int32) (nGiv : Int32) (nCyc : Int32) (nWai : Int32) (nSw : Int32) (nBeg : Int32) (nOut : Int32) (nRsel : Int32) (nAluf : Int32) (nBs : Int32) (nF1 : Int32) (nF2 : Int32) (nSum : Int32) (nSc : Int32) (p0 : Int32) (p1 : Int32) : CtV l D classes [(cI, .int), (cZ, .boolean)] yX4_take w_X4_take { frames := 0, cells := 0, slots := 0, locals := 0 } [.ref qm, .int p0, .int p1] [(qm, .inr (4, [.ref pI, .ref pC, .ref pM, .ref pR, .int nT, .int nL, .int nC, .int nMar, .int nIn, .ref pP, .ref pH, .ref pK, .ref pD, .int nHand, .int nGiv, .int nCyc, .int nWai, .int nSw, .int nBeg, .int nOut, .ref pO, .int nRsel, .int nAluf, .int nBs, .int nF1, .int nF2, .int nSum, .int nSc])), (pI, .inl (cI, 1024, .inl gI)), (pC, .inl (cI, 256, .inl gC)), (pM, .inl (cI, 1024, .inl gM)), (pR, .inl (cI, 32, .inl gR)), (pP, .inl (cI, 16, .inl gP)), (pH, .inl (cI, 16, .inl gH)), (pK, .inl (cZ, 16, .inl gK)), (pD, .inl (cI, 16, .inl gD)), (pO, .inl (cI, 500, .inl gO))] (fun (_ : Unit) => [(qm, .inr (4, [.ref pI, .ref pC, .ref pM, .ref pR, .int nT, .int nL, .int nC, .int nMar, .int nIn, .ref pP, .ref pH, .ref pK, .ref pD, .int nHand, .int nGiv, .int nCyc, .int nWai, .int nSw, .int nBeg, .int nOut, .ref pO, .int nRsel, .int nAluf, .int nBs, .int nF1, .int nF2, .int ((p0 - p1) &&& 65535), .int (z_X4_take_qm27 p0 p1)])), (pI, .inl (cI, 1024, .inl gI)), (pC, .inl (cI, 256, .inl gC)), (pM, .inl (cI, 1024, .inl gM)), (pR, .inl (cI, 32, .inl gR)), (pP, .inl (cI, 16, .inl gP)), (pH, .inl (cI, 16, .inl gH)), (pK, .inl (cZ, 16, .inl gK)), (pD, .inl (cI, 16, .inl gD)), (pO, .inl (cI, 500, .inl gO))]) 0 0 := by
  refine CtV.mk (cc := cX4_take) (maxL := 3) (ret := none) (by decide) rfl (Nat.le_of_ble_eq_true rfl) ?_
  intro p e s m below meth c A hBeg ls hl
  obtain ⟨hx, hb, hr, hml, hts0, hown, hlocks, hin, hA, hK, hP, hD, hS⟩ := hBeg
  have hts := fun w h => hts0 w (List.mem_cons_of_mem _ h)
  have hown : s.vm.findClass RX4 = some m.cls := hown
  have hl : lv_has ls 3 [(0, .ref qm), (1, .int p0), (2, .int p1)] := hl
  skip
  refine lv_aload_n hx hb dX4_take_0 rfl (lv_at hl 0 rfl) ?_
  refine lv_iload_n hx hb dX4_take_1 rfl (lv_at hl 1 rfl) ?_
  refine lv_iload_n hx hb dX4_take_2 rfl (lv_at hl 2 rfl) ?_
  refine lv_isub hx hb dX4_take_3 ?_
  refine lv_ldc (v := 65535) hx hb hown (hts _ wk_X4_46) dX4_take_4 ?_
  refine lv_iand hx hb dX4_take_6 ?_
  refine va_put (D := D) (ci := 4) (v := .int ((p0 - p1) &&& 65535)) (ty := (.int)) (C := RX4) (T := TX4) (N := 28) hx hb hts ilX4 tyX4 tyX4_ok nmX4 hown hK hP hD hS 0 rfl rfl 26 (by decide) (hts _ wf_X4_78) (fun _ h9 => h9) rfl (by decide +kernel) rfl rfl (Nat.le_of_ble_eq_true rfl) dX4_take_7 (fun H locs hP hD hS => ?_)
  have hP : va_P D classes [(qm, .inr (4, [.ref pI, .ref pC, .ref pM, .ref pR, .int nT, .int nL, .int nC, .int nMar, .int nIn, .ref pP, .ref pH, .ref pK, .ref pD, .int nHand, .int nGiv, .int nCyc, .int nWai, .int nSw, .int nBeg, .int nOut, .ref pO, .int nRsel, .int nAluf, .int nBs, .int nF1, .int nF2, .int ((p0 - p1) &&& 65535), .int nSc])), (pI, .inl (cI, 1024, .inl gI)), (pC, .inl (cI, 256, .inl gC)), (pM, .inl (cI, 1024, .inl gM)), (pR, .inl (cI, 32, .inl gR)), (pP, .inl (cI, 16, .inl gP)), (pH, .inl (cI, 16, .inl gH)), (pK, .inl (cZ, 16, .inl gK)), (pD, .inl (cI, 16, .inl gD)), (pO, .inl (cI, 500, .inl gO))] H := hP
  have hD : va_D A [(qm, .inr (4, [.ref pI, .ref pC, .ref pM, .ref pR, .int nT, .int nL, .int nC, .int nMar, .int nIn, .ref pP, .ref pH, .ref pK, .ref pD, .int nHand, .int nGiv, .int nCyc, .int nWai, .int nSw, .int nBeg, .int nOut, .ref pO, .int nRsel, .int nAluf, .int nBs, .int nF1, .int nF2, .int ((p0 - p1) &&& 65535), .int nSc])), (pI, .inl (cI, 1024, .inl gI)), (pC, .inl (cI, 256, .inl gC)), (pM, .inl (cI, 1024, .inl gM)), (pR, .inl (cI, 32, .inl gR)), (pP, .inl (cI, 16, .inl gP)), (pH, .inl (cI, 16, .inl gH)), (pK, .inl (cZ, 16, .inl gK)), (pD, .inl (cI, 16, .inl gD)), (pO, .inl (cI, 500, .inl gO))] := hD
  refine lv_aload_n hx hb dX4_take_10 rfl (lv_at hl 0 rfl) ?_
  refine lv_iload_n hx hb dX4_take_11 rfl (lv_at hl 1 rfl) ?_
  refine lv_iload_n hx hb dX4_take_12 rfl (lv_at hl 2 rfl) ?_
  refine lv_icmp_lt (tgt := 20) hx hb dX4_take_13 (by decide) (fun c_1 => ?_) (fun c_1 => ?_)
  · skip
    refine lv_iconst (v := 0) hx hb dX4_take_20 (by decide) ?_
    refine va_put (D := D) (ci := 4) (v := .int 0) (ty := (.int)) (C := RX4) (T := TX4) (N := 28) hx hb hts ilX4 tyX4 tyX4_ok nmX4 hown hK hP hD hS 0 rfl rfl 27 (by decide) (hts _ wf_X4_81) (fun _ h9 => h9) rfl (by decide +kernel) rfl rfl (Nat.le_of_ble_eq_true rfl) dX4_take_21 (fun H locs hP hD hS => ?_)
    have hP : va_P D classes [(qm, .inr (4, [.ref pI, .ref pC, .ref pM, .ref pR, .int nT, .int nL, .int nC, .int nMar, .int nIn, .ref pP, .ref pH, .ref pK, .ref pD, .int nHand, .int nGiv, .int nCyc, .int nWai, .int nSw, .int nBeg, .int nOut, .ref pO, .int nRsel, .int nAluf, .int nBs, .int nF1, .int nF2, .int ((p0 - p1) &&& 65535), .int 0])), (pI, .inl (cI, 1024, .inl gI)), (pC, .inl (cI, 256, .inl gC)), (pM, .inl (cI, 1024, .inl gM)), (pR, .inl (cI, 32, .inl gR)), (pP, .inl (cI, 16, .inl gP)), (pH, .inl (cI, 16, .inl gH)), (pK, .inl (cZ, 16, .inl gK)), (pD, .inl (cI, 16, .inl gD)), (pO, .inl (cI, 500, .inl gO))] H := hP
    have hD : va_D A [(qm, .inr (4, [.ref pI, .ref pC, .ref pM, .ref pR, .int nT, .int nL, .int nC, .int nMar, .int nIn, .ref pP, .ref pH, .ref pK, .ref pD, .int nHand, .int nGiv, .int nCyc, .int nWai, .int nSw, .int nBeg, .int nOut, .ref pO, .int nRsel, .int nAluf, .int nBs, .int nF1, .int nF2, .int ((p0 - p1) &&& 65535), .int 0])), (pI, .inl (cI, 1024, .inl gI)), (pC, .inl (cI, 256, .inl gC)), (pM, .inl (cI, 1024, .inl gM)), (pR, .inl (cI, 32, .inl gR)), (pP, .inl (cI, 16, .inl gP)), (pH, .inl (cI, 16, .inl gH)), (pK, .inl (cZ, 16, .inl gK)), (pD, .inl (cI, 16, .inl gD)), (pO, .inl (cI, 500, .inl gO))] := hD
    have e_1 : z_X4_take_qm27 p0 p1 = 0 := by simp only [z_X4_take_qm27, if_pos c_1]
    exact ct_vret () hx hb hr hlocks hP hD hS (by rw [e_1]) dX4_take_24
  · skip
    refine lv_iconst (v := 1) hx hb dX4_take_16 (by decide) ?_
    refine lv_goto (tgt := 21) hx hb dX4_take_17 (by decide) ?_
    refine va_put (D := D) (ci := 4) (v := .int 1) (ty := (.int)) (C := RX4) (T := TX4) (N := 28) hx hb hts ilX4 tyX4 tyX4_ok nmX4 hown hK hP hD hS 0 rfl rfl 27 (by decide) (hts _ wf_X4_81) (fun _ h9 => h9) rfl (by decide +kernel) rfl rfl (Nat.le_of_ble_eq_true rfl) dX4_take_21 (fun H locs hP hD hS => ?_)
    have hP : va_P D classes [(qm, .inr (4, [.ref pI, .ref pC, .ref pM, .ref pR, .int nT, .int nL, .int nC, .int nMar, .int nIn, .ref pP, .ref pH, .ref pK, .ref pD, .int nHand, .int nGiv, .int nCyc, .int nWai, .int nSw, .int nBeg, .int nOut, .ref pO, .int nRsel, .int nAluf, .int nBs, .int nF1, .int nF2, .int ((p0 - p1) &&& 65535), .int 1])), (pI, .inl (cI, 1024, .inl gI)), (pC, .inl (cI, 256, .inl gC)), (pM, .inl (cI, 1024, .inl gM)), (pR, .inl (cI, 32, .inl gR)), (pP, .inl (cI, 16, .inl gP)), (pH, .inl (cI, 16, .inl gH)), (pK, .inl (cZ, 16, .inl gK)), (pD, .inl (cI, 16, .inl gD)), (pO, .inl (cI, 500, .inl gO))] H := hP
    have hD : va_D A [(qm, .inr (4, [.ref pI, .ref pC, .ref pM, .ref pR, .int nT, .int nL, .int nC, .int nMar, .int nIn, .ref pP, .ref pH, .ref pK, .ref pD, .int nHand, .int nGiv, .int nCyc, .int nWai, .int nSw, .int nBeg, .int nOut, .ref pO, .int nRsel, .int nAluf, .int nBs, .int nF1, .int nF2, .int ((p0 - p1) &&& 65535), .int 1])), (pI, .inl (cI, 1024, .inl gI)), (pC, .inl (cI, 256, .inl gC)), (pM, .inl (cI, 1024, .inl gM)), (pR, .inl (cI, 32, .inl gR)), (pP, .inl (cI, 16, .inl gP)), (pH, .inl (cI, 16, .inl gH)), (pK, .inl (cZ, 16, .inl gK)), (pD, .inl (cI, 16, .inl gD)), (pO, .inl (cI, 500, .inl gO))] := hD
    have e_1 : z_X4_take_qm27 p0 p1 = 1 := by simp only [z_X4_take_qm27, if_neg c_1]
    exact ct_vret () hx hb hr hlocks hP hD hS (by rw [e_1]) dX4_take_24
def z_X4_reckon_qm26 (nT : Int32) (nC : Int32) (nAluf : Int32) (p0 : Int32) : Int32 := (if nAluf = 0 then p0 else (if nAluf = 1 then nT else (if nAluf = 2 then p0 ||| nT else (if nAluf = 3 then p0 &&& nT else (if nAluf = 4 then p0 ^^^ nT else (if nAluf = 5 then (p0 + 1) &&& 65535 else (if nAluf = 6 then (p0 - 1) &&& 65535 else (if nAluf = 7 then (p0 + nT) &&& 65535 else (if nAluf = 8 then (p0 - nT) &&& 65535 else (if nAluf = 9 then (p0 - (nT + 1)) &&& 65535 else (if nAluf = 10 then ((p0 + nT) + 1) &&& 65535 else (if nAluf = 11 then (p0 + nC) &&& 65535 else (if nAluf = 12 then p0 &&& nT else (if nAluf = 13 then p0 &&& ((65535 : Int32) - nT) else 0))))))))))))))
def z_X4_reckon_qm27 (nT : Int32) (nC : Int32) (nAluf : Int32) (p0 : Int32) : Int32 := (if nAluf = 0 then 0 else (if nAluf = 1 then 0 else (if nAluf = 2 then 0 else (if nAluf = 3 then 0 else (if nAluf = 4 then 0 else (if nAluf = 5 then ((p0 + 1) >>> (16 &&& 31)) &&& 1 else (if nAluf = 6 then z_X4_take_qm27 p0 1 else (if nAluf = 7 then ((p0 + nT) >>> (16 &&& 31)) &&& 1 else (if nAluf = 8 then z_X4_take_qm27 p0 nT else (if nAluf = 9 then z_X4_take_qm27 p0 (nT + 1) else (if nAluf = 10 then (((p0 + nT) + 1) >>> (16 &&& 31)) &&& 1 else (if nAluf = 11 then ((p0 + nC) >>> (16 &&& 31)) &&& 1 else 0))))))))))))
set_option maxHeartbeats 4000000 in
set_option maxRecDepth 100000 in
theorem c_X4_reckon (l : Launch) (D : va_G) (cI cZ : ClassId) (qm : Nat) (pI : Nat) (pC : Nat) (pM : Nat) (pR : Nat) (pP : Nat) (pH : Nat) (pK : Nat) (pD : Nat) (pO : Nat) (gI : Nat → Int32) (gC : Nat → Int32) (gM : Nat → Int32) (gR : Nat → Int32) (gP : Nat → Int32) (gH : Nat → Int32) (gK : Nat → Int32) (gD : Nat → Int32) (gO : Nat → Int32) (nT : Int32) (nL : Int32) (nC : Int32) (nMar : Int32) (nIn : Int32) (nHand : Int32) (nGiv : Int32) (nCyc : Int32) (nWai : Int32) (nSw : Int32) (nBeg : Int32) (nOut : Int32) (nRsel : Int32) (nAluf : Int32) (nBs : Int32) (nF1 : Int32) (nF2 : Int32) (nSum : Int32) (nSc : Int32) (p0 : Int32) : CtV l D classes [(cI, .int), (cZ, .boolean)] yX4_reckon w_X4_reckon { frames := 1, cells := 0, slots := 0, locals := 22 } [.ref qm, .int p0] [(qm, .inr (4, [.ref pI, .ref pC, .ref pM, .ref pR, .int nT, .int nL, .int nC, .int nMar, .int nIn, .ref pP, .ref pH, .ref pK, .ref pD, .int nHand, .int nGiv, .int nCyc, .int nWai, .int nSw, .int nBeg, .int nOut, .ref pO, .int nRsel, .int nAluf, .int nBs, .int nF1, .int nF2, .int nSum, .int nSc])), (pI, .inl (cI, 1024, .inl gI)), (pC, .inl (cI, 256, .inl gC)), (pM, .inl (cI, 1024, .inl gM)), (pR, .inl (cI, 32, .inl gR)), (pP, .inl (cI, 16, .inl gP)), (pH, .inl (cI, 16, .inl gH)), (pK, .inl (cZ, 16, .inl gK)), (pD, .inl (cI, 16, .inl gD)), (pO, .inl (cI, 500, .inl gO))] (fun (_ : Unit) => [(qm, .inr (4, [.ref pI, .ref pC, .ref pM, .ref pR, .int nT, .int nL, .int nC, .int nMar, .int nIn, .ref pP, .ref pH, .ref pK, .ref pD, .int nHand, .int nGiv, .int nCyc, .int nWai, .int nSw, .int nBeg, .int nOut, .ref pO, .int nRsel, .int nAluf, .int nBs, .int nF1, .int nF2, .int (z_X4_reckon_qm26 nT nC nAluf p0), .int (z_X4_reckon_qm27 nT nC nAluf p0)])), (pI, .inl (cI, 1024, .inl gI)), (pC, .inl (cI, 256, .inl gC)), (pM, .inl (cI, 1024, .inl gM)), (pR, .inl (cI, 32, .inl gR)), (pP, .inl (cI, 16, .inl gP)), (pH, .inl (cI, 16, .inl gH)), (pK, .inl (cZ, 16, .inl gK)), (pD, .inl (cI, 16, .inl gD)), (pO, .inl (cI, 500, .inl gO))]) 0 0 := by
  refine CtV.mk (cc := cX4_reckon) (maxL := 2) (ret := none) (by decide) rfl (Nat.le_of_ble_eq_true rfl) ?_
  intro p e s m below meth c A hBeg ls hl
  obtain ⟨hx, hb, hr, hml, hts0, hown, hlocks, hin, hA, hK, hP, hD, hS⟩ := hBeg
  have hts := fun w h => hts0 w (List.mem_cons_of_mem _ h)
  have hown : s.vm.findClass RX4 = some m.cls := hown
  have hl : lv_has ls 2 [(0, .ref qm), (1, .int p0)] := hl
  skip
  refine lv_aload_n hx hb dX4_reckon_0 rfl (lv_at hl 0 rfl) ?_
  refine lv_iconst (v := 0) hx hb dX4_reckon_1 (by decide) ?_
  refine va_put (D := D) (ci := 4) (v := .int 0) (ty := (.int)) (C := RX4) (T := TX4) (N := 28) hx hb hts ilX4 tyX4 tyX4_ok nmX4 hown hK hP hD hS 0 rfl rfl 27 (by decide) (hts _ wf_X4_81) (fun _ h9 => h9) rfl (by decide +kernel) rfl rfl (Nat.le_of_ble_eq_true rfl) dX4_reckon_2 (fun H locs hP hD hS => ?_)
  have hP : va_P D classes [(qm, .inr (4, [.ref pI, .ref pC, .ref pM, .ref pR, .int nT, .int nL, .int nC, .int nMar, .int nIn, .ref pP, .ref pH, .ref pK, .ref pD, .int nHand, .int nGiv, .int nCyc, .int nWai, .int nSw, .int nBeg, .int nOut, .ref pO, .int nRsel, .int nAluf, .int nBs, .int nF1, .int nF2, .int nSum, .int 0])), (pI, .inl (cI, 1024, .inl gI)), (pC, .inl (cI, 256, .inl gC)), (pM, .inl (cI, 1024, .inl gM)), (pR, .inl (cI, 32, .inl gR)), (pP, .inl (cI, 16, .inl gP)), (pH, .inl (cI, 16, .inl gH)), (pK, .inl (cZ, 16, .inl gK)), (pD, .inl (cI, 16, .inl gD)), (pO, .inl (cI, 500, .inl gO))] H := hP
  have hD : va_D A [(qm, .inr (4, [.ref pI, .ref pC, .ref pM, .ref pR, .int nT, .int nL, .int nC, .int nMar, .int nIn, .ref pP, .ref pH, .ref pK, .ref pD, .int nHand, .int nGiv, .int nCyc, .int nWai, .int nSw, .int nBeg, .int nOut, .ref pO, .int nRsel, .int nAluf, .int nBs, .int nF1, .int nF2, .int nSum, .int 0])), (pI, .inl (cI, 1024, .inl gI)), (pC, .inl (cI, 256, .inl gC)), (pM, .inl (cI, 1024, .inl gM)), (pR, .inl (cI, 32, .inl gR)), (pP, .inl (cI, 16, .inl gP)), (pH, .inl (cI, 16, .inl gH)), (pK, .inl (cZ, 16, .inl gK)), (pD, .inl (cI, 16, .inl gD)), (pO, .inl (cI, 500, .inl gO))] := hD
  refine lv_aload_n hx hb dX4_reckon_5 rfl (lv_at hl 0 rfl) ?_
  refine va_get (D := D) (ci := 4) (v := .int nAluf) (C := RX4) (T := TX4) (N := 28) hx hb hts ilX4 hown hK hP 0 rfl rfl 22 (by decide) (hts _ wf_X4_84) (fun _ h9 => h9) rfl dX4_reckon_6 ?_
  by_cases s_1 : nAluf = 0
  · skip
    refine lv_tableIn (tgt := 80) (off := 71) hx hb dX4_reckon_9 (by rw [s_1]; decide) (by rw [s_1]; decide) (by rw [s_1]; rfl) (by decide) ?_
    refine lv_aload_n hx hb dX4_reckon_80 rfl (lv_at hl 0 rfl) ?_
    refine lv_iload_n hx hb dX4_reckon_81 rfl (lv_at hl 1 rfl) ?_
    refine va_put (D := D) (ci := 4) (v := .int p0) (ty := (.int)) (C := RX4) (T := TX4) (N := 28) hx hb hts ilX4 tyX4 tyX4_ok nmX4 hown hK hP hD hS 0 rfl rfl 26 (by decide) (hts _ wf_X4_78) (fun _ h9 => h9) rfl (by decide +kernel) rfl rfl (Nat.le_of_ble_eq_true rfl) dX4_reckon_82 (fun H locs hP hD hS => ?_)
    have hP : va_P D classes [(qm, .inr (4, [.ref pI, .ref pC, .ref pM, .ref pR, .int nT, .int nL, .int nC, .int nMar, .int nIn, .ref pP, .ref pH, .ref pK, .ref pD, .int nHand, .int nGiv, .int nCyc, .int nWai, .int nSw, .int nBeg, .int nOut, .ref pO, .int nRsel, .int nAluf, .int nBs, .int nF1, .int nF2, .int p0, .int 0])), (pI, .inl (cI, 1024, .inl gI)), (pC, .inl (cI, 256, .inl gC)), (pM, .inl (cI, 1024, .inl gM)), (pR, .inl (cI, 32, .inl gR)), (pP, .inl (cI, 16, .inl gP)), (pH, .inl (cI, 16, .inl gH)), (pK, .inl (cZ, 16, .inl gK)), (pD, .inl (cI, 16, .inl gD)), (pO, .inl (cI, 500, .inl gO))] H := hP
    have hD : va_D A [(qm, .inr (4, [.ref pI, .ref pC, .ref pM, .ref pR, .int nT, .int nL, .int nC, .int nMar, .int nIn, .ref pP, .ref pH, .ref pK, .ref pD, .int nHand, .int nGiv, .int nCyc, .int nWai, .int nSw, .int nBeg, .int nOut, .ref pO, .int nRsel, .int nAluf, .int nBs, .int nF1, .int nF2, .int p0, .int 0])), (pI, .inl (cI, 1024, .inl gI)), (pC, .inl (cI, 256, .inl gC)), (pM, .inl (cI, 1024, .inl gM)), (pR, .inl (cI, 32, .inl gR)), (pP, .inl (cI, 16, .inl gP)), (pH, .inl (cI, 16, .inl gH)), (pK, .inl (cZ, 16, .inl gK)), (pD, .inl (cI, 16, .inl gD)), (pO, .inl (cI, 500, .inl gO))] := hD
    refine lv_goto (tgt := 245) hx hb dX4_reckon_85 (by decide) ?_
    have e_1 : z_X4_reckon_qm26 nT nC nAluf p0 = p0 := by simp only [z_X4_reckon_qm26, if_pos s_1]
    have e_2 : z_X4_reckon_qm27 nT nC nAluf p0 = 0 := by simp only [z_X4_reckon_qm27, if_pos s_1]
    exact ct_vret () hx hb hr hlocks hP hD hS (by rw [e_1, e_2]) dX4_reckon_245
  by_cases s_2 : nAluf = 1
  · skip
    refine lv_tableIn (tgt := 88) (off := 79) hx hb dX4_reckon_9 (by rw [s_2]; decide) (by rw [s_2]; decide) (by rw [s_2]; rfl) (by decide) ?_
    refine lv_aload_n hx hb dX4_reckon_88 rfl (lv_at hl 0 rfl) ?_
    refine lv_aload_n hx hb dX4_reckon_89 rfl (lv_at hl 0 rfl) ?_
    refine va_get (D := D) (ci := 4) (v := .int nT) (C := RX4) (T := TX4) (N := 28) hx hb hts ilX4 hown hK hP 0 rfl rfl 4 (by decide) (hts _ wf_X4_87) (fun _ h9 => h9) rfl dX4_reckon_90 ?_
    refine va_put (D := D) (ci := 4) (v := .int nT) (ty := (.int)) (C := RX4) (T := TX4) (N := 28) hx hb hts ilX4 tyX4 tyX4_ok nmX4 hown hK hP hD hS 0 rfl rfl 26 (by decide) (hts _ wf_X4_78) (fun _ h9 => h9) rfl (by decide +kernel) rfl rfl (Nat.le_of_ble_eq_true rfl) dX4_reckon_93 (fun H locs hP hD hS => ?_)
    have hP : va_P D classes [(qm, .inr (4, [.ref pI, .ref pC, .ref pM, .ref pR, .int nT, .int nL, .int nC, .int nMar, .int nIn, .ref pP, .ref pH, .ref pK, .ref pD, .int nHand, .int nGiv, .int nCyc, .int nWai, .int nSw, .int nBeg, .int nOut, .ref pO, .int nRsel, .int nAluf, .int nBs, .int nF1, .int nF2, .int nT, .int 0])), (pI, .inl (cI, 1024, .inl gI)), (pC, .inl (cI, 256, .inl gC)), (pM, .inl (cI, 1024, .inl gM)), (pR, .inl (cI, 32, .inl gR)), (pP, .inl (cI, 16, .inl gP)), (pH, .inl (cI, 16, .inl gH)), (pK, .inl (cZ, 16, .inl gK)), (pD, .inl (cI, 16, .inl gD)), (pO, .inl (cI, 500, .inl gO))] H := hP
    have hD : va_D A [(qm, .inr (4, [.ref pI, .ref pC, .ref pM, .ref pR, .int nT, .int nL, .int nC, .int nMar, .int nIn, .ref pP, .ref pH, .ref pK, .ref pD, .int nHand, .int nGiv, .int nCyc, .int nWai, .int nSw, .int nBeg, .int nOut, .ref pO, .int nRsel, .int nAluf, .int nBs, .int nF1, .int nF2, .int nT, .int 0])), (pI, .inl (cI, 1024, .inl gI)), (pC, .inl (cI, 256, .inl gC)), (pM, .inl (cI, 1024, .inl gM)), (pR, .inl (cI, 32, .inl gR)), (pP, .inl (cI, 16, .inl gP)), (pH, .inl (cI, 16, .inl gH)), (pK, .inl (cZ, 16, .inl gK)), (pD, .inl (cI, 16, .inl gD)), (pO, .inl (cI, 500, .inl gO))] := hD
    refine lv_goto (tgt := 245) hx hb dX4_reckon_96 (by decide) ?_
    have e_1 : z_X4_reckon_qm26 nT nC nAluf p0 = nT := by simp only [z_X4_reckon_qm26, if_neg s_1, if_pos s_2]
    have e_2 : z_X4_reckon_qm27 nT nC nAluf p0 = 0 := by simp only [z_X4_reckon_qm27, if_neg s_1, if_pos s_2]
    exact ct_vret () hx hb hr hlocks hP hD hS (by rw [e_1, e_2]) dX4_reckon_245
  by_cases s_3 : nAluf = 2
  · skip
    refine lv_tableIn (tgt := 99) (off := 90) hx hb dX4_reckon_9 (by rw [s_3]; decide) (by rw [s_3]; decide) (by rw [s_3]; rfl) (by decide) ?_
    refine lv_aload_n hx hb dX4_reckon_99 rfl (lv_at hl 0 rfl) ?_
    refine lv_iload_n hx hb dX4_reckon_100 rfl (lv_at hl 1 rfl) ?_
    refine lv_aload_n hx hb dX4_reckon_101 rfl (lv_at hl 0 rfl) ?_
    refine va_get (D := D) (ci := 4) (v := .int nT) (C := RX4) (T := TX4) (N := 28) hx hb hts ilX4 hown hK hP 0 rfl rfl 4 (by decide) (hts _ wf_X4_87) (fun _ h9 => h9) rfl dX4_reckon_102 ?_
    refine lv_ior hx hb dX4_reckon_105 ?_
    refine va_put (D := D) (ci := 4) (v := .int (p0 ||| nT)) (ty := (.int)) (C := RX4) (T := TX4) (N := 28) hx hb hts ilX4 tyX4 tyX4_ok nmX4 hown hK hP hD hS 0 rfl rfl 26 (by decide) (hts _ wf_X4_78) (fun _ h9 => h9) rfl (by decide +kernel) rfl rfl (Nat.le_of_ble_eq_true rfl) dX4_reckon_106 (fun H locs hP hD hS => ?_)
    have hP : va_P D classes [(qm, .inr (4, [.ref pI, .ref pC, .ref pM, .ref pR, .int nT, .int nL, .int nC, .int nMar, .int nIn, .ref pP, .ref pH, .ref pK, .ref pD, .int nHand, .int nGiv, .int nCyc, .int nWai, .int nSw, .int nBeg, .int nOut, .ref pO, .int nRsel, .int nAluf, .int nBs, .int nF1, .int nF2, .int (p0 ||| nT), .int 0])), (pI, .inl (cI, 1024, .inl gI)), (pC, .inl (cI, 256, .inl gC)), (pM, .inl (cI, 1024, .inl gM)), (pR, .inl (cI, 32, .inl gR)), (pP, .inl (cI, 16, .inl gP)), (pH, .inl (cI, 16, .inl gH)), (pK, .inl (cZ, 16, .inl gK)), (pD, .inl (cI, 16, .inl gD)), (pO, .inl (cI, 500, .inl gO))] H := hP
    have hD : va_D A [(qm, .inr (4, [.ref pI, .ref pC, .ref pM, .ref pR, .int nT, .int nL, .int nC, .int nMar, .int nIn, .ref pP, .ref pH, .ref pK, .ref pD, .int nHand, .int nGiv, .int nCyc, .int nWai, .int nSw, .int nBeg, .int nOut, .ref pO, .int nRsel, .int nAluf, .int nBs, .int nF1, .int nF2, .int (p0 ||| nT), .int 0])), (pI, .inl (cI, 1024, .inl gI)), (pC, .inl (cI, 256, .inl gC)), (pM, .inl (cI, 1024, .inl gM)), (pR, .inl (cI, 32, .inl gR)), (pP, .inl (cI, 16, .inl gP)), (pH, .inl (cI, 16, .inl gH)), (pK, .inl (cZ, 16, .inl gK)), (pD, .inl (cI, 16, .inl gD)), (pO, .inl (cI, 500, .inl gO))] := hD
    refine lv_goto (tgt := 245) hx hb dX4_reckon_109 (by decide) ?_
    have e_1 : z_X4_reckon_qm26 nT nC nAluf p0 = p0 ||| nT := by simp only [z_X4_reckon_qm26, if_neg s_1, if_neg s_2, if_pos s_3]
    have e_2 : z_X4_reckon_qm27 nT nC nAluf p0 = 0 := by simp only [z_X4_reckon_qm27, if_neg s_1, if_neg s_2, if_pos s_3]
    exact ct_vret () hx hb hr hlocks hP hD hS (by rw [e_1, e_2]) dX4_reckon_245
  by_cases s_4 : nAluf = 3
  · skip
    refine lv_tableIn (tgt := 112) (off := 103) hx hb dX4_reckon_9 (by rw [s_4]; decide) (by rw [s_4]; decide) (by rw [s_4]; rfl) (by decide) ?_
    refine lv_aload_n hx hb dX4_reckon_112 rfl (lv_at hl 0 rfl) ?_
    refine lv_iload_n hx hb dX4_reckon_113 rfl (lv_at hl 1 rfl) ?_
    refine lv_aload_n hx hb dX4_reckon_114 rfl (lv_at hl 0 rfl) ?_
    refine va_get (D := D) (ci := 4) (v := .int nT) (C := RX4) (T := TX4) (N := 28) hx hb hts ilX4 hown hK hP 0 rfl rfl 4 (by decide) (hts _ wf_X4_87) (fun _ h9 => h9) rfl dX4_reckon_115 ?_
    refine lv_iand hx hb dX4_reckon_118 ?_
    refine va_put (D := D) (ci := 4) (v := .int (p0 &&& nT)) (ty := (.int)) (C := RX4) (T := TX4) (N := 28) hx hb hts ilX4 tyX4 tyX4_ok nmX4 hown hK hP hD hS 0 rfl rfl 26 (by decide) (hts _ wf_X4_78) (fun _ h9 => h9) rfl (by decide +kernel) rfl rfl (Nat.le_of_ble_eq_true rfl) dX4_reckon_119 (fun H locs hP hD hS => ?_)
    have hP : va_P D classes [(qm, .inr (4, [.ref pI, .ref pC, .ref pM, .ref pR, .int nT, .int nL, .int nC, .int nMar, .int nIn, .ref pP, .ref pH, .ref pK, .ref pD, .int nHand, .int nGiv, .int nCyc, .int nWai, .int nSw, .int nBeg, .int nOut, .ref pO, .int nRsel, .int nAluf, .int nBs, .int nF1, .int nF2, .int (p0 &&& nT), .int 0])), (pI, .inl (cI, 1024, .inl gI)), (pC, .inl (cI, 256, .inl gC)), (pM, .inl (cI, 1024, .inl gM)), (pR, .inl (cI, 32, .inl gR)), (pP, .inl (cI, 16, .inl gP)), (pH, .inl (cI, 16, .inl gH)), (pK, .inl (cZ, 16, .inl gK)), (pD, .inl (cI, 16, .inl gD)), (pO, .inl (cI, 500, .inl gO))] H := hP
    have hD : va_D A [(qm, .inr (4, [.ref pI, .ref pC, .ref pM, .ref pR, .int nT, .int nL, .int nC, .int nMar, .int nIn, .ref pP, .ref pH, .ref pK, .ref pD, .int nHand, .int nGiv, .int nCyc, .int nWai, .int nSw, .int nBeg, .int nOut, .ref pO, .int nRsel, .int nAluf, .int nBs, .int nF1, .int nF2, .int (p0 &&& nT), .int 0])), (pI, .inl (cI, 1024, .inl gI)), (pC, .inl (cI, 256, .inl gC)), (pM, .inl (cI, 1024, .inl gM)), (pR, .inl (cI, 32, .inl gR)), (pP, .inl (cI, 16, .inl gP)), (pH, .inl (cI, 16, .inl gH)), (pK, .inl (cZ, 16, .inl gK)), (pD, .inl (cI, 16, .inl gD)), (pO, .inl (cI, 500, .inl gO))] := hD
    refine lv_goto (tgt := 245) hx hb dX4_reckon_122 (by decide) ?_
    have e_1 : z_X4_reckon_qm26 nT nC nAluf p0 = p0 &&& nT := by simp only [z_X4_reckon_qm26, if_neg s_1, if_neg s_2, if_neg s_3, if_pos s_4]
    have e_2 : z_X4_reckon_qm27 nT nC nAluf p0 = 0 := by simp only [z_X4_reckon_qm27, if_neg s_1, if_neg s_2, if_neg s_3, if_pos s_4]
    exact ct_vret () hx hb hr hlocks hP hD hS (by rw [e_1, e_2]) dX4_reckon_245
  by_cases s_5 : nAluf = 4
  · skip
    refine lv_tableIn (tgt := 125) (off := 116) hx hb dX4_reckon_9 (by rw [s_5]; decide) (by rw [s_5]; decide) (by rw [s_5]; rfl) (by decide) ?_
    refine lv_aload_n hx hb dX4_reckon_125 rfl (lv_at hl 0 rfl) ?_
    refine lv_iload_n hx hb dX4_reckon_126 rfl (lv_at hl 1 rfl) ?_
    refine lv_aload_n hx hb dX4_reckon_127 rfl (lv_at hl 0 rfl) ?_
    refine va_get (D := D) (ci := 4) (v := .int nT) (C := RX4) (T := TX4) (N := 28) hx hb hts ilX4 hown hK hP 0 rfl rfl 4 (by decide) (hts _ wf_X4_87) (fun _ h9 => h9) rfl dX4_reckon_128 ?_
    refine lv_ixor hx hb dX4_reckon_131 ?_
    refine va_put (D := D) (ci := 4) (v := .int (p0 ^^^ nT)) (ty := (.int)) (C := RX4) (T := TX4) (N := 28) hx hb hts ilX4 tyX4 tyX4_ok nmX4 hown hK hP hD hS 0 rfl rfl 26 (by decide) (hts _ wf_X4_78) (fun _ h9 => h9) rfl (by decide +kernel) rfl rfl (Nat.le_of_ble_eq_true rfl) dX4_reckon_132 (fun H locs hP hD hS => ?_)
    have hP : va_P D classes [(qm, .inr (4, [.ref pI, .ref pC, .ref pM, .ref pR, .int nT, .int nL, .int nC, .int nMar, .int nIn, .ref pP, .ref pH, .ref pK, .ref pD, .int nHand, .int nGiv, .int nCyc, .int nWai, .int nSw, .int nBeg, .int nOut, .ref pO, .int nRsel, .int nAluf, .int nBs, .int nF1, .int nF2, .int (p0 ^^^ nT), .int 0])), (pI, .inl (cI, 1024, .inl gI)), (pC, .inl (cI, 256, .inl gC)), (pM, .inl (cI, 1024, .inl gM)), (pR, .inl (cI, 32, .inl gR)), (pP, .inl (cI, 16, .inl gP)), (pH, .inl (cI, 16, .inl gH)), (pK, .inl (cZ, 16, .inl gK)), (pD, .inl (cI, 16, .inl gD)), (pO, .inl (cI, 500, .inl gO))] H := hP
    have hD : va_D A [(qm, .inr (4, [.ref pI, .ref pC, .ref pM, .ref pR, .int nT, .int nL, .int nC, .int nMar, .int nIn, .ref pP, .ref pH, .ref pK, .ref pD, .int nHand, .int nGiv, .int nCyc, .int nWai, .int nSw, .int nBeg, .int nOut, .ref pO, .int nRsel, .int nAluf, .int nBs, .int nF1, .int nF2, .int (p0 ^^^ nT), .int 0])), (pI, .inl (cI, 1024, .inl gI)), (pC, .inl (cI, 256, .inl gC)), (pM, .inl (cI, 1024, .inl gM)), (pR, .inl (cI, 32, .inl gR)), (pP, .inl (cI, 16, .inl gP)), (pH, .inl (cI, 16, .inl gH)), (pK, .inl (cZ, 16, .inl gK)), (pD, .inl (cI, 16, .inl gD)), (pO, .inl (cI, 500, .inl gO))] := hD
    refine lv_goto (tgt := 245) hx hb dX4_reckon_135 (by decide) ?_
    have e_1 : z_X4_reckon_qm26 nT nC nAluf p0 = p0 ^^^ nT := by simp only [z_X4_reckon_qm26, if_neg s_1, if_neg s_2, if_neg s_3, if_neg s_4, if_pos s_5]
    have e_2 : z_X4_reckon_qm27 nT nC nAluf p0 = 0 := by simp only [z_X4_reckon_qm27, if_neg s_1, if_neg s_2, if_neg s_3, if_neg s_4, if_pos s_5]
    exact ct_vret () hx hb hr hlocks hP hD hS (by rw [e_1, e_2]) dX4_reckon_245
  by_cases s_6 : nAluf = 5
  · skip
    refine lv_tableIn (tgt := 138) (off := 129) hx hb dX4_reckon_9 (by rw [s_6]; decide) (by rw [s_6]; decide) (by rw [s_6]; rfl) (by decide) ?_
    refine lv_aload_n hx hb dX4_reckon_138 rfl (lv_at hl 0 rfl) ?_
    refine lv_iload_n hx hb dX4_reckon_139 rfl (lv_at hl 1 rfl) ?_
    refine lv_iconst (v := 1) hx hb dX4_reckon_140 (by decide) ?_
    refine lv_iadd hx hb dX4_reckon_141 ?_
    refine ctV_V (As := [.int (p0 + 1)]) (rest := []) (wc := [(qm, .inr (4, [.ref pI, .ref pC, .ref pM, .ref pR, .int nT, .int nL, .int nC, .int nMar, .int nIn, .ref pP, .ref pH, .ref pK, .ref pD, .int nHand, .int nGiv, .int nCyc, .int nWai, .int nSw, .int nBeg, .int nOut, .ref pO, .int nRsel, .int nAluf, .int nBs, .int nF1, .int nF2, .int nSum, .int 0])), (pI, .inl (cI, 1024, .inl gI)), (pC, .inl (cI, 256, .inl gC)), (pM, .inl (cI, 1024, .inl gM)), (pR, .inl (cI, 32, .inl gR)), (pP, .inl (cI, 16, .inl gP)), (pH, .inl (cI, 16, .inl gH)), (pK, .inl (cZ, 16, .inl gK)), (pD, .inl (cI, 16, .inl gD)), (pO, .inl (cI, 500, .inl gO))]) (wr := []) ⟨hx, hb, hml, hown, hts⟩ (c_X4_add l D cI cZ qm pI pC pM pR pP pH pK pD pO gI gC gM gR gP gH gK gD gO nT nL nC nMar nIn nHand nGiv nCyc nWai nSw nBeg nOut nRsel nAluf nBs nF1 nF2 nSum 0 (p0 + 1)) (cwV 1 hts (gd_V wm_X4_90 wi_X4_add ws_X4_add wz_X4 wo_X4_add) rfl rfl rfl (by decide +kernel) ⟨Nat.le_of_ble_eq_true rfl, Nat.le_of_ble_eq_true rfl⟩) hK hP hD hS hA 0 rfl rfl rfl [0, 1, 2, 3, 4, 5, 6, 7, 8, 9] [] rfl rfl (by decide) (by decide) (by decide) rfl rfl hl.1 (Nat.le_of_ble_eq_true rfl) dX4_reckon_142 ⟨Nat.le_of_ble_eq_true rfl, Nat.le_of_ble_eq_true rfl⟩ (fun u H locs hP hD hS => ?_)
    have hP : va_P D classes [(qm, .inr (4, [.ref pI, .ref pC, .ref pM, .ref pR, .int nT, .int nL, .int nC, .int nMar, .int nIn, .ref pP, .ref pH, .ref pK, .ref pD, .int nHand, .int nGiv, .int nCyc, .int nWai, .int nSw, .int nBeg, .int nOut, .ref pO, .int nRsel, .int nAluf, .int nBs, .int nF1, .int nF2, .int ((p0 + 1) &&& 65535), .int (((p0 + 1) >>> (16 &&& 31)) &&& 1)])), (pI, .inl (cI, 1024, .inl gI)), (pC, .inl (cI, 256, .inl gC)), (pM, .inl (cI, 1024, .inl gM)), (pR, .inl (cI, 32, .inl gR)), (pP, .inl (cI, 16, .inl gP)), (pH, .inl (cI, 16, .inl gH)), (pK, .inl (cZ, 16, .inl gK)), (pD, .inl (cI, 16, .inl gD)), (pO, .inl (cI, 500, .inl gO))] H := hP
    have hD : va_D A [(qm, .inr (4, [.ref pI, .ref pC, .ref pM, .ref pR, .int nT, .int nL, .int nC, .int nMar, .int nIn, .ref pP, .ref pH, .ref pK, .ref pD, .int nHand, .int nGiv, .int nCyc, .int nWai, .int nSw, .int nBeg, .int nOut, .ref pO, .int nRsel, .int nAluf, .int nBs, .int nF1, .int nF2, .int ((p0 + 1) &&& 65535), .int (((p0 + 1) >>> (16 &&& 31)) &&& 1)])), (pI, .inl (cI, 1024, .inl gI)), (pC, .inl (cI, 256, .inl gC)), (pM, .inl (cI, 1024, .inl gM)), (pR, .inl (cI, 32, .inl gR)), (pP, .inl (cI, 16, .inl gP)), (pH, .inl (cI, 16, .inl gH)), (pK, .inl (cZ, 16, .inl gK)), (pD, .inl (cI, 16, .inl gD)), (pO, .inl (cI, 500, .inl gO))] := hD
    refine lv_goto (tgt := 245) hx hb dX4_reckon_145 (by decide) ?_
    have e_1 : z_X4_reckon_qm26 nT nC nAluf p0 = (p0 + 1) &&& 65535 := by simp only [z_X4_reckon_qm26, if_neg s_1, if_neg s_2, if_neg s_3, if_neg s_4, if_neg s_5, if_pos s_6]
    have e_2 : z_X4_reckon_qm27 nT nC nAluf p0 = ((p0 + 1) >>> (16 &&& 31)) &&& 1 := by simp only [z_X4_reckon_qm27, if_neg s_1, if_neg s_2, if_neg s_3, if_neg s_4, if_neg s_5, if_pos s_6]
    exact ct_vret () hx hb hr hlocks hP hD hS (by rw [e_1, e_2]) dX4_reckon_245
  by_cases s_7 : nAluf = 6
  · skip
    refine lv_tableIn (tgt := 148) (off := 139) hx hb dX4_reckon_9 (by rw [s_7]; decide) (by rw [s_7]; decide) (by rw [s_7]; rfl) (by decide) ?_
    refine lv_aload_n hx hb dX4_reckon_148 rfl (lv_at hl 0 rfl) ?_
    refine lv_iload_n hx hb dX4_reckon_149 rfl (lv_at hl 1 rfl) ?_
    refine lv_iconst (v := 1) hx hb dX4_reckon_150 (by decide) ?_
    refine ctV_V (As := [.int p0, .int 1]) (rest := []) (wc := [(qm, .inr (4, [.ref pI, .ref pC, .ref pM, .ref pR, .int nT, .int nL, .int nC, .int nMar, .int nIn, .ref pP, .ref pH, .ref pK, .ref pD, .int nHand, .int nGiv, .int nCyc, .int nWai, .int nSw, .int nBeg, .int nOut, .ref pO, .int nRsel, .int nAluf, .int nBs, .int nF1, .int nF2, .int nSum, .int 0])), (pI, .inl (cI, 1024, .inl gI)), (pC, .inl (cI, 256, .inl gC)), (pM, .inl (cI, 1024, .inl gM)), (pR, .inl (cI, 32, .inl gR)), (pP, .inl (cI, 16, .inl gP)), (pH, .inl (cI, 16, .inl gH)), (pK, .inl (cZ, 16, .inl gK)), (pD, .inl (cI, 16, .inl gD)), (pO, .inl (cI, 500, .inl gO))]) (wr := []) ⟨hx, hb, hml, hown, hts⟩ (c_X4_take l D cI cZ qm pI pC pM pR pP pH pK pD pO gI gC gM gR gP gH gK gD gO nT nL nC nMar nIn nHand nGiv nCyc nWai nSw nBeg nOut nRsel nAluf nBs nF1 nF2 nSum 0 p0 1) (cwV 2 hts (gd_V wm_X4_94 wi_X4_take ws_X4_take wz_X4 wo_X4_take) rfl rfl rfl (by decide +kernel) ⟨Nat.le_of_ble_eq_true rfl, Nat.le_of_ble_eq_true rfl⟩) hK hP hD hS hA 0 rfl rfl rfl [0, 1, 2, 3, 4, 5, 6, 7, 8, 9] [] rfl rfl (by decide) (by decide) (by decide) rfl rfl hl.1 (Nat.le_of_ble_eq_true rfl) dX4_reckon_151 ⟨Nat.le_of_ble_eq_true rfl, Nat.le_of_ble_eq_true rfl⟩ (fun u H locs hP hD hS => ?_)
    have hP : va_P D classes [(qm, .inr (4, [.ref pI, .ref pC, .ref pM, .ref pR, .int nT, .int nL, .int nC, .int nMar, .int nIn, .ref pP, .ref pH, .ref pK, .ref pD, .int nHand, .int nGiv, .int nCyc, .int nWai, .int nSw, .int nBeg, .int nOut, .ref pO, .int nRsel, .int nAluf, .int nBs, .int nF1, .int nF2, .int ((p0 - 1) &&& 65535), .int (z_X4_take_qm27 p0 1)])), (pI, .inl (cI, 1024, .inl gI)), (pC, .inl (cI, 256, .inl gC)), (pM, .inl (cI, 1024, .inl gM)), (pR, .inl (cI, 32, .inl gR)), (pP, .inl (cI, 16, .inl gP)), (pH, .inl (cI, 16, .inl gH)), (pK, .inl (cZ, 16, .inl gK)), (pD, .inl (cI, 16, .inl gD)), (pO, .inl (cI, 500, .inl gO))] H := hP
    have hD : va_D A [(qm, .inr (4, [.ref pI, .ref pC, .ref pM, .ref pR, .int nT, .int nL, .int nC, .int nMar, .int nIn, .ref pP, .ref pH, .ref pK, .ref pD, .int nHand, .int nGiv, .int nCyc, .int nWai, .int nSw, .int nBeg, .int nOut, .ref pO, .int nRsel, .int nAluf, .int nBs, .int nF1, .int nF2, .int ((p0 - 1) &&& 65535), .int (z_X4_take_qm27 p0 1)])), (pI, .inl (cI, 1024, .inl gI)), (pC, .inl (cI, 256, .inl gC)), (pM, .inl (cI, 1024, .inl gM)), (pR, .inl (cI, 32, .inl gR)), (pP, .inl (cI, 16, .inl gP)), (pH, .inl (cI, 16, .inl gH)), (pK, .inl (cZ, 16, .inl gK)), (pD, .inl (cI, 16, .inl gD)), (pO, .inl (cI, 500, .inl gO))] := hD
    refine lv_goto (tgt := 245) hx hb dX4_reckon_154 (by decide) ?_
    have e_1 : z_X4_reckon_qm26 nT nC nAluf p0 = (p0 - 1) &&& 65535 := by simp only [z_X4_reckon_qm26, if_neg s_1, if_neg s_2, if_neg s_3, if_neg s_4, if_neg s_5, if_neg s_6, if_pos s_7]
    have e_2 : z_X4_reckon_qm27 nT nC nAluf p0 = z_X4_take_qm27 p0 1 := by simp only [z_X4_reckon_qm27, if_neg s_1, if_neg s_2, if_neg s_3, if_neg s_4, if_neg s_5, if_neg s_6, if_pos s_7]
    exact ct_vret () hx hb hr hlocks hP hD hS (by rw [e_1, e_2]) dX4_reckon_245
  by_cases s_8 : nAluf = 7
  · skip
    refine lv_tableIn (tgt := 157) (off := 148) hx hb dX4_reckon_9 (by rw [s_8]; decide) (by rw [s_8]; decide) (by rw [s_8]; rfl) (by decide) ?_
    refine lv_aload_n hx hb dX4_reckon_157 rfl (lv_at hl 0 rfl) ?_
    refine lv_iload_n hx hb dX4_reckon_158 rfl (lv_at hl 1 rfl) ?_
    refine lv_aload_n hx hb dX4_reckon_159 rfl (lv_at hl 0 rfl) ?_
    refine va_get (D := D) (ci := 4) (v := .int nT) (C := RX4) (T := TX4) (N := 28) hx hb hts ilX4 hown hK hP 0 rfl rfl 4 (by decide) (hts _ wf_X4_87) (fun _ h9 => h9) rfl dX4_reckon_160 ?_
    refine lv_iadd hx hb dX4_reckon_163 ?_
    refine ctV_V (As := [.int (p0 + nT)]) (rest := []) (wc := [(qm, .inr (4, [.ref pI, .ref pC, .ref pM, .ref pR, .int nT, .int nL, .int nC, .int nMar, .int nIn, .ref pP, .ref pH, .ref pK, .ref pD, .int nHand, .int nGiv, .int nCyc, .int nWai, .int nSw, .int nBeg, .int nOut, .ref pO, .int nRsel, .int nAluf, .int nBs, .int nF1, .int nF2, .int nSum, .int 0])), (pI, .inl (cI, 1024, .inl gI)), (pC, .inl (cI, 256, .inl gC)), (pM, .inl (cI, 1024, .inl gM)), (pR, .inl (cI, 32, .inl gR)), (pP, .inl (cI, 16, .inl gP)), (pH, .inl (cI, 16, .inl gH)), (pK, .inl (cZ, 16, .inl gK)), (pD, .inl (cI, 16, .inl gD)), (pO, .inl (cI, 500, .inl gO))]) (wr := []) ⟨hx, hb, hml, hown, hts⟩ (c_X4_add l D cI cZ qm pI pC pM pR pP pH pK pD pO gI gC gM gR gP gH gK gD gO nT nL nC nMar nIn nHand nGiv nCyc nWai nSw nBeg nOut nRsel nAluf nBs nF1 nF2 nSum 0 (p0 + nT)) (cwV 1 hts (gd_V wm_X4_90 wi_X4_add ws_X4_add wz_X4 wo_X4_add) rfl rfl rfl (by decide +kernel) ⟨Nat.le_of_ble_eq_true rfl, Nat.le_of_ble_eq_true rfl⟩) hK hP hD hS hA 0 rfl rfl rfl [0, 1, 2, 3, 4, 5, 6, 7, 8, 9] [] rfl rfl (by decide) (by decide) (by decide) rfl rfl hl.1 (Nat.le_of_ble_eq_true rfl) dX4_reckon_164 ⟨Nat.le_of_ble_eq_true rfl, Nat.le_of_ble_eq_true rfl⟩ (fun u H locs hP hD hS => ?_)
    have hP : va_P D classes [(qm, .inr (4, [.ref pI, .ref pC, .ref pM, .ref pR, .int nT, .int nL, .int nC, .int nMar, .int nIn, .ref pP, .ref pH, .ref pK, .ref pD, .int nHand, .int nGiv, .int nCyc, .int nWai, .int nSw, .int nBeg, .int nOut, .ref pO, .int nRsel, .int nAluf, .int nBs, .int nF1, .int nF2, .int ((p0 + nT) &&& 65535), .int (((p0 + nT) >>> (16 &&& 31)) &&& 1)])), (pI, .inl (cI, 1024, .inl gI)), (pC, .inl (cI, 256, .inl gC)), (pM, .inl (cI, 1024, .inl gM)), (pR, .inl (cI, 32, .inl gR)), (pP, .inl (cI, 16, .inl gP)), (pH, .inl (cI, 16, .inl gH)), (pK, .inl (cZ, 16, .inl gK)), (pD, .inl (cI, 16, .inl gD)), (pO, .inl (cI, 500, .inl gO))] H := hP
    have hD : va_D A [(qm, .inr (4, [.ref pI, .ref pC, .ref pM, .ref pR, .int nT, .int nL, .int nC, .int nMar, .int nIn, .ref pP, .ref pH, .ref pK, .ref pD, .int nHand, .int nGiv, .int nCyc, .int nWai, .int nSw, .int nBeg, .int nOut, .ref pO, .int nRsel, .int nAluf, .int nBs, .int nF1, .int nF2, .int ((p0 + nT) &&& 65535), .int (((p0 + nT) >>> (16 &&& 31)) &&& 1)])), (pI, .inl (cI, 1024, .inl gI)), (pC, .inl (cI, 256, .inl gC)), (pM, .inl (cI, 1024, .inl gM)), (pR, .inl (cI, 32, .inl gR)), (pP, .inl (cI, 16, .inl gP)), (pH, .inl (cI, 16, .inl gH)), (pK, .inl (cZ, 16, .inl gK)), (pD, .inl (cI, 16, .inl gD)), (pO, .inl (cI, 500, .inl gO))] := hD
    refine lv_goto (tgt := 245) hx hb dX4_reckon_167 (by decide) ?_
    have e_1 : z_X4_reckon_qm26 nT nC nAluf p0 = (p0 + nT) &&& 65535 := by simp only [z_X4_reckon_qm26, if_neg s_1, if_neg s_2, if_neg s_3, if_neg s_4, if_neg s_5, if_neg s_6, if_neg s_7, if_pos s_8]
    have e_2 : z_X4_reckon_qm27 nT nC nAluf p0 = ((p0 + nT) >>> (16 &&& 31)) &&& 1 := by simp only [z_X4_reckon_qm27, if_neg s_1, if_neg s_2, if_neg s_3, if_neg s_4, if_neg s_5, if_neg s_6, if_neg s_7, if_pos s_8]
    exact ct_vret () hx hb hr hlocks hP hD hS (by rw [e_1, e_2]) dX4_reckon_245
  by_cases s_9 : nAluf = 8
  · skip
    refine lv_tableIn (tgt := 170) (off := 161) hx hb dX4_reckon_9 (by rw [s_9]; decide) (by rw [s_9]; decide) (by rw [s_9]; rfl) (by decide) ?_
    refine lv_aload_n hx hb dX4_reckon_170 rfl (lv_at hl 0 rfl) ?_
    refine lv_iload_n hx hb dX4_reckon_171 rfl (lv_at hl 1 rfl) ?_
    refine lv_aload_n hx hb dX4_reckon_172 rfl (lv_at hl 0 rfl) ?_
    refine va_get (D := D) (ci := 4) (v := .int nT) (C := RX4) (T := TX4) (N := 28) hx hb hts ilX4 hown hK hP 0 rfl rfl 4 (by decide) (hts _ wf_X4_87) (fun _ h9 => h9) rfl dX4_reckon_173 ?_
    refine ctV_V (As := [.int p0, .int nT]) (rest := []) (wc := [(qm, .inr (4, [.ref pI, .ref pC, .ref pM, .ref pR, .int nT, .int nL, .int nC, .int nMar, .int nIn, .ref pP, .ref pH, .ref pK, .ref pD, .int nHand, .int nGiv, .int nCyc, .int nWai, .int nSw, .int nBeg, .int nOut, .ref pO, .int nRsel, .int nAluf, .int nBs, .int nF1, .int nF2, .int nSum, .int 0])), (pI, .inl (cI, 1024, .inl gI)), (pC, .inl (cI, 256, .inl gC)), (pM, .inl (cI, 1024, .inl gM)), (pR, .inl (cI, 32, .inl gR)), (pP, .inl (cI, 16, .inl gP)), (pH, .inl (cI, 16, .inl gH)), (pK, .inl (cZ, 16, .inl gK)), (pD, .inl (cI, 16, .inl gD)), (pO, .inl (cI, 500, .inl gO))]) (wr := []) ⟨hx, hb, hml, hown, hts⟩ (c_X4_take l D cI cZ qm pI pC pM pR pP pH pK pD pO gI gC gM gR gP gH gK gD gO nT nL nC nMar nIn nHand nGiv nCyc nWai nSw nBeg nOut nRsel nAluf nBs nF1 nF2 nSum 0 p0 nT) (cwV 2 hts (gd_V wm_X4_94 wi_X4_take ws_X4_take wz_X4 wo_X4_take) rfl rfl rfl (by decide +kernel) ⟨Nat.le_of_ble_eq_true rfl, Nat.le_of_ble_eq_true rfl⟩) hK hP hD hS hA 0 rfl rfl rfl [0, 1, 2, 3, 4, 5, 6, 7, 8, 9] [] rfl rfl (by decide) (by decide) (by decide) rfl rfl hl.1 (Nat.le_of_ble_eq_true rfl) dX4_reckon_176 ⟨Nat.le_of_ble_eq_true rfl, Nat.le_of_ble_eq_true rfl⟩ (fun u H locs hP hD hS => ?_)
    have hP : va_P D classes [(qm, .inr (4, [.ref pI, .ref pC, .ref pM, .ref pR, .int nT, .int nL, .int nC, .int nMar, .int nIn, .ref pP, .ref pH, .ref pK, .ref pD, .int nHand, .int nGiv, .int nCyc, .int nWai, .int nSw, .int nBeg, .int nOut, .ref pO, .int nRsel, .int nAluf, .int nBs, .int nF1, .int nF2, .int ((p0 - nT) &&& 65535), .int (z_X4_take_qm27 p0 nT)])), (pI, .inl (cI, 1024, .inl gI)), (pC, .inl (cI, 256, .inl gC)), (pM, .inl (cI, 1024, .inl gM)), (pR, .inl (cI, 32, .inl gR)), (pP, .inl (cI, 16, .inl gP)), (pH, .inl (cI, 16, .inl gH)), (pK, .inl (cZ, 16, .inl gK)), (pD, .inl (cI, 16, .inl gD)), (pO, .inl (cI, 500, .inl gO))] H := hP
    have hD : va_D A [(qm, .inr (4, [.ref pI, .ref pC, .ref pM, .ref pR, .int nT, .int nL, .int nC, .int nMar, .int nIn, .ref pP, .ref pH, .ref pK, .ref pD, .int nHand, .int nGiv, .int nCyc, .int nWai, .int nSw, .int nBeg, .int nOut, .ref pO, .int nRsel, .int nAluf, .int nBs, .int nF1, .int nF2, .int ((p0 - nT) &&& 65535), .int (z_X4_take_qm27 p0 nT)])), (pI, .inl (cI, 1024, .inl gI)), (pC, .inl (cI, 256, .inl gC)), (pM, .inl (cI, 1024, .inl gM)), (pR, .inl (cI, 32, .inl gR)), (pP, .inl (cI, 16, .inl gP)), (pH, .inl (cI, 16, .inl gH)), (pK, .inl (cZ, 16, .inl gK)), (pD, .inl (cI, 16, .inl gD)), (pO, .inl (cI, 500, .inl gO))] := hD
    refine lv_goto (tgt := 245) hx hb dX4_reckon_179 (by decide) ?_
    have e_1 : z_X4_reckon_qm26 nT nC nAluf p0 = (p0 - nT) &&& 65535 := by simp only [z_X4_reckon_qm26, if_neg s_1, if_neg s_2, if_neg s_3, if_neg s_4, if_neg s_5, if_neg s_6, if_neg s_7, if_neg s_8, if_pos s_9]
    have e_2 : z_X4_reckon_qm27 nT nC nAluf p0 = z_X4_take_qm27 p0 nT := by simp only [z_X4_reckon_qm27, if_neg s_1, if_neg s_2, if_neg s_3, if_neg s_4, if_neg s_5, if_neg s_6, if_neg s_7, if_neg s_8, if_pos s_9]
    exact ct_vret () hx hb hr hlocks hP hD hS (by rw [e_1, e_2]) dX4_reckon_245
  by_cases s_10 : nAluf = 9
  · skip
    refine lv_tableIn (tgt := 182) (off := 173) hx hb dX4_reckon_9 (by rw [s_10]; decide) (by rw [s_10]; decide) (by rw [s_10]; rfl) (by decide) ?_
    refine lv_aload_n hx hb dX4_reckon_182 rfl (lv_at hl 0 rfl) ?_
    refine lv_iload_n hx hb dX4_reckon_183 rfl (lv_at hl 1 rfl) ?_
    refine lv_aload_n hx hb dX4_reckon_184 rfl (lv_at hl 0 rfl) ?_
    refine va_get (D := D) (ci := 4) (v := .int nT) (C := RX4) (T := TX4) (N := 28) hx hb hts ilX4 hown hK hP 0 rfl rfl 4 (by decide) (hts _ wf_X4_87) (fun _ h9 => h9) rfl dX4_reckon_185 ?_
    refine lv_iconst (v := 1) hx hb dX4_reckon_188 (by decide) ?_
    refine lv_iadd hx hb dX4_reckon_189 ?_
    refine ctV_V (As := [.int p0, .int (nT + 1)]) (rest := []) (wc := [(qm, .inr (4, [.ref pI, .ref pC, .ref pM, .ref pR, .int nT, .int nL, .int nC, .int nMar, .int nIn, .ref pP, .ref pH, .ref pK, .ref pD, .int nHand, .int nGiv, .int nCyc, .int nWai, .int nSw, .int nBeg, .int nOut, .ref pO, .int nRsel, .int nAluf, .int nBs, .int nF1, .int nF2, .int nSum, .int 0])), (pI, .inl (cI, 1024, .inl gI)), (pC, .inl (cI, 256, .inl gC)), (pM, .inl (cI, 1024, .inl gM)), (pR, .inl (cI, 32, .inl gR)), (pP, .inl (cI, 16, .inl gP)), (pH, .inl (cI, 16, .inl gH)), (pK, .inl (cZ, 16, .inl gK)), (pD, .inl (cI, 16, .inl gD)), (pO, .inl (cI, 500, .inl gO))]) (wr := []) ⟨hx, hb, hml, hown, hts⟩ (c_X4_take l D cI cZ qm pI pC pM pR pP pH pK pD pO gI gC gM gR gP gH gK gD gO nT nL nC nMar nIn nHand nGiv nCyc nWai nSw nBeg nOut nRsel nAluf nBs nF1 nF2 nSum 0 p0 (nT + 1)) (cwV 2 hts (gd_V wm_X4_94 wi_X4_take ws_X4_take wz_X4 wo_X4_take) rfl rfl rfl (by decide +kernel) ⟨Nat.le_of_ble_eq_true rfl, Nat.le_of_ble_eq_true rfl⟩) hK hP hD hS hA 0 rfl rfl rfl [0, 1, 2, 3, 4, 5, 6, 7, 8, 9] [] rfl rfl (by decide) (by decide) (by decide) rfl rfl hl.1 (Nat.le_of_ble_eq_true rfl) dX4_reckon_190 ⟨Nat.le_of_ble_eq_true rfl, Nat.le_of_ble_eq_true rfl⟩ (fun u H locs hP hD hS => ?_)
    have hP : va_P D classes [(qm, .inr (4, [.ref pI, .ref pC, .ref pM, .ref pR, .int nT, .int nL, .int nC, .int nMar, .int nIn, .ref pP, .ref pH, .ref pK, .ref pD, .int nHand, .int nGiv, .int nCyc, .int nWai, .int nSw, .int nBeg, .int nOut, .ref pO, .int nRsel, .int nAluf, .int nBs, .int nF1, .int nF2, .int ((p0 - (nT + 1)) &&& 65535), .int (z_X4_take_qm27 p0 (nT + 1))])), (pI, .inl (cI, 1024, .inl gI)), (pC, .inl (cI, 256, .inl gC)), (pM, .inl (cI, 1024, .inl gM)), (pR, .inl (cI, 32, .inl gR)), (pP, .inl (cI, 16, .inl gP)), (pH, .inl (cI, 16, .inl gH)), (pK, .inl (cZ, 16, .inl gK)), (pD, .inl (cI, 16, .inl gD)), (pO, .inl (cI, 500, .inl gO))] H := hP
    have hD : va_D A [(qm, .inr (4, [.ref pI, .ref pC, .ref pM, .ref pR, .int nT, .int nL, .int nC, .int nMar, .int nIn, .ref pP, .ref pH, .ref pK, .ref pD, .int nHand, .int nGiv, .int nCyc, .int nWai, .int nSw, .int nBeg, .int nOut, .ref pO, .int nRsel, .int nAluf, .int nBs, .int nF1, .int nF2, .int ((p0 - (nT + 1)) &&& 65535), .int (z_X4_take_qm27 p0 (nT + 1))])), (pI, .inl (cI, 1024, .inl gI)), (pC, .inl (cI, 256, .inl gC)), (pM, .inl (cI, 1024, .inl gM)), (pR, .inl (cI, 32, .inl gR)), (pP, .inl (cI, 16, .inl gP)), (pH, .inl (cI, 16, .inl gH)), (pK, .inl (cZ, 16, .inl gK)), (pD, .inl (cI, 16, .inl gD)), (pO, .inl (cI, 500, .inl gO))] := hD
    refine lv_goto (tgt := 245) hx hb dX4_reckon_193 (by decide) ?_
    have e_1 : z_X4_reckon_qm26 nT nC nAluf p0 = (p0 - (nT + 1)) &&& 65535 := by simp only [z_X4_reckon_qm26, if_neg s_1, if_neg s_2, if_neg s_3, if_neg s_4, if_neg s_5, if_neg s_6, if_neg s_7, if_neg s_8, if_neg s_9, if_pos s_10]
    have e_2 : z_X4_reckon_qm27 nT nC nAluf p0 = z_X4_take_qm27 p0 (nT + 1) := by simp only [z_X4_reckon_qm27, if_neg s_1, if_neg s_2, if_neg s_3, if_neg s_4, if_neg s_5, if_neg s_6, if_neg s_7, if_neg s_8, if_neg s_9, if_pos s_10]
    exact ct_vret () hx hb hr hlocks hP hD hS (by rw [e_1, e_2]) dX4_reckon_245
  by_cases s_11 : nAluf = 10
  · skip
    refine lv_tableIn (tgt := 196) (off := 187) hx hb dX4_reckon_9 (by rw [s_11]; decide) (by rw [s_11]; decide) (by rw [s_11]; rfl) (by decide) ?_
    refine lv_aload_n hx hb dX4_reckon_196 rfl (lv_at hl 0 rfl) ?_
    refine lv_iload_n hx hb dX4_reckon_197 rfl (lv_at hl 1 rfl) ?_
    refine lv_aload_n hx hb dX4_reckon_198 rfl (lv_at hl 0 rfl) ?_
    refine va_get (D := D) (ci := 4) (v := .int nT) (C := RX4) (T := TX4) (N := 28) hx hb hts ilX4 hown hK hP 0 rfl rfl 4 (by decide) (hts _ wf_X4_87) (fun _ h9 => h9) rfl dX4_reckon_199 ?_
    refine lv_iadd hx hb dX4_reckon_202 ?_
    refine lv_iconst (v := 1) hx hb dX4_reckon_203 (by decide) ?_
    refine lv_iadd hx hb dX4_reckon_204 ?_
    refine ctV_V (As := [.int ((p0 + nT) + 1)]) (rest := []) (wc := [(qm, .inr (4, [.ref pI, .ref pC, .ref pM, .ref pR, .int nT, .int nL, .int nC, .int nMar, .int nIn, .ref pP, .ref pH, .ref pK, .ref pD, .int nHand, .int nGiv, .int nCyc, .int nWai, .int nSw, .int nBeg, .int nOut, .ref pO, .int nRsel, .int nAluf, .int nBs, .int nF1, .int nF2, .int nSum, .int 0])), (pI, .inl (cI, 1024, .inl gI)), (pC, .inl (cI, 256, .inl gC)), (pM, .inl (cI, 1024, .inl gM)), (pR, .inl (cI, 32, .inl gR)), (pP, .inl (cI, 16, .inl gP)), (pH, .inl (cI, 16, .inl gH)), (pK, .inl (cZ, 16, .inl gK)), (pD, .inl (cI, 16, .inl gD)), (pO, .inl (cI, 500, .inl gO))]) (wr := []) ⟨hx, hb, hml, hown, hts⟩ (c_X4_add l D cI cZ qm pI pC pM pR pP pH pK pD pO gI gC gM gR gP gH gK gD gO nT nL nC nMar nIn nHand nGiv nCyc nWai nSw nBeg nOut nRsel nAluf nBs nF1 nF2 nSum 0 ((p0 + nT) + 1)) (cwV 1 hts (gd_V wm_X4_90 wi_X4_add ws_X4_add wz_X4 wo_X4_add) rfl rfl rfl (by decide +kernel) ⟨Nat.le_of_ble_eq_true rfl, Nat.le_of_ble_eq_true rfl⟩) hK hP hD hS hA 0 rfl rfl rfl [0, 1, 2, 3, 4, 5, 6, 7, 8, 9] [] rfl rfl (by decide) (by decide) (by decide) rfl rfl hl.1 (Nat.le_of_ble_eq_true rfl) dX4_reckon_205 ⟨Nat.le_of_ble_eq_true rfl, Nat.le_of_ble_eq_true rfl⟩ (fun u H locs hP hD hS => ?_)
    have hP : va_P D classes [(qm, .inr (4, [.ref pI, .ref pC, .ref pM, .ref pR, .int nT, .int nL, .int nC, .int nMar, .int nIn, .ref pP, .ref pH, .ref pK, .ref pD, .int nHand, .int nGiv, .int nCyc, .int nWai, .int nSw, .int nBeg, .int nOut, .ref pO, .int nRsel, .int nAluf, .int nBs, .int nF1, .int nF2, .int (((p0 + nT) + 1) &&& 65535), .int ((((p0 + nT) + 1) >>> (16 &&& 31)) &&& 1)])), (pI, .inl (cI, 1024, .inl gI)), (pC, .inl (cI, 256, .inl gC)), (pM, .inl (cI, 1024, .inl gM)), (pR, .inl (cI, 32, .inl gR)), (pP, .inl (cI, 16, .inl gP)), (pH, .inl (cI, 16, .inl gH)), (pK, .inl (cZ, 16, .inl gK)), (pD, .inl (cI, 16, .inl gD)), (pO, .inl (cI, 500, .inl gO))] H := hP
    have hD : va_D A [(qm, .inr (4, [.ref pI, .ref pC, .ref pM, .ref pR, .int nT, .int nL, .int nC, .int nMar, .int nIn, .ref pP, .ref pH, .ref pK, .ref pD, .int nHand, .int nGiv, .int nCyc, .int nWai, .int nSw, .int nBeg, .int nOut, .ref pO, .int nRsel, .int nAluf, .int nBs, .int nF1, .int nF2, .int (((p0 + nT) + 1) &&& 65535), .int ((((p0 + nT) + 1) >>> (16 &&& 31)) &&& 1)])), (pI, .inl (cI, 1024, .inl gI)), (pC, .inl (cI, 256, .inl gC)), (pM, .inl (cI, 1024, .inl gM)), (pR, .inl (cI, 32, .inl gR)), (pP, .inl (cI, 16, .inl gP)), (pH, .inl (cI, 16, .inl gH)), (pK, .inl (cZ, 16, .inl gK)), (pD, .inl (cI, 16, .inl gD)), (pO, .inl (cI, 500, .inl gO))] := hD
    refine lv_goto (tgt := 245) hx hb dX4_reckon_208 (by decide) ?_
    have e_1 : z_X4_reckon_qm26 nT nC nAluf p0 = ((p0 + nT) + 1) &&& 65535 := by simp only [z_X4_reckon_qm26, if_neg s_1, if_neg s_2, if_neg s_3, if_neg s_4, if_neg s_5, if_neg s_6, if_neg s_7, if_neg s_8, if_neg s_9, if_neg s_10, if_pos s_11]
    have e_2 : z_X4_reckon_qm27 nT nC nAluf p0 = (((p0 + nT) + 1) >>> (16 &&& 31)) &&& 1 := by simp only [z_X4_reckon_qm27, if_neg s_1, if_neg s_2, if_neg s_3, if_neg s_4, if_neg s_5, if_neg s_6, if_neg s_7, if_neg s_8, if_neg s_9, if_neg s_10, if_pos s_11]
    exact ct_vret () hx hb hr hlocks hP hD hS (by rw [e_1, e_2]) dX4_reckon_245
  by_cases s_12 : nAluf = 11
  · skip
    refine lv_tableIn (tgt := 211) (off := 202) hx hb dX4_reckon_9 (by rw [s_12]; decide) (by rw [s_12]; decide) (by rw [s_12]; rfl) (by decide) ?_
    refine lv_aload_n hx hb dX4_reckon_211 rfl (lv_at hl 0 rfl) ?_
    refine lv_iload_n hx hb dX4_reckon_212 rfl (lv_at hl 1 rfl) ?_
    refine lv_aload_n hx hb dX4_reckon_213 rfl (lv_at hl 0 rfl) ?_
    refine va_get (D := D) (ci := 4) (v := .int nC) (C := RX4) (T := TX4) (N := 28) hx hb hts ilX4 hown hK hP 0 rfl rfl 6 (by decide) (hts _ wf_X4_98) (fun _ h9 => h9) rfl dX4_reckon_214 ?_
    refine lv_iadd hx hb dX4_reckon_217 ?_
    refine ctV_V (As := [.int (p0 + nC)]) (rest := []) (wc := [(qm, .inr (4, [.ref pI, .ref pC, .ref pM, .ref pR, .int nT, .int nL, .int nC, .int nMar, .int nIn, .ref pP, .ref pH, .ref pK, .ref pD, .int nHand, .int nGiv, .int nCyc, .int nWai, .int nSw, .int nBeg, .int nOut, .ref pO, .int nRsel, .int nAluf, .int nBs, .int nF1, .int nF2, .int nSum, .int 0])), (pI, .inl (cI, 1024, .inl gI)), (pC, .inl (cI, 256, .inl gC)), (pM, .inl (cI, 1024, .inl gM)), (pR, .inl (cI, 32, .inl gR)), (pP, .inl (cI, 16, .inl gP)), (pH, .inl (cI, 16, .inl gH)), (pK, .inl (cZ, 16, .inl gK)), (pD, .inl (cI, 16, .inl gD)), (pO, .inl (cI, 500, .inl gO))]) (wr := []) ⟨hx, hb, hml, hown, hts⟩ (c_X4_add l D cI cZ qm pI pC pM pR pP pH pK pD pO gI gC gM gR gP gH gK gD gO nT nL nC nMar nIn nHand nGiv nCyc nWai nSw nBeg nOut nRsel nAluf nBs nF1 nF2 nSum 0 (p0 + nC)) (cwV 1 hts (gd_V wm_X4_90 wi_X4_add ws_X4_add wz_X4 wo_X4_add) rfl rfl rfl (by decide +kernel) ⟨Nat.le_of_ble_eq_true rfl, Nat.le_of_ble_eq_true rfl⟩) hK hP hD hS hA 0 rfl rfl rfl [0, 1, 2, 3, 4, 5, 6, 7, 8, 9] [] rfl rfl (by decide) (by decide) (by decide) rfl rfl hl.1 (Nat.le_of_ble_eq_true rfl) dX4_reckon_218 ⟨Nat.le_of_ble_eq_true rfl, Nat.le_of_ble_eq_true rfl⟩ (fun u H locs hP hD hS => ?_)
    have hP : va_P D classes [(qm, .inr (4, [.ref pI, .ref pC, .ref pM, .ref pR, .int nT, .int nL, .int nC, .int nMar, .int nIn, .ref pP, .ref pH, .ref pK, .ref pD, .int nHand, .int nGiv, .int nCyc, .int nWai, .int nSw, .int nBeg, .int nOut, .ref pO, .int nRsel, .int nAluf, .int nBs, .int nF1, .int nF2, .int ((p0 + nC) &&& 65535), .int (((p0 + nC) >>> (16 &&& 31)) &&& 1)])), (pI, .inl (cI, 1024, .inl gI)), (pC, .inl (cI, 256, .inl gC)), (pM, .inl (cI, 1024, .inl gM)), (pR, .inl (cI, 32, .inl gR)), (pP, .inl (cI, 16, .inl gP)), (pH, .inl (cI, 16, .inl gH)), (pK, .inl (cZ, 16, .inl gK)), (pD, .inl (cI, 16, .inl gD)), (pO, .inl (cI, 500, .inl gO))] H := hP
    have hD : va_D A [(qm, .inr (4, [.ref pI, .ref pC, .ref pM, .ref pR, .int nT, .int nL, .int nC, .int nMar, .int nIn, .ref pP, .ref pH, .ref pK, .ref pD, .int nHand, .int nGiv, .int nCyc, .int nWai, .int nSw, .int nBeg, .int nOut, .ref pO, .int nRsel, .int nAluf, .int nBs, .int nF1, .int nF2, .int ((p0 + nC) &&& 65535), .int (((p0 + nC) >>> (16 &&& 31)) &&& 1)])), (pI, .inl (cI, 1024, .inl gI)), (pC, .inl (cI, 256, .inl gC)), (pM, .inl (cI, 1024, .inl gM)), (pR, .inl (cI, 32, .inl gR)), (pP, .inl (cI, 16, .inl gP)), (pH, .inl (cI, 16, .inl gH)), (pK, .inl (cZ, 16, .inl gK)), (pD, .inl (cI, 16, .inl gD)), (pO, .inl (cI, 500, .inl gO))] := hD
    refine lv_goto (tgt := 245) hx hb dX4_reckon_221 (by decide) ?_
    have e_1 : z_X4_reckon_qm26 nT nC nAluf p0 = (p0 + nC) &&& 65535 := by simp only [z_X4_reckon_qm26, if_neg s_1, if_neg s_2, if_neg s_3, if_neg s_4, if_neg s_5, if_neg s_6, if_neg s_7, if_neg s_8, if_neg s_9, if_neg s_10, if_neg s_11, if_pos s_12]
    have e_2 : z_X4_reckon_qm27 nT nC nAluf p0 = ((p0 + nC) >>> (16 &&& 31)) &&& 1 := by simp only [z_X4_reckon_qm27, if_neg s_1, if_neg s_2, if_neg s_3, if_neg s_4, if_neg s_5, if_neg s_6, if_neg s_7, if_neg s_8, if_neg s_9, if_neg s_10, if_neg s_11, if_pos s_12]
    exact ct_vret () hx hb hr hlocks hP hD hS (by rw [e_1, e_2]) dX4_reckon_245
  by_cases s_13 : nAluf = 12
  · skip
    refine lv_tableIn (tgt := 112) (off := 103) hx hb dX4_reckon_9 (by rw [s_13]; decide) (by rw [s_13]; decide) (by rw [s_13]; rfl) (by decide) ?_
    refine lv_aload_n hx hb dX4_reckon_112 rfl (lv_at hl 0 rfl) ?_
    refine lv_iload_n hx hb dX4_reckon_113 rfl (lv_at hl 1 rfl) ?_
    refine lv_aload_n hx hb dX4_reckon_114 rfl (lv_at hl 0 rfl) ?_
    refine va_get (D := D) (ci := 4) (v := .int nT) (C := RX4) (T := TX4) (N := 28) hx hb hts ilX4 hown hK hP 0 rfl rfl 4 (by decide) (hts _ wf_X4_87) (fun _ h9 => h9) rfl dX4_reckon_115 ?_
    refine lv_iand hx hb dX4_reckon_118 ?_
    refine va_put (D := D) (ci := 4) (v := .int (p0 &&& nT)) (ty := (.int)) (C := RX4) (T := TX4) (N := 28) hx hb hts ilX4 tyX4 tyX4_ok nmX4 hown hK hP hD hS 0 rfl rfl 26 (by decide) (hts _ wf_X4_78) (fun _ h9 => h9) rfl (by decide +kernel) rfl rfl (Nat.le_of_ble_eq_true rfl) dX4_reckon_119 (fun H locs hP hD hS => ?_)
    have hP : va_P D classes [(qm, .inr (4, [.ref pI, .ref pC, .ref pM, .ref pR, .int nT, .int nL, .int nC, .int nMar, .int nIn, .ref pP, .ref pH, .ref pK, .ref pD, .int nHand, .int nGiv, .int nCyc, .int nWai, .int nSw, .int nBeg, .int nOut, .ref pO, .int nRsel, .int nAluf, .int nBs, .int nF1, .int nF2, .int (p0 &&& nT), .int 0])), (pI, .inl (cI, 1024, .inl gI)), (pC, .inl (cI, 256, .inl gC)), (pM, .inl (cI, 1024, .inl gM)), (pR, .inl (cI, 32, .inl gR)), (pP, .inl (cI, 16, .inl gP)), (pH, .inl (cI, 16, .inl gH)), (pK, .inl (cZ, 16, .inl gK)), (pD, .inl (cI, 16, .inl gD)), (pO, .inl (cI, 500, .inl gO))] H := hP
    have hD : va_D A [(qm, .inr (4, [.ref pI, .ref pC, .ref pM, .ref pR, .int nT, .int nL, .int nC, .int nMar, .int nIn, .ref pP, .ref pH, .ref pK, .ref pD, .int nHand, .int nGiv, .int nCyc, .int nWai, .int nSw, .int nBeg, .int nOut, .ref pO, .int nRsel, .int nAluf, .int nBs, .int nF1, .int nF2, .int (p0 &&& nT), .int 0])), (pI, .inl (cI, 1024, .inl gI)), (pC, .inl (cI, 256, .inl gC)), (pM, .inl (cI, 1024, .inl gM)), (pR, .inl (cI, 32, .inl gR)), (pP, .inl (cI, 16, .inl gP)), (pH, .inl (cI, 16, .inl gH)), (pK, .inl (cZ, 16, .inl gK)), (pD, .inl (cI, 16, .inl gD)), (pO, .inl (cI, 500, .inl gO))] := hD
    refine lv_goto (tgt := 245) hx hb dX4_reckon_122 (by decide) ?_
    have e_1 : z_X4_reckon_qm26 nT nC nAluf p0 = p0 &&& nT := by simp only [z_X4_reckon_qm26, if_neg s_1, if_neg s_2, if_neg s_3, if_neg s_4, if_neg s_5, if_neg s_6, if_neg s_7, if_neg s_8, if_neg s_9, if_neg s_10, if_neg s_11, if_neg s_12, if_pos s_13]
    have e_2 : z_X4_reckon_qm27 nT nC nAluf p0 = 0 := by simp only [z_X4_reckon_qm27, if_neg s_1, if_neg s_2, if_neg s_3, if_neg s_4, if_neg s_5, if_neg s_6, if_neg s_7, if_neg s_8, if_neg s_9, if_neg s_10, if_neg s_11, if_neg s_12, if_pos s_13]
    exact ct_vret () hx hb hr hlocks hP hD hS (by rw [e_1, e_2]) dX4_reckon_245
  by_cases s_14 : nAluf = 13
  · skip
    refine lv_tableIn (tgt := 224) (off := 215) hx hb dX4_reckon_9 (by rw [s_14]; decide) (by rw [s_14]; decide) (by rw [s_14]; rfl) (by decide) ?_
    refine lv_aload_n hx hb dX4_reckon_224 rfl (lv_at hl 0 rfl) ?_
    refine lv_iload_n hx hb dX4_reckon_225 rfl (lv_at hl 1 rfl) ?_
    refine lv_ldc (v := 65535) hx hb hown (hts _ wk_X4_46) dX4_reckon_226 ?_
    refine lv_aload_n hx hb dX4_reckon_228 rfl (lv_at hl 0 rfl) ?_
    refine va_get (D := D) (ci := 4) (v := .int nT) (C := RX4) (T := TX4) (N := 28) hx hb hts ilX4 hown hK hP 0 rfl rfl 4 (by decide) (hts _ wf_X4_87) (fun _ h9 => h9) rfl dX4_reckon_229 ?_
    refine lv_isub hx hb dX4_reckon_232 ?_
    refine lv_iand hx hb dX4_reckon_233 ?_
    refine va_put (D := D) (ci := 4) (v := .int (p0 &&& ((65535 : Int32) - nT))) (ty := (.int)) (C := RX4) (T := TX4) (N := 28) hx hb hts ilX4 tyX4 tyX4_ok nmX4 hown hK hP hD hS 0 rfl rfl 26 (by decide) (hts _ wf_X4_78) (fun _ h9 => h9) rfl (by decide +kernel) rfl rfl (Nat.le_of_ble_eq_true rfl) dX4_reckon_234 (fun H locs hP hD hS => ?_)
    have hP : va_P D classes [(qm, .inr (4, [.ref pI, .ref pC, .ref pM, .ref pR, .int nT, .int nL, .int nC, .int nMar, .int nIn, .ref pP, .ref pH, .ref pK, .ref pD, .int nHand, .int nGiv, .int nCyc, .int nWai, .int nSw, .int nBeg, .int nOut, .ref pO, .int nRsel, .int nAluf, .int nBs, .int nF1, .int nF2, .int (p0 &&& ((65535 : Int32) - nT)), .int 0])), (pI, .inl (cI, 1024, .inl gI)), (pC, .inl (cI, 256, .inl gC)), (pM, .inl (cI, 1024, .inl gM)), (pR, .inl (cI, 32, .inl gR)), (pP, .inl (cI, 16, .inl gP)), (pH, .inl (cI, 16, .inl gH)), (pK, .inl (cZ, 16, .inl gK)), (pD, .inl (cI, 16, .inl gD)), (pO, .inl (cI, 500, .inl gO))] H := hP
    have hD : va_D A [(qm, .inr (4, [.ref pI, .ref pC, .ref pM, .ref pR, .int nT, .int nL, .int nC, .int nMar, .int nIn, .ref pP, .ref pH, .ref pK, .ref pD, .int nHand, .int nGiv, .int nCyc, .int nWai, .int nSw, .int nBeg, .int nOut, .ref pO, .int nRsel, .int nAluf, .int nBs, .int nF1, .int nF2, .int (p0 &&& ((65535 : Int32) - nT)), .int 0])), (pI, .inl (cI, 1024, .inl gI)), (pC, .inl (cI, 256, .inl gC)), (pM, .inl (cI, 1024, .inl gM)), (pR, .inl (cI, 32, .inl gR)), (pP, .inl (cI, 16, .inl gP)), (pH, .inl (cI, 16, .inl gH)), (pK, .inl (cZ, 16, .inl gK)), (pD, .inl (cI, 16, .inl gD)), (pO, .inl (cI, 500, .inl gO))] := hD
    refine lv_goto (tgt := 245) hx hb dX4_reckon_237 (by decide) ?_
    have e_1 : z_X4_reckon_qm26 nT nC nAluf p0 = p0 &&& ((65535 : Int32) - nT) := by simp only [z_X4_reckon_qm26, if_neg s_1, if_neg s_2, if_neg s_3, if_neg s_4, if_neg s_5, if_neg s_6, if_neg s_7, if_neg s_8, if_neg s_9, if_neg s_10, if_neg s_11, if_neg s_12, if_neg s_13, if_pos s_14]
    have e_2 : z_X4_reckon_qm27 nT nC nAluf p0 = 0 := by simp only [z_X4_reckon_qm27, if_neg s_1, if_neg s_2, if_neg s_3, if_neg s_4, if_neg s_5, if_neg s_6, if_neg s_7, if_neg s_8, if_neg s_9, if_neg s_10, if_neg s_11, if_neg s_12, if_neg s_13, if_pos s_14]
    exact ct_vret () hx hb hr hlocks hP hD hS (by rw [e_1, e_2]) dX4_reckon_245
  refine lv_tableOut (tgt := 240) hx hb dX4_reckon_9 (by have h_s_1 := lv_neT (k := 0) (a := 0) s_1 (by decide); have h_s_2 := lv_neT (k := 1) (a := 1) s_2 (by decide); have h_s_3 := lv_neT (k := 2) (a := 2) s_3 (by decide); have h_s_4 := lv_neT (k := 3) (a := 3) s_4 (by decide); have h_s_5 := lv_neT (k := 4) (a := 4) s_5 (by decide); have h_s_6 := lv_neT (k := 5) (a := 5) s_6 (by decide); have h_s_7 := lv_neT (k := 6) (a := 6) s_7 (by decide); have h_s_8 := lv_neT (k := 7) (a := 7) s_8 (by decide); have h_s_9 := lv_neT (k := 8) (a := 8) s_9 (by decide); have h_s_10 := lv_neT (k := 9) (a := 9) s_10 (by decide); have h_s_11 := lv_neT (k := 10) (a := 10) s_11 (by decide); have h_s_12 := lv_neT (k := 11) (a := 11) s_12 (by decide); have h_s_13 := lv_neT (k := 12) (a := 12) s_13 (by decide); have h_s_14 := lv_neT (k := 13) (a := 13) s_14 (by decide); omega) (by decide) ?_
  refine lv_aload_n hx hb dX4_reckon_240 rfl (lv_at hl 0 rfl) ?_
  refine lv_iconst (v := 0) hx hb dX4_reckon_241 (by decide) ?_
  refine va_put (D := D) (ci := 4) (v := .int 0) (ty := (.int)) (C := RX4) (T := TX4) (N := 28) hx hb hts ilX4 tyX4 tyX4_ok nmX4 hown hK hP hD hS 0 rfl rfl 26 (by decide) (hts _ wf_X4_78) (fun _ h9 => h9) rfl (by decide +kernel) rfl rfl (Nat.le_of_ble_eq_true rfl) dX4_reckon_242 (fun H locs hP hD hS => ?_)
  have hP : va_P D classes [(qm, .inr (4, [.ref pI, .ref pC, .ref pM, .ref pR, .int nT, .int nL, .int nC, .int nMar, .int nIn, .ref pP, .ref pH, .ref pK, .ref pD, .int nHand, .int nGiv, .int nCyc, .int nWai, .int nSw, .int nBeg, .int nOut, .ref pO, .int nRsel, .int nAluf, .int nBs, .int nF1, .int nF2, .int 0, .int 0])), (pI, .inl (cI, 1024, .inl gI)), (pC, .inl (cI, 256, .inl gC)), (pM, .inl (cI, 1024, .inl gM)), (pR, .inl (cI, 32, .inl gR)), (pP, .inl (cI, 16, .inl gP)), (pH, .inl (cI, 16, .inl gH)), (pK, .inl (cZ, 16, .inl gK)), (pD, .inl (cI, 16, .inl gD)), (pO, .inl (cI, 500, .inl gO))] H := hP
  have hD : va_D A [(qm, .inr (4, [.ref pI, .ref pC, .ref pM, .ref pR, .int nT, .int nL, .int nC, .int nMar, .int nIn, .ref pP, .ref pH, .ref pK, .ref pD, .int nHand, .int nGiv, .int nCyc, .int nWai, .int nSw, .int nBeg, .int nOut, .ref pO, .int nRsel, .int nAluf, .int nBs, .int nF1, .int nF2, .int 0, .int 0])), (pI, .inl (cI, 1024, .inl gI)), (pC, .inl (cI, 256, .inl gC)), (pM, .inl (cI, 1024, .inl gM)), (pR, .inl (cI, 32, .inl gR)), (pP, .inl (cI, 16, .inl gP)), (pH, .inl (cI, 16, .inl gH)), (pK, .inl (cZ, 16, .inl gK)), (pD, .inl (cI, 16, .inl gD)), (pO, .inl (cI, 500, .inl gO))] := hD
  have e_1 : z_X4_reckon_qm26 nT nC nAluf p0 = 0 := by simp only [z_X4_reckon_qm26, if_neg s_1, if_neg s_2, if_neg s_3, if_neg s_4, if_neg s_5, if_neg s_6, if_neg s_7, if_neg s_8, if_neg s_9, if_neg s_10, if_neg s_11, if_neg s_12, if_neg s_13, if_neg s_14]
  have e_2 : z_X4_reckon_qm27 nT nC nAluf p0 = 0 := by simp only [z_X4_reckon_qm27, if_neg s_1, if_neg s_2, if_neg s_3, if_neg s_4, if_neg s_5, if_neg s_6, if_neg s_7, if_neg s_8, if_neg s_9, if_neg s_10, if_neg s_11, if_neg s_12, if_neg s_13, if_neg s_14]
  exact ct_vret () hx hb hr hlocks hP hD hS (by rw [e_1, e_2]) dX4_reckon_245
def r_X4_isOfAlu (nAluf : Int32) : Int32 := (if nAluf = 0 then 1 else (if nAluf = 2 then 1 else (if nAluf = 5 then 1 else (if nAluf = 6 then 1 else (if nAluf < 10 then 0 else (if 12 < nAluf then 0 else 1))))))
set_option maxHeartbeats 4000000 in
set_option maxRecDepth 100000 in
theorem c_X4_isOfAlu (l : Launch) (D : va_G) (cI cZ : ClassId) (qm : Nat) (pI : Nat) (pC : Nat) (pM : Nat) (pR : Nat) (pP : Nat) (pH : Nat) (pK : Nat) (pD : Nat) (pO : Nat) (gI : Nat → Int32) (gC : Nat → Int32) (gM : Nat → Int32) (gR : Nat → Int32) (gP : Nat → Int32) (gH : Nat → Int32) (gK : Nat → Int32) (gD : Nat → Int32) (gO : Nat → Int32) (nT : Int32) (nL : Int32) (nC : Int32) (nMar : Int32) (nIn : Int32) (nHand : Int32) (nGiv : Int32) (nCyc : Int32) (nWai : Int32) (nSw : Int32) (nBeg : Int32) (nOut : Int32) (nRsel : Int32) (nAluf : Int32) (nBs : Int32) (nF1 : Int32) (nF2 : Int32) (nSum : Int32) (nSc : Int32) : CtI l D classes [(cI, .int), (cZ, .boolean)] yX4_isOfAlu w_X4_isOfAlu { frames := 0, cells := 0, slots := 0, locals := 0 } [.ref qm] [(qm, .inr (4, [.ref pI, .ref pC, .ref pM, .ref pR, .int nT, .int nL, .int nC, .int nMar, .int nIn, .ref pP, .ref pH, .ref pK, .ref pD, .int nHand, .int nGiv, .int nCyc, .int nWai, .int nSw, .int nBeg, .int nOut, .ref pO, .int nRsel, .int nAluf, .int nBs, .int nF1, .int nF2, .int nSum, .int nSc])), (pI, .inl (cI, 1024, .inl gI)), (pC, .inl (cI, 256, .inl gC)), (pM, .inl (cI, 1024, .inl gM)), (pR, .inl (cI, 32, .inl gR)), (pP, .inl (cI, 16, .inl gP)), (pH, .inl (cI, 16, .inl gH)), (pK, .inl (cZ, 16, .inl gK)), (pD, .inl (cI, 16, .inl gD)), (pO, .inl (cI, 500, .inl gO))] [(qm, .inr (4, [.ref pI, .ref pC, .ref pM, .ref pR, .int nT, .int nL, .int nC, .int nMar, .int nIn, .ref pP, .ref pH, .ref pK, .ref pD, .int nHand, .int nGiv, .int nCyc, .int nWai, .int nSw, .int nBeg, .int nOut, .ref pO, .int nRsel, .int nAluf, .int nBs, .int nF1, .int nF2, .int nSum, .int nSc])), (pI, .inl (cI, 1024, .inl gI)), (pC, .inl (cI, 256, .inl gC)), (pM, .inl (cI, 1024, .inl gM)), (pR, .inl (cI, 32, .inl gR)), (pP, .inl (cI, 16, .inl gP)), (pH, .inl (cI, 16, .inl gH)), (pK, .inl (cZ, 16, .inl gK)), (pD, .inl (cI, 16, .inl gD)), (pO, .inl (cI, 500, .inl gO))] (r_X4_isOfAlu nAluf) := by
  refine CtI.mk (cc := cX4_isOfAlu) (maxL := 1) (ret := (some .boolean)) (by decide) rfl (Nat.le_of_ble_eq_true rfl) ?_
  intro p e s m below meth c A hBeg ls hl
  obtain ⟨hx, hb, hr, hml, hts0, hown, hlocks, hin, hA, hK, hP, hD, hS⟩ := hBeg
  have hts := fun w h => hts0 w (List.mem_cons_of_mem _ h)
  have hown : s.vm.findClass RX4 = some m.cls := hown
  have hl : lv_has ls 1 [(0, .ref qm)] := hl
  skip
  refine lv_aload_n hx hb dX4_isOfAlu_0 rfl (lv_at hl 0 rfl) ?_
  refine va_get (D := D) (ci := 4) (v := .int nAluf) (C := RX4) (T := TX4) (N := 28) hx hb hts ilX4 hown hK hP 0 rfl rfl 22 (by decide) (hts _ wf_X4_84) (fun _ h9 => h9) rfl dX4_isOfAlu_1 ?_
  refine lv_if_eq (tgt := 50) hx hb dX4_isOfAlu_4 (by decide) (fun c_1 => ?_) (fun c_1 => ?_)
  · skip
    refine lv_iconst (v := 1) hx hb dX4_isOfAlu_50 (by decide) ?_
    refine lv_goto (tgt := 55) hx hb dX4_isOfAlu_51 (by decide) ?_
    have e_1 : r_X4_isOfAlu nAluf = 1 := by simp only [r_X4_isOfAlu, if_pos c_1]
    exact ct_zret hx hb hr hlocks hP hD hS rfl (by rw [e_1]) (Or.inr rfl) dX4_isOfAlu_55
  · skip
    refine lv_aload_n hx hb dX4_isOfAlu_7 rfl (lv_at hl 0 rfl) ?_
    refine va_get (D := D) (ci := 4) (v := .int nAluf) (C := RX4) (T := TX4) (N := 28) hx hb hts ilX4 hown hK hP 0 rfl rfl 22 (by decide) (hts _ wf_X4_84) (fun _ h9 => h9) rfl dX4_isOfAlu_8 ?_
    refine lv_iconst (v := 2) hx hb dX4_isOfAlu_11 (by decide) ?_
    refine lv_icmp_eq (tgt := 50) hx hb dX4_isOfAlu_12 (by decide) (fun c_2 => ?_) (fun c_2 => ?_)
    · skip
      refine lv_iconst (v := 1) hx hb dX4_isOfAlu_50 (by decide) ?_
      refine lv_goto (tgt := 55) hx hb dX4_isOfAlu_51 (by decide) ?_
      have e_1 : r_X4_isOfAlu nAluf = 1 := by simp only [r_X4_isOfAlu, if_neg c_1, if_pos c_2]
      exact ct_zret hx hb hr hlocks hP hD hS rfl (by rw [e_1]) (Or.inr rfl) dX4_isOfAlu_55
    · skip
      refine lv_aload_n hx hb dX4_isOfAlu_15 rfl (lv_at hl 0 rfl) ?_
      refine va_get (D := D) (ci := 4) (v := .int nAluf) (C := RX4) (T := TX4) (N := 28) hx hb hts ilX4 hown hK hP 0 rfl rfl 22 (by decide) (hts _ wf_X4_84) (fun _ h9 => h9) rfl dX4_isOfAlu_16 ?_
      refine lv_iconst (v := 5) hx hb dX4_isOfAlu_19 (by decide) ?_
      refine lv_icmp_eq (tgt := 50) hx hb dX4_isOfAlu_20 (by decide) (fun c_3 => ?_) (fun c_3 => ?_)
      · skip
        refine lv_iconst (v := 1) hx hb dX4_isOfAlu_50 (by decide) ?_
        refine lv_goto (tgt := 55) hx hb dX4_isOfAlu_51 (by decide) ?_
        have e_1 : r_X4_isOfAlu nAluf = 1 := by simp only [r_X4_isOfAlu, if_neg c_1, if_neg c_2, if_pos c_3]
        exact ct_zret hx hb hr hlocks hP hD hS rfl (by rw [e_1]) (Or.inr rfl) dX4_isOfAlu_55
      · skip
        refine lv_aload_n hx hb dX4_isOfAlu_23 rfl (lv_at hl 0 rfl) ?_
        refine va_get (D := D) (ci := 4) (v := .int nAluf) (C := RX4) (T := TX4) (N := 28) hx hb hts ilX4 hown hK hP 0 rfl rfl 22 (by decide) (hts _ wf_X4_84) (fun _ h9 => h9) rfl dX4_isOfAlu_24 ?_
        refine lv_bipush (v := 6) hx hb dX4_isOfAlu_27 (by decide) ?_
        refine lv_icmp_eq (tgt := 50) hx hb dX4_isOfAlu_29 (by decide) (fun c_4 => ?_) (fun c_4 => ?_)
        · skip
          refine lv_iconst (v := 1) hx hb dX4_isOfAlu_50 (by decide) ?_
          refine lv_goto (tgt := 55) hx hb dX4_isOfAlu_51 (by decide) ?_
          have e_1 : r_X4_isOfAlu nAluf = 1 := by simp only [r_X4_isOfAlu, if_neg c_1, if_neg c_2, if_neg c_3, if_pos c_4]
          exact ct_zret hx hb hr hlocks hP hD hS rfl (by rw [e_1]) (Or.inr rfl) dX4_isOfAlu_55
        · skip
          refine lv_aload_n hx hb dX4_isOfAlu_32 rfl (lv_at hl 0 rfl) ?_
          refine va_get (D := D) (ci := 4) (v := .int nAluf) (C := RX4) (T := TX4) (N := 28) hx hb hts ilX4 hown hK hP 0 rfl rfl 22 (by decide) (hts _ wf_X4_84) (fun _ h9 => h9) rfl dX4_isOfAlu_33 ?_
          refine lv_bipush (v := 10) hx hb dX4_isOfAlu_36 (by decide) ?_
          refine lv_icmp_lt (tgt := 54) hx hb dX4_isOfAlu_38 (by decide) (fun c_5 => ?_) (fun c_5 => ?_)
          · skip
            refine lv_iconst (v := 0) hx hb dX4_isOfAlu_54 (by decide) ?_
            have e_1 : r_X4_isOfAlu nAluf = 0 := by simp only [r_X4_isOfAlu, if_neg c_1, if_neg c_2, if_neg c_3, if_neg c_4, if_pos c_5]
            exact ct_zret hx hb hr hlocks hP hD hS rfl (by rw [e_1]) (Or.inl rfl) dX4_isOfAlu_55
          · skip
            refine lv_aload_n hx hb dX4_isOfAlu_41 rfl (lv_at hl 0 rfl) ?_
            refine va_get (D := D) (ci := 4) (v := .int nAluf) (C := RX4) (T := TX4) (N := 28) hx hb hts ilX4 hown hK hP 0 rfl rfl 22 (by decide) (hts _ wf_X4_84) (fun _ h9 => h9) rfl dX4_isOfAlu_42 ?_
            refine lv_bipush (v := 12) hx hb dX4_isOfAlu_45 (by decide) ?_
            refine lv_icmp_gt (tgt := 54) hx hb dX4_isOfAlu_47 (by decide) (fun c_6 => ?_) (fun c_6 => ?_)
            · skip
              refine lv_iconst (v := 0) hx hb dX4_isOfAlu_54 (by decide) ?_
              have e_1 : r_X4_isOfAlu nAluf = 0 := by simp only [r_X4_isOfAlu, if_neg c_1, if_neg c_2, if_neg c_3, if_neg c_4, if_neg c_5, if_pos c_6]
              exact ct_zret hx hb hr hlocks hP hD hS rfl (by rw [e_1]) (Or.inl rfl) dX4_isOfAlu_55
            · skip
              refine lv_iconst (v := 1) hx hb dX4_isOfAlu_50 (by decide) ?_
              refine lv_goto (tgt := 55) hx hb dX4_isOfAlu_51 (by decide) ?_
              have e_1 : r_X4_isOfAlu nAluf = 1 := by simp only [r_X4_isOfAlu, if_neg c_1, if_neg c_2, if_neg c_3, if_neg c_4, if_neg c_5, if_neg c_6]
              exact ct_zret hx hb hr hlocks hP hD hS rfl (by rw [e_1]) (Or.inr rfl) dX4_isOfAlu_55
def r_X4_change (nC : Int32) (nIn : Int32) (nF2 : Int32) (p0 : Int32) (p1 : Int32) : Int32 := (if nF2 = 1 then (if p0 = 0 then 1 else 0) else (if nF2 = 2 then p1 >>> (15 &&& 31) else (if nF2 = 3 then (if p1 = 0 then 1 else 0) else (if nF2 = 4 then p0 - p0 / 1024 * 1024 else (if nF2 = 5 then nC else (if nF2 = 6 then 0 else (if nF2 = 7 then 0 else (if nF2 = 8 then nIn - nIn / 2 * 2 else 0))))))))
set_option maxHeartbeats 4000000 in
set_option maxRecDepth 100000 in
theorem c_X4_change (l : Launch) (D : va_G) (cI cZ : ClassId) (qm : Nat) (pI : Nat) (pC : Nat) (pM : Nat) (pR : Nat) (pP : Nat) (pH : Nat) (pK : Nat) (pD : Nat) (pO : Nat) (gI : Nat → Int32) (gC : Nat → Int32) (gM : Nat → Int32) (gR : Nat → Int32) (gP : Nat → Int32) (gH : Nat → Int32) (gK : Nat → Int32) (gD : Nat → Int32) (gO : Nat → Int32) (nT : Int32) (nL : Int32) (nC : Int32) (nMar : Int32) (nIn : Int32) (nHand : Int32) (nGiv : Int32) (nCyc : Int32) (nWai : Int32) (nSw : Int32) (nBeg : Int32) (nOut : Int32) (nRsel : Int32) (nAluf : Int32) (nBs : Int32) (nF1 : Int32) (nF2 : Int32) (nSum : Int32) (nSc : Int32) (p0 : Int32) (p1 : Int32) : CtI l D classes [(cI, .int), (cZ, .boolean)] yX4_change w_X4_change { frames := 0, cells := 0, slots := 0, locals := 0 } [.ref qm, .int p0, .int p1] [(qm, .inr (4, [.ref pI, .ref pC, .ref pM, .ref pR, .int nT, .int nL, .int nC, .int nMar, .int nIn, .ref pP, .ref pH, .ref pK, .ref pD, .int nHand, .int nGiv, .int nCyc, .int nWai, .int nSw, .int nBeg, .int nOut, .ref pO, .int nRsel, .int nAluf, .int nBs, .int nF1, .int nF2, .int nSum, .int nSc])), (pI, .inl (cI, 1024, .inl gI)), (pC, .inl (cI, 256, .inl gC)), (pM, .inl (cI, 1024, .inl gM)), (pR, .inl (cI, 32, .inl gR)), (pP, .inl (cI, 16, .inl gP)), (pH, .inl (cI, 16, .inl gH)), (pK, .inl (cZ, 16, .inl gK)), (pD, .inl (cI, 16, .inl gD)), (pO, .inl (cI, 500, .inl gO))] [(qm, .inr (4, [.ref pI, .ref pC, .ref pM, .ref pR, .int nT, .int nL, .int nC, .int nMar, .int nIn, .ref pP, .ref pH, .ref pK, .ref pD, .int nHand, .int nGiv, .int nCyc, .int nWai, .int nSw, .int nBeg, .int nOut, .ref pO, .int nRsel, .int nAluf, .int nBs, .int nF1, .int nF2, .int nSum, .int nSc])), (pI, .inl (cI, 1024, .inl gI)), (pC, .inl (cI, 256, .inl gC)), (pM, .inl (cI, 1024, .inl gM)), (pR, .inl (cI, 32, .inl gR)), (pP, .inl (cI, 16, .inl gP)), (pH, .inl (cI, 16, .inl gH)), (pK, .inl (cZ, 16, .inl gK)), (pD, .inl (cI, 16, .inl gD)), (pO, .inl (cI, 500, .inl gO))] (r_X4_change nC nIn nF2 p0 p1) := by
  refine CtI.mk (cc := cX4_change) (maxL := 3) (ret := (some .int)) (by decide) rfl (Nat.le_of_ble_eq_true rfl) ?_
  intro p e s m below meth c A hBeg ls hl
  obtain ⟨hx, hb, hr, hml, hts0, hown, hlocks, hin, hA, hK, hP, hD, hS⟩ := hBeg
  have hts := fun w h => hts0 w (List.mem_cons_of_mem _ h)
  have hown : s.vm.findClass RX4 = some m.cls := hown
  have hl : lv_has ls 3 [(0, .ref qm), (1, .int p0), (2, .int p1)] := hl
  skip
  refine lv_aload_n hx hb dX4_change_0 rfl (lv_at hl 0 rfl) ?_
  refine va_get (D := D) (ci := 4) (v := .int nF2) (C := RX4) (T := TX4) (N := 28) hx hb hts ilX4 hown hK hP 0 rfl rfl 25 (by decide) (hts _ wf_X4_53) (fun _ h9 => h9) rfl dX4_change_1 ?_
  by_cases s_1 : nF2 = 1
  · skip
    refine lv_tableIn (tgt := 52) (off := 48) hx hb dX4_change_4 (by rw [s_1]; decide) (by rw [s_1]; decide) (by rw [s_1]; rfl) (by decide) ?_
    refine lv_iload_n hx hb dX4_change_52 rfl (lv_at hl 1 rfl) ?_
    refine lv_if_ne (tgt := 60) hx hb dX4_change_53 (by decide) (fun c_2 => ?_) (fun c_2 => ?_)
    · skip
      refine lv_iconst (v := 0) hx hb dX4_change_60 (by decide) ?_
      have e_1 : r_X4_change nC nIn nF2 p0 p1 = 0 := by simp only [r_X4_change, if_pos s_1, if_neg c_2]
      exact ct_iret hx hb hr hlocks hP hD hS rfl (by rw [e_1]) dX4_change_61
    · skip
      refine lv_iconst (v := 1) hx hb dX4_change_56 (by decide) ?_
      refine lv_goto (tgt := 61) hx hb dX4_change_57 (by decide) ?_
      have e_1 : r_X4_change nC nIn nF2 p0 p1 = 1 := by simp only [r_X4_change, if_pos s_1, if_pos c_2]
      exact ct_iret hx hb hr hlocks hP hD hS rfl (by rw [e_1]) dX4_change_61
  by_cases s_3 : nF2 = 2
  · skip
    refine lv_tableIn (tgt := 62) (off := 58) hx hb dX4_change_4 (by rw [s_3]; decide) (by rw [s_3]; decide) (by rw [s_3]; rfl) (by decide) ?_
    refine lv_iload_n hx hb dX4_change_62 rfl (lv_at hl 2 rfl) ?_
    refine lv_bipush (v := 15) hx hb dX4_change_63 (by decide) ?_
    refine lv_ishr hx hb dX4_change_65 ?_
    have e_1 : r_X4_change nC nIn nF2 p0 p1 = p1 >>> (15 &&& 31) := by simp only [r_X4_change, if_neg s_1, if_pos s_3]
    exact ct_iret hx hb hr hlocks hP hD hS rfl (by rw [e_1]) dX4_change_66
  by_cases s_4 : nF2 = 3
  · skip
    refine lv_tableIn (tgt := 67) (off := 63) hx hb dX4_change_4 (by rw [s_4]; decide) (by rw [s_4]; decide) (by rw [s_4]; rfl) (by decide) ?_
    refine lv_iload_n hx hb dX4_change_67 rfl (lv_at hl 2 rfl) ?_
    refine lv_if_ne (tgt := 75) hx hb dX4_change_68 (by decide) (fun c_5 => ?_) (fun c_5 => ?_)
    · skip
      refine lv_iconst (v := 0) hx hb dX4_change_75 (by decide) ?_
      have e_1 : r_X4_change nC nIn nF2 p0 p1 = 0 := by simp only [r_X4_change, if_neg s_1, if_neg s_3, if_pos s_4, if_neg c_5]
      exact ct_iret hx hb hr hlocks hP hD hS rfl (by rw [e_1]) dX4_change_76
    · skip
      refine lv_iconst (v := 1) hx hb dX4_change_71 (by decide) ?_
      refine lv_goto (tgt := 76) hx hb dX4_change_72 (by decide) ?_
      have e_1 : r_X4_change nC nIn nF2 p0 p1 = 1 := by simp only [r_X4_change, if_neg s_1, if_neg s_3, if_pos s_4, if_pos c_5]
      exact ct_iret hx hb hr hlocks hP hD hS rfl (by rw [e_1]) dX4_change_76
  by_cases s_6 : nF2 = 4
  · skip
    refine lv_tableIn (tgt := 77) (off := 73) hx hb dX4_change_4 (by rw [s_6]; decide) (by rw [s_6]; decide) (by rw [s_6]; rfl) (by decide) ?_
    refine lv_iload_n hx hb dX4_change_77 rfl (lv_at hl 1 rfl) ?_
    refine lv_sipush (v := 1024) hx hb dX4_change_78 (by decide) ?_
    refine lv_irem hx hb dX4_change_81 (by decide) ?_
    have e_1 : r_X4_change nC nIn nF2 p0 p1 = p0 - p0 / 1024 * 1024 := by simp only [r_X4_change, if_neg s_1, if_neg s_3, if_neg s_4, if_pos s_6]
    exact ct_iret hx hb hr hlocks hP hD hS rfl (by rw [e_1]) dX4_change_82
  by_cases s_7 : nF2 = 5
  · skip
    refine lv_tableIn (tgt := 83) (off := 79) hx hb dX4_change_4 (by rw [s_7]; decide) (by rw [s_7]; decide) (by rw [s_7]; rfl) (by decide) ?_
    refine lv_aload_n hx hb dX4_change_83 rfl (lv_at hl 0 rfl) ?_
    refine va_get (D := D) (ci := 4) (v := .int nC) (C := RX4) (T := TX4) (N := 28) hx hb hts ilX4 hown hK hP 0 rfl rfl 6 (by decide) (hts _ wf_X4_98) (fun _ h9 => h9) rfl dX4_change_84 ?_
    have e_1 : r_X4_change nC nIn nF2 p0 p1 = nC := by simp only [r_X4_change, if_neg s_1, if_neg s_3, if_neg s_4, if_neg s_6, if_pos s_7]
    exact ct_iret hx hb hr hlocks hP hD hS rfl (by rw [e_1]) dX4_change_87
  by_cases s_8 : nF2 = 6
  · skip
    refine lv_tableIn (tgt := 95) (off := 91) hx hb dX4_change_4 (by rw [s_8]; decide) (by rw [s_8]; decide) (by rw [s_8]; rfl) (by decide) ?_
    refine lv_iconst (v := 0) hx hb dX4_change_95 (by decide) ?_
    have e_1 : r_X4_change nC nIn nF2 p0 p1 = 0 := by simp only [r_X4_change, if_neg s_1, if_neg s_3, if_neg s_4, if_neg s_6, if_neg s_7, if_pos s_8]
    exact ct_iret hx hb hr hlocks hP hD hS rfl (by rw [e_1]) dX4_change_96
  by_cases s_9 : nF2 = 7
  · skip
    refine lv_tableIn (tgt := 95) (off := 91) hx hb dX4_change_4 (by rw [s_9]; decide) (by rw [s_9]; decide) (by rw [s_9]; rfl) (by decide) ?_
    refine lv_iconst (v := 0) hx hb dX4_change_95 (by decide) ?_
    have e_1 : r_X4_change nC nIn nF2 p0 p1 = 0 := by simp only [r_X4_change, if_neg s_1, if_neg s_3, if_neg s_4, if_neg s_6, if_neg s_7, if_neg s_8, if_pos s_9]
    exact ct_iret hx hb hr hlocks hP hD hS rfl (by rw [e_1]) dX4_change_96
  by_cases s_10 : nF2 = 8
  · skip
    refine lv_tableIn (tgt := 88) (off := 84) hx hb dX4_change_4 (by rw [s_10]; decide) (by rw [s_10]; decide) (by rw [s_10]; rfl) (by decide) ?_
    refine lv_aload_n hx hb dX4_change_88 rfl (lv_at hl 0 rfl) ?_
    refine va_get (D := D) (ci := 4) (v := .int nIn) (C := RX4) (T := TX4) (N := 28) hx hb hts ilX4 hown hK hP 0 rfl rfl 8 (by decide) (hts _ wf_X4_47) (fun _ h9 => h9) rfl dX4_change_89 ?_
    refine lv_iconst (v := 2) hx hb dX4_change_92 (by decide) ?_
    refine lv_irem hx hb dX4_change_93 (by decide) ?_
    have e_1 : r_X4_change nC nIn nF2 p0 p1 = nIn - nIn / 2 * 2 := by simp only [r_X4_change, if_neg s_1, if_neg s_3, if_neg s_4, if_neg s_6, if_neg s_7, if_neg s_8, if_neg s_9, if_pos s_10]
    exact ct_iret hx hb hr hlocks hP hD hS rfl (by rw [e_1]) dX4_change_94
  refine lv_tableOut (tgt := 95) hx hb dX4_change_4 (by have h_s_1 := lv_neT (k := 1) (a := 1) s_1 (by decide); have h_s_3 := lv_neT (k := 2) (a := 2) s_3 (by decide); have h_s_4 := lv_neT (k := 3) (a := 3) s_4 (by decide); have h_s_6 := lv_neT (k := 4) (a := 4) s_6 (by decide); have h_s_7 := lv_neT (k := 5) (a := 5) s_7 (by decide); have h_s_8 := lv_neT (k := 6) (a := 6) s_8 (by decide); have h_s_9 := lv_neT (k := 7) (a := 7) s_9 (by decide); have h_s_10 := lv_neT (k := 8) (a := 8) s_10 (by decide); omega) (by decide) ?_
  refine lv_iconst (v := 0) hx hb dX4_change_95 (by decide) ?_
  have e_1 : r_X4_change nC nIn nF2 p0 p1 = 0 := by simp only [r_X4_change, if_neg s_1, if_neg s_3, if_neg s_4, if_neg s_6, if_neg s_7, if_neg s_8, if_neg s_9, if_neg s_10]
  exact ct_iret hx hb hr hlocks hP hD hS rfl (by rw [e_1]) dX4_change_96
end
