section
/-- the reference's state that goes with the class's state u -/
def mOf (u : XS) (beg rs al bs f1 f2 sm sc : Int32) : MS := match u with | (fR, fC, fI, fW, fp, fc, fd, fk, fo, rT, rL, rC, rIn, cyc, wai, mar, rst, hand, hov, said, kept, gone) => (fI, fC, fW, fR, fp, fc, fk, fd, fo, rT, rL, rC, mar, rIn, hand, said, cyc, wai, hov, beg, gone, rs, al, bs, f1, f2, sm, sc)
def Tim (B : Nat) (cyc beg rst : Int32) : Prop := ∃ a : Nat, a ≤ B ∧ cyc - beg = nI a ∧ rst = nI (min a 5)
def Ous (B : Nat) (kept gone : Int32) : Prop := ∃ n : Nat, n ≤ B ∧ gone = nI n ∧ kept = nI (min n 500)
def Hnd (hand : Int32) : Prop := ∃ h : Nat, h < 16 ∧ hand = nI h
/-- what holds of every state that a run of calls comes to -/
def Inv (B : Nat) (beg : Int32) (u : XS) : Prop := match u with | (fR, fC, fI, fW, fp, fc, fd, fk, fo, rT, rL, rC, rIn, cyc, wai, mar, rst, hand, hov, said, kept, gone) => (∀ j, W16 (fR j)) ∧ (∀ j, W16 (fC j)) ∧ (∀ j, W16 (fW j)) ∧ W16 rT ∧ W16 rL ∧ (rC = 0 ∨ rC = 1) ∧ W16 rIn ∧ W16 mar ∧ Hnd hand ∧ (∀ j, W10 (fp j)) ∧ (∀ j, W10 (fc j)) ∧ (∀ j, fk j = 0 ∨ fk j = 1) ∧ fk 0 = 1 ∧ Ous B kept gone ∧ Tim B cyc beg rst
theorem hc_eq (p : Int32) : r_X3_hasConstant p = r_X4_hasConstant ((jushr p 16) &&& 15) ((jushr p 12) &&& 15) := by unfold r_X3_hasConstant r_X4_hasConstant; rw [fld_16, fld_12]
theorem wait_eq {B : Nat} {cyc beg rst : Int32} (h : Tim B cyc beg rst) (hB : B < 2147483000) (p : Int32) : r_X3_mustWait rst p = r_X4_waits cyc beg ((jushr p 20) &&& 7) ((jushr p 16) &&& 15) ((jushr p 12) &&& 15) := by
  obtain ⟨a, ha, hd, hr⟩ := h
  have h5 : (nI (min a 5) < 5) = (nI a < 5) := propext ⟨fun h => by
    have := (nI_ltI (b := 5) (by omega) (by omega)).mp h
    exact nI_lt (b := 5) (by omega) (by omega), fun h => by
    have := (nI_ltI (b := 5) (by omega) (by omega)).mp h
    exact nI_lt (b := 5) (by omega) (by omega)⟩
  have h4 : (nI (min a 5) < 4) = (nI a < 4) := propext ⟨fun h => by
    have := (nI_ltI (b := 4) (by omega) (by omega)).mp h
    exact nI_lt (b := 4) (by omega) (by omega), fun h => by
    have := (nI_ltI (b := 4) (by omega) (by omega)).mp h
    exact nI_lt (b := 4) (by omega) (by omega)⟩
  have h2 : (2 ≤ nI (min a 5)) = (2 ≤ nI a) := propext ⟨fun h => by
    have := (nI_leI (a := 2) (by omega) (by omega)).mp h
    exact nI_le (a := 2) (by omega) (by omega), fun h => by
    have := (nI_leI (a := 2) (by omega) (by omega)).mp h
    exact nI_le (a := 2) (by omega) (by omega)⟩
  have h10 : ¬ (1 : Int32) = 0 := by decide
  unfold r_X3_mustWait r_X4_waits j_X3_mustWait_28_s0
  rw [fld_16, fld_12, fld_20, hc_eq, hr, hd]
  simp only [h5, h4, h2]
  by_cases hb : ((jushr p 20) &&& 7) = 5 <;> by_cases hh : r_X4_hasConstant ((jushr p 16) &&& 15) ((jushr p 12) &&& 15) = 0 <;> simp only [hb, hh, if_true, if_false, h10]
theorem bus_eq {mar : Int32} (hm : W16 mar) (fR fC fW : Nat → Int32) (rL rIn hand p : Int32) : k_X3_perform_bus fR fC fW rL rIn mar hand p = k_X4_act_bus fC fW fR rL mar rIn hand (jushr p 27) ((jushr p 20) &&& 7) ((jushr p 16) &&& 15) ((jushr p 12) &&& 15) := by
  unfold k_X3_perform_bus k_X4_act_bus r_X3_busOf r_X4_bus
  rw [hc_eq, fld_20, ad_eq hm]
theorem hnd_w {hand : Int32} (h : Hnd hand) : W16 hand := by
  obtain ⟨k, hk, e⟩ := h
  exact ⟨k, by omega, e⟩
theorem bus_w {fR fC fW : Nat → Int32} {rL rIn mar hand : Int32} (h1 : ∀ j, W16 (fR j)) (h2 : ∀ j, W16 (fC j)) (h3 : ∀ j, W16 (fW j)) (h4 : W16 rL) (h5 : W16 rIn) (h6 : W16 mar) (h7 : W16 hand) (p : Int32) : W16 (k_X3_perform_bus fR fC fW rL rIn mar hand p) := by
  unfold k_X3_perform_bus r_X3_busOf
  split
  · split
    · exact h1 _
    · split
      · exact w16_0
      · split
        · exact w16_all
        · split
          · exact h5
          · split
            · exact h7
            · split
              · exact h3 _
              · split
                · exact h4
                · exact h6
  · exact h2 _
theorem shk_eq {rL : Int32} (h : W16 rL) (p : Int32) : k_X3_perform_sh rL p = k_X4_act_sh rL ((jushr p 16) &&& 15) := by
  unfold k_X3_perform_sh k_X4_act_sh
  rw [fld_16, sh_eq h]
theorem shk_w {rL : Int32} (h : W16 rL) (p : Int32) : W16 (k_X3_perform_sh rL p) := sh_w h _
theorem blk_eq {hand : Int32} (h : Hnd hand) (fk : Nat → Int32) (f : Int32) : j_X2_goOn_65_qk fk hand f = j_X4_act_175_pK fk hand f := by
  obtain ⟨k, hk, rfl⟩ := h
  unfold j_X2_goOn_65_qk j_X4_act_175_pK
  have e : (nI k = 0) = (nI k ≤ 0) := propext ⟨fun h => by rw [h]; decide, fun h => by
    have := (nI_leI (b := 0) (by omega) (by omega)).mp h
    rw [show k = 0 by omega]; rfl⟩
  simp only [e]
theorem gw_eq (f : Nat → Int32) : r_X2_greatestWoken f = j_X4_give_32_l3 f := rfl
theorem hnd_ite {c : Prop} [Decidable c] {a b : Int32} (ha : Hnd a) (hb : Hnd b) : Hnd (if c then a else b) := by
  by_cases h : c
  · rw [if_pos h]; exact ha
  · rw [if_neg h]; exact hb
theorem gw_lt (f : Nat → Int32) : Hnd (r_X2_greatestWoken f) := by
  unfold r_X2_greatestWoken
  repeat' apply hnd_ite
  all_goals first | exact ⟨15, by omega, rfl⟩ | exact ⟨14, by omega, rfl⟩ | exact ⟨13, by omega, rfl⟩ | exact ⟨12, by omega, rfl⟩ | exact ⟨11, by omega, rfl⟩ | exact ⟨10, by omega, rfl⟩ | exact ⟨9, by omega, rfl⟩ | exact ⟨8, by omega, rfl⟩ | exact ⟨7, by omega, rfl⟩ | exact ⟨6, by omega, rfl⟩ | exact ⟨5, by omega, rfl⟩ | exact ⟨4, by omega, rfl⟩ | exact ⟨3, by omega, rfl⟩ | exact ⟨2, by omega, rfl⟩ | exact ⟨1, by omega, rfl⟩ | exact ⟨0, by omega, rfl⟩
theorem alu_t2 (p : Int32) : r_X3_givesAluToT ((jushr p 23) &&& 15) = r_X4_isOfAlu ((jushr p 23) &&& 15) := by
  obtain ⟨k, hk, e⟩ := pk_andE (jushr p 23) (m := 15) 4 (by decide)
  rw [e]
  exact alu_t k hk
section
variable {fR fC fI fW fp fc fd fk fo : Nat → Int32} {rT rL rC rIn mar hand said hov kept gone : Int32} {B : Nat}
theorem st_R (hL : W16 rL) (p : Int32) : j_X3_perform_80_qR fR rL p = j_X4_act_48_pR fR rL (jushr p 27) ((jushr p 20) &&& 7) ((jushr p 16) &&& 15) ((jushr p 12) &&& 15) := by
  unfold j_X3_perform_80_qR j_X4_act_48_pR
  rw [fld_20, hc_eq, shk_eq hL]
theorem st_M (hm : W16 mar) (p : Int32) : j_X3_useMemory_17_qW fW mar p (k_X3_perform_bus fR fC fW rL rIn mar hand p) = j_X4_act_71_pM fC fW fR rL mar rIn hand (jushr p 27) ((jushr p 20) &&& 7) ((jushr p 16) &&& 15) ((jushr p 12) &&& 15) := by
  unfold j_X3_useMemory_17_qW j_X4_act_71_pM
  rw [fld_12, bus_eq hm, ad_eq hm]
variable (h1 : ∀ j, W16 (fR j)) (h2 : ∀ j, W16 (fC j)) (h3 : ∀ j, W16 (fW j)) (hT : W16 rT) (hL : W16 rL) (hC : rC = 0 ∨ rC = 1) (hI : W16 rIn) (hm : W16 mar) (hh : Hnd hand)
theorem st_lo (h1 : ∀ j, W16 (fR j)) (h2 : ∀ j, W16 (fC j)) (h3 : ∀ j, W16 (fW j)) (hT : W16 rT) (hL : W16 rL) (hC : rC = 0 ∨ rC = 1) (hI : W16 rIn) (hm : W16 mar) (hh : Hnd hand) (p : Int32) : (k_X3_perform_sum fR fC fW rT rL rC rIn mar hand p) &&& 65535 = z_X4_reckon_qm26 rT rC ((jushr p 23) &&& 15) (k_X4_act_bus fC fW fR rL mar rIn hand (jushr p 27) ((jushr p 20) &&& 7) ((jushr p 16) &&& 15) ((jushr p 12) &&& 15)) := by
  unfold k_X3_perform_sum
  rw [alu_lo hT (bus_w h1 h2 h3 hL hI hm (hnd_w hh) p) hC, bus_eq hm, fld_23]
theorem st_hi (h1 : ∀ j, W16 (fR j)) (h2 : ∀ j, W16 (fC j)) (h3 : ∀ j, W16 (fW j)) (hT : W16 rT) (hL : W16 rL) (hC : rC = 0 ∨ rC = 1) (hI : W16 rIn) (hm : W16 mar) (hh : Hnd hand) (p : Int32) : (k_X3_perform_sum fR fC fW rT rL rC rIn mar hand p) >>> (16 &&& 31) = z_X4_reckon_qm27 rT rC ((jushr p 23) &&& 15) (k_X4_act_bus fC fW fR rL mar rIn hand (jushr p 27) ((jushr p 20) &&& 7) ((jushr p 16) &&& 15) ((jushr p 12) &&& 15)) := by
  unfold k_X3_perform_sum
  rw [alu_hi hT (bus_w h1 h2 h3 hL hI hm (hnd_w hh) p) hC, bus_eq hm, fld_23]
theorem st_w (h1 : ∀ j, W16 (fR j)) (h2 : ∀ j, W16 (fC j)) (h3 : ∀ j, W16 (fW j)) (hT : W16 rT) (hL : W16 rL) (hC : rC = 0 ∨ rC = 1) (hI : W16 rIn) (hm : W16 mar) (hh : Hnd hand) (p : Int32) : W16 ((k_X3_perform_sum fR fC fW rT rL rC rIn mar hand p) &&& 65535) := w16_mask _
theorem st_b (h1 : ∀ j, W16 (fR j)) (h2 : ∀ j, W16 (fC j)) (h3 : ∀ j, W16 (fW j)) (hT : W16 rT) (hL : W16 rL) (hC : rC = 0 ∨ rC = 1) (hI : W16 rIn) (hm : W16 mar) (hh : Hnd hand) (p : Int32) : (k_X3_perform_sum fR fC fW rT rL rC rIn mar hand p) >>> (16 &&& 31) = 0 ∨ (k_X3_perform_sum fR fC fW rT rL rC rIn mar hand p) >>> (16 &&& 31) = 1 := by
  have hb := bus_w h1 h2 h3 hL hI hm (hnd_w hh) p
  unfold k_X3_perform_sum
  rw [alu_hi hT hb hC]
  exact alu_bit hT hb hC _
theorem ld_T (p : Int32) {x y : Int32} : (if (r_X3_loadsT p) = 0 then x else y) = (if ((p >>> (11 &&& 31)) &&& 1) = 1 then y else x) := by
  unfold r_X3_loadsT
  by_cases h : ((p >>> (11 &&& 31)) &&& 1) = 1
  · rw [if_pos h, if_pos h, if_neg (by decide)]
  · rw [if_neg h, if_neg h, if_pos rfl]
theorem ld_L (p : Int32) {x y : Int32} : (if (r_X3_loadsL p) = 0 then x else y) = (if ((p >>> (10 &&& 31)) &&& 1) = 1 then y else x) := by
  unfold r_X3_loadsL
  by_cases h : ((p >>> (10 &&& 31)) &&& 1) = 1
  · rw [if_pos h, if_pos h, if_neg (by decide)]
  · rw [if_neg h, if_neg h, if_pos rfl]
theorem st_T (h1 : ∀ j, W16 (fR j)) (h2 : ∀ j, W16 (fC j)) (h3 : ∀ j, W16 (fW j)) (hT : W16 rT) (hL : W16 rL) (hC : rC = 0 ∨ rC = 1) (hI : W16 rIn) (hm : W16 mar) (hh : Hnd hand) (p : Int32) : j_X3_perform_105_qx6 fR fC fW rT rL rC rIn mar hand p = j_X4_act_100_qm4 fC fW fR rT rL rC mar rIn hand (jushr p 27) ((jushr p 23) &&& 15) ((jushr p 20) &&& 7) ((jushr p 16) &&& 15) ((jushr p 12) &&& 15) p := by
  unfold j_X3_perform_105_qx6 j_X4_act_100_qm4
  rw [ld_T, st_lo h1 h2 h3 hT hL hC hI hm hh, bus_eq hm, fld_23, alu_t2]
theorem st_L (h1 : ∀ j, W16 (fR j)) (h2 : ∀ j, W16 (fC j)) (h3 : ∀ j, W16 (fW j)) (hT : W16 rT) (hL : W16 rL) (hC : rC = 0 ∨ rC = 1) (hI : W16 rIn) (hm : W16 mar) (hh : Hnd hand) (p : Int32) : j_X3_perform_127_qx7 fR fC fW rT rL rC rIn mar hand p = j_X4_act_126_qm5 fC fW fR rT rL rC mar rIn hand (jushr p 27) ((jushr p 23) &&& 15) ((jushr p 20) &&& 7) ((jushr p 16) &&& 15) ((jushr p 12) &&& 15) p := by
  unfold j_X3_perform_127_qx7 j_X4_act_126_qm5
  rw [ld_L, st_lo h1 h2 h3 hT hL hC hI hm hh]
theorem st_C (h1 : ∀ j, W16 (fR j)) (h2 : ∀ j, W16 (fC j)) (h3 : ∀ j, W16 (fW j)) (hT : W16 rT) (hL : W16 rL) (hC : rC = 0 ∨ rC = 1) (hI : W16 rIn) (hm : W16 mar) (hh : Hnd hand) (p : Int32) : j_X3_perform_127_qx8 fR fC fW rT rL rC rIn mar hand p = j_X4_act_126_qm6 fC fW fR rT rL rC mar rIn hand (jushr p 27) ((jushr p 23) &&& 15) ((jushr p 20) &&& 7) ((jushr p 16) &&& 15) ((jushr p 12) &&& 15) p := by
  unfold j_X3_perform_127_qx8 j_X4_act_126_qm6
  rw [ld_L, st_hi h1 h2 h3 hT hL hC hI hm hh]
theorem st_mar (h1 : ∀ j, W16 (fR j)) (h2 : ∀ j, W16 (fC j)) (h3 : ∀ j, W16 (fW j)) (hT : W16 rT) (hL : W16 rL) (hC : rC = 0 ∨ rC = 1) (hI : W16 rIn) (hm : W16 mar) (hh : Hnd hand) (p : Int32) : z_X3_useMemory_qM1 mar p ((k_X3_perform_sum fR fC fW rT rL rC rIn mar hand p) &&& 65535) = j_X4_act_150_qm7 fC fW fR rT rL rC mar rIn hand (jushr p 27) ((jushr p 23) &&& 15) ((jushr p 20) &&& 7) ((jushr p 16) &&& 15) ((jushr p 12) &&& 15) := by
  unfold z_X3_useMemory_qM1 j_X4_act_150_qm7
  rw [st_lo h1 h2 h3 hT hL hC hI hm hh, fld_16]
theorem st_hand (hh : Hnd hand) (p : Int32) : j_X2_goOn_80_qT4 fk hand said ((p >>> (16 &&& 31)) &&& 15) = j_X4_give_62_qm13 (j_X4_act_175_pK fk hand ((jushr p 16) &&& 15)) hand said := by
  unfold j_X2_goOn_80_qT4 j_X4_give_62_qm13 z_X2_giveTo_qT4
  rw [blk_eq hh, fld_16, gw_eq]
  congr 1
  split
  · rename_i h; exact h.symm
  · rfl
theorem st_hov (hh : Hnd hand) (p : Int32) : j_X2_goOn_80_qT5 fk hand hov said ((p >>> (16 &&& 31)) &&& 15) = j_X4_give_62_qm17 (j_X4_act_175_pK fk hand ((jushr p 16) &&& 15)) hand said hov := by
  unfold j_X2_goOn_80_qT5 j_X4_give_62_qm17 z_X2_giveTo_qT5
  rw [blk_eq hh, fld_16, gw_eq]
theorem st_said (p : Int32) : z_X2_goOn_qT6 ((p >>> (16 &&& 31)) &&& 15) = (if ((jushr p 16) &&& 15) = 2 then 1 else 0) := by
  unfold z_X2_goOn_qT6
  rw [fld_16]
theorem st_chg (h1 : ∀ j, W16 (fR j)) (h2 : ∀ j, W16 (fC j)) (h3 : ∀ j, W16 (fW j)) (hT : W16 rT) (hL : W16 rL) (hC : rC = 0 ∨ rC = 1) (hI : W16 rIn) (hm : W16 mar) (hh : Hnd hand) (p : Int32) : k_X3_perform_chg fR fC fW rL rC rIn mar hand p = k_X4_act_chg fC fW fR rL rC mar rIn hand (jushr p 27) ((jushr p 20) &&& 7) ((jushr p 16) &&& 15) ((jushr p 12) &&& 15) := by
  unfold k_X3_perform_chg k_X4_act_chg
  rw [chg_eq hI (bus_w h1 h2 h3 hL hI hm (hnd_w hh) p), bus_eq hm, shk_eq hL, fld_12]
theorem st_gone (p : Int32) : j_X3_perform_151_qO2 gone p = j_X4_act_214_qm19 gone ((jushr p 16) &&& 15) := by
  unfold j_X3_perform_151_qO2 j_X4_act_214_qm19
  rw [fld_16]
theorem st_out (hm : W16 mar) (ho : Ous B kept gone) (hB : B < 2147483000) (p : Int32) : j_X3_perform_151_qo fR fC fW fo rL rIn mar hand kept p = j_X4_act_214_pO fC fW fR fo rL mar rIn hand gone (jushr p 27) ((jushr p 20) &&& 7) ((jushr p 16) &&& 15) ((jushr p 12) &&& 15) := by
  obtain ⟨n, hn, rfl, rfl⟩ := ho
  unfold j_X3_perform_151_qo j_X4_act_214_pO z_X1_send_qo
  rw [fld_16, bus_eq hm]
  by_cases h : 500 ≤ n
  · have c1 : (500 : Int32) ≤ nI (min n 500) := nI_le (a := 500) (by omega) (by omega)
    have c2 : (500 : Int32) ≤ nI n := nI_le (a := 500) h (by omega)
    simp only [if_pos c1, if_pos c2]
  · have c1 : ¬ (500 : Int32) ≤ nI n := nI_ge (a := n) (b := 500) (by omega) (by omega)
    rw [show min n 500 = n by omega]
theorem st_beg {cyc beg : Int32} (p : Int32) : j_X4_act_150_qm18 cyc beg ((jushr p 16) &&& 15) = (if ((jushr p 16) &&& 15) = 1 then cyc else beg) := rfl
end
end
