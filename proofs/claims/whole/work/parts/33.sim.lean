section
theorem w16_upd {f : Nat → Int32} {x : Int32} {k : Nat} (h : ∀ j, W16 (f j)) (hx : W16 x) : ∀ j, W16 (upd f k x j) := fun j => by
  by_cases e : j = k
  · rw [e, pk_us]; exact hx
  · rw [pk_un e]; exact h j
theorem w10_upd {f : Nat → Int32} {x : Int32} {k : Nat} (h : ∀ j, W10 (f j)) (hx : W10 x) : ∀ j, W10 (upd f k x j) := fun j => by
  by_cases e : j = k
  · rw [e, pk_us]; exact hx
  · rw [pk_un e]; exact h j
theorem w10_or {a b : Int32} (ha : W10 a) (hb : W10 b) : W10 (a ||| b) := by
  obtain ⟨x, hx, rfl⟩ := ha
  obtain ⟨y, hy, rfl⟩ := hb
  exact ⟨x ||| y, Nat.or_lt_two_pow (n := 10) hx hy, nx_or x y⟩
theorem w10_and (p : Int32) : W10 (p &&& 1023) := by
  obtain ⟨j, hj, e⟩ := pk_andE p (m := 1023) 10 (by decide)
  exact ⟨j, by omega, e⟩
theorem w10_in {x : Int32} (h : W10 x) : vp_in x 1024 := by
  obtain ⟨n, hn, rfl⟩ := h
  exact vp_in_nI hn (by decide)
theorem hnd_in {x : Int32} (h : Hnd x) : vp_in x 16 := by
  obtain ⟨n, hn, rfl⟩ := h
  exact vp_in_nI hn (by decide)
theorem i_add1 (a b : Int32) : a + 1 - b = a - b + 1 := by
  rw [Int32.sub_eq_add_neg, Int32.sub_eq_add_neg, Int32.add_assoc, Int32.add_assoc, Int32.add_comm 1 (-b)]
theorem rest_eq (a : Nat) : z_X0_rest_qM2 (nI (min a 5)) = nI (min (a + 1) 5) := by
  unfold z_X0_rest_qM2
  by_cases h : 5 ≤ a
  · have c : (5 : Int32) ≤ nI (min a 5) := nI_le (a := 5) (by omega) (by omega)
    rw [if_pos c]; congr 1; omega
  · have c : ¬ (5 : Int32) ≤ nI (min a 5) := nI_ge (a := min a 5) (b := 5) (by omega) (by omega)
    rw [if_neg c, nI_1]; congr 1; omega
theorem tim_go {B : Nat} {cyc beg rst : Int32} (h : Tim B cyc beg rst) : Tim (B + 1) (cyc + 1) beg (z_X0_rest_qM2 rst) := by
  obtain ⟨a, ha, hd, hr⟩ := h
  exact ⟨a + 1, by omega, by rw [i_add1, hd, nI_1], by rw [hr, rest_eq]⟩
theorem tim_do {B : Nat} {cyc beg rst : Int32} (h : Tim B cyc beg rst) (p : Int32) : Tim (B + 1) (cyc + 1) (if ((jushr p 16) &&& 15) = 1 then cyc else beg) (z_X0_rest_qM2 (z_X3_useMemory_qM2 rst p)) := by
  unfold z_X3_useMemory_qM2
  rw [fld_16]
  by_cases e : ((jushr p 16) &&& 15) = 1
  · rw [if_pos e, if_pos e]
    refine ⟨1, by omega, ?_, by decide⟩
    rw [i_add1, Int32.sub_self]
    decide
  · rw [if_neg e, if_neg e]
    exact tim_go h
theorem ous_up {B : Nat} {kept gone : Int32} (h : Ous B kept gone) : Ous (B + 1) kept gone := by
  obtain ⟨n, hn, e⟩ := h
  exact ⟨n, by omega, e⟩
theorem ous_do {B : Nat} {kept gone : Int32} (h : Ous B kept gone) (hB : B < 2147483000) (p : Int32) : Ous (B + 1) (j_X3_perform_151_qO1 kept p) (j_X3_perform_151_qO2 gone p) := by
  unfold j_X3_perform_151_qO1 j_X3_perform_151_qO2
  by_cases e : ((p >>> (16 &&& 31)) &&& 15) = 8
  · rw [if_pos e, if_pos e]
    obtain ⟨n, hn, rfl, rfl⟩ := h
    refine ⟨n + 1, by omega, nI_1 n, ?_⟩
    unfold z_X1_send_qO1
    by_cases h : 500 ≤ n
    · have c : (500 : Int32) ≤ nI (min n 500) := nI_le (a := 500) (by omega) (by omega)
      rw [if_pos c]; congr 1; omega
    · have c : ¬ (500 : Int32) ≤ nI (min n 500) := nI_ge (a := min n 500) (b := 500) (by omega) (by omega)
      rw [if_neg c, nI_1]; congr 1; omega
  · rw [if_neg e, if_neg e]
    exact ous_up h
theorem blk_01 {fk : Nat → Int32} {hand : Int32} (hk : ∀ j, fk j = 0 ∨ fk j = 1) (f : Int32) : ∀ j, j_X2_goOn_65_qk fk hand f j = 0 ∨ j_X2_goOn_65_qk fk hand f j = 1 := by
  intro j
  unfold j_X2_goOn_65_qk
  split
  · split
    · exact hk j
    · by_cases e : j = (Int32.toNatClampNeg hand)
      · rw [e, pk_us]; exact Or.inl rfl
      · rw [pk_un e]; exact hk j
  · exact hk j
theorem blk_0 {fk : Nat → Int32} {hand : Int32} (hk : fk 0 = 1) (hh : Hnd hand) (f : Int32) : j_X2_goOn_65_qk fk hand f 0 = 1 := by
  obtain ⟨h, h16, rfl⟩ := hh
  unfold j_X2_goOn_65_qk
  split
  · split
    · exact hk
    · rename_i h0
      rw [nI_clamp (by omega), pk_un (fun e => h0 (by rw [← e]; rfl))]
      exact hk
  · exact hk
theorem m16_ite {c : Prop} [Decidable c] {a b : Int32} (ha : W16 a) (hb : W16 b) : W16 (if c then a else b) := by
  by_cases h : c
  · rw [if_pos h]; exact ha
  · rw [if_neg h]; exact hb
set_option maxHeartbeats 4000000 in
theorem inv_do {B : Nat} {beg : Int32} {fR fC fI fW fp fc fd fk fo : Nat → Int32} {rT rL rC rIn cyc wai mar rst hand hov said kept gone : Int32} (h : Inv B beg (fR, fC, fI, fW, fp, fc, fd, fk, fo, rT, rL, rC, rIn, cyc, wai, mar, rst, hand, hov, said, kept, gone)) (hB : B < 2147483000) (p : Int32) : Inv (B + 1) (if ((jushr p 16) &&& 15) = 1 then cyc else beg) (j_X3_perform_80_qR fR rL p, fC, fI, j_X3_useMemory_17_qW fW mar p (k_X3_perform_bus fR fC fW rL rIn mar hand p), upd fp (Int32.toNatClampNeg hand) ((p &&& 1023) ||| (fc (Int32.toNatClampNeg hand))), upd fc (Int32.toNatClampNeg hand) (k_X3_perform_chg fR fC fW rL rC rIn mar hand p), upd fd (Int32.toNatClampNeg hand) ((fd (Int32.toNatClampNeg hand)) + 1), j_X2_goOn_65_qk fk hand ((p >>> (16 &&& 31)) &&& 15), j_X3_perform_151_qo fR fC fW fo rL rIn mar hand kept p, j_X3_perform_105_qx6 fR fC fW rT rL rC rIn mar hand p, j_X3_perform_127_qx7 fR fC fW rT rL rC rIn mar hand p, j_X3_perform_127_qx8 fR fC fW rT rL rC rIn mar hand p, rIn, cyc + 1, wai, z_X3_useMemory_qM1 mar p ((k_X3_perform_sum fR fC fW rT rL rC rIn mar hand p) &&& 65535), z_X0_rest_qM2 (z_X3_useMemory_qM2 rst p), j_X2_goOn_80_qT4 fk hand said ((p >>> (16 &&& 31)) &&& 15), j_X2_goOn_80_qT5 fk hand hov said ((p >>> (16 &&& 31)) &&& 15), z_X2_goOn_qT6 ((p >>> (16 &&& 31)) &&& 15), j_X3_perform_151_qO1 kept p, j_X3_perform_151_qO2 gone p) := by
  obtain ⟨h1, h2, h3, hT, hL, hC, hI, hm, hh, hp, hc, hk, hk0, ho, ht⟩ := h
  have hb := bus_w h1 h2 h3 hL hI hm (hnd_w hh) p
  refine ⟨?_, h2, ?_, ?_, ?_, ?_, hI, ?_, ?_, ?_, ?_, blk_01 hk _, blk_0 hk0 hh _, ous_do ho hB p, tim_do ht p⟩
  · unfold j_X3_perform_80_qR
    split
    · split
      · exact w16_upd h1 (shk_w hL p)
      · exact h1
    · exact h1
  · unfold j_X3_useMemory_17_qW
    split
    · exact w16_upd h3 hb
    · exact h3
  · unfold j_X3_perform_105_qx6
    exact m16_ite hT (m16_ite hb (w16_mask _))
  · unfold j_X3_perform_127_qx7
    exact m16_ite hL (w16_mask _)
  · unfold j_X3_perform_127_qx8
    split
    · exact hC
    · exact st_b h1 h2 h3 hT hL hC hI hm hh p
  · unfold z_X3_useMemory_qM1
    exact m16_ite (w16_mask _) hm
  · unfold j_X2_goOn_80_qT4 z_X2_giveTo_qT4
    exact hnd_ite hh (hnd_ite hh (gw_lt _))
  · exact w10_upd hp (w10_or (w10_and p) (hc _))
  · exact w10_upd hc (chg_w hC (shk_w hL p) _)
set_option maxHeartbeats 4000000 in
set_option maxRecDepth 100000 in
theorem sim_step {B : Nat} {beg rs al bs f1 f2 sm sc : Int32} {u : XS} (h : Inv B beg u) (hB : B < 2147483000) : ∃ beg2 rs2 al2 bs2 f12 f22 sm2 sc2 : Int32, m_step (mOf u beg rs al bs f1 f2 sm sc) = mOf (x_step u) beg2 rs2 al2 bs2 f12 f22 sm2 sc2 ∧ Inv (B + 1) beg2 (x_step u) ∧ ∀ d, m_next (mOf u beg rs al bs f1 f2 sm sc) d = x_next u d := by
  obtain ⟨fR, fC, fI, fW, fp, fc, fd, fk, fo, rT, rL, rC, rIn, cyc, wai, mar, rst, hand, hov, said, kept, gone⟩ := u
  have hall := h
  obtain ⟨h1, h2, h3, hT, hL, hC, hI, hm, hh, hp, hc, hk, hk0, ho, ht⟩ := h
  have hi : k_X4_run_ins fI fp hand = (k_X3_cycle_ins fI fp hand) := rfl
  generalize hpe : (k_X3_cycle_ins fI fp hand) = p at hi
  have hw := wait_eq ht hB p
  by_cases hz : r_X3_mustWait rst p = 0
  · have hz2 := hw.symm.trans hz
    have X : x_step (fR, fC, fI, fW, fp, fc, fd, fk, fo, rT, rL, rC, rIn, cyc, wai, mar, rst, hand, hov, said, kept, gone) = (j_X3_perform_80_qR fR rL p, fC, fI, j_X3_useMemory_17_qW fW mar p (k_X3_perform_bus fR fC fW rL rIn mar hand p), upd fp (Int32.toNatClampNeg hand) ((p &&& 1023) ||| (fc (Int32.toNatClampNeg hand))), upd fc (Int32.toNatClampNeg hand) (k_X3_perform_chg fR fC fW rL rC rIn mar hand p), upd fd (Int32.toNatClampNeg hand) ((fd (Int32.toNatClampNeg hand)) + 1), j_X2_goOn_65_qk fk hand ((p >>> (16 &&& 31)) &&& 15), j_X3_perform_151_qo fR fC fW fo rL rIn mar hand kept p, j_X3_perform_105_qx6 fR fC fW rT rL rC rIn mar hand p, j_X3_perform_127_qx7 fR fC fW rT rL rC rIn mar hand p, j_X3_perform_127_qx8 fR fC fW rT rL rC rIn mar hand p, rIn, cyc + 1, wai, z_X3_useMemory_qM1 mar p ((k_X3_perform_sum fR fC fW rT rL rC rIn mar hand p) &&& 65535), z_X0_rest_qM2 (z_X3_useMemory_qM2 rst p), j_X2_goOn_80_qT4 fk hand said ((p >>> (16 &&& 31)) &&& 15), j_X2_goOn_80_qT5 fk hand hov said ((p >>> (16 &&& 31)) &&& 15), z_X2_goOn_qT6 ((p >>> (16 &&& 31)) &&& 15), j_X3_perform_151_qO1 kept p, j_X3_perform_151_qO2 gone p) := by simp only [x_step, z_X3_cycle_qR, z_X3_cycle_qW, z_X3_cycle_qp, z_X3_cycle_qc, z_X3_cycle_qd, z_X3_cycle_qk, z_X3_cycle_qo, z_X3_cycle_qx6, z_X3_cycle_qx7, z_X3_cycle_qx8, z_X3_cycle_qx11, z_X3_cycle_qM1, z_X3_cycle_qM2, z_X3_cycle_qT4, z_X3_cycle_qT5, z_X3_cycle_qT6, z_X3_cycle_qO1, z_X3_cycle_qO2, hpe, if_pos hz]
    have M : m_step (mOf (fR, fC, fI, fW, fp, fc, fd, fk, fo, rT, rL, rC, rIn, cyc, wai, mar, rst, hand, hov, said, kept, gone) beg rs al bs f1 f2 sm sc) = (fI, fC, j_X4_act_71_pM fC fW fR rL mar rIn hand (jushr p 27) ((jushr p 20) &&& 7) ((jushr p 16) &&& 15) ((jushr p 12) &&& 15), j_X4_act_48_pR fR rL (jushr p 27) ((jushr p 20) &&& 7) ((jushr p 16) &&& 15) ((jushr p 12) &&& 15), upd fp (Int32.toNatClampNeg hand) ((p &&& 1023) ||| (fc (Int32.toNatClampNeg hand))), upd fc (Int32.toNatClampNeg hand) (k_X4_act_chg fC fW fR rL rC mar rIn hand (jushr p 27) ((jushr p 20) &&& 7) ((jushr p 16) &&& 15) ((jushr p 12) &&& 15)), (j_X4_act_175_pK fk hand ((jushr p 16) &&& 15)), upd fd (Int32.toNatClampNeg hand) ((fd (Int32.toNatClampNeg hand)) + 1), j_X4_act_214_pO fC fW fR fo rL mar rIn hand gone (jushr p 27) ((jushr p 20) &&& 7) ((jushr p 16) &&& 15) ((jushr p 12) &&& 15), j_X4_act_100_qm4 fC fW fR rT rL rC mar rIn hand (jushr p 27) ((jushr p 23) &&& 15) ((jushr p 20) &&& 7) ((jushr p 16) &&& 15) ((jushr p 12) &&& 15) p, j_X4_act_126_qm5 fC fW fR rT rL rC mar rIn hand (jushr p 27) ((jushr p 23) &&& 15) ((jushr p 20) &&& 7) ((jushr p 16) &&& 15) ((jushr p 12) &&& 15) p, j_X4_act_126_qm6 fC fW fR rT rL rC mar rIn hand (jushr p 27) ((jushr p 23) &&& 15) ((jushr p 20) &&& 7) ((jushr p 16) &&& 15) ((jushr p 12) &&& 15) p, j_X4_act_150_qm7 fC fW fR rT rL rC mar rIn hand (jushr p 27) ((jushr p 23) &&& 15) ((jushr p 20) &&& 7) ((jushr p 16) &&& 15) ((jushr p 12) &&& 15), rIn, j_X4_give_62_qm13 (j_X4_act_175_pK fk hand ((jushr p 16) &&& 15)) hand said, (if ((jushr p 16) &&& 15) = 2 then 1 else 0), cyc + 1, wai, j_X4_give_62_qm17 (j_X4_act_175_pK fk hand ((jushr p 16) &&& 15)) hand said hov, j_X4_act_150_qm18 cyc beg ((jushr p 16) &&& 15), j_X4_act_214_qm19 gone ((jushr p 16) &&& 15), (jushr p 27), ((jushr p 23) &&& 15), ((jushr p 20) &&& 7), ((jushr p 16) &&& 15), ((jushr p 12) &&& 15), z_X4_reckon_qm26 rT rC ((jushr p 23) &&& 15) (k_X4_act_bus fC fW fR rL mar rIn hand (jushr p 27) ((jushr p 20) &&& 7) ((jushr p 16) &&& 15) ((jushr p 12) &&& 15)), z_X4_reckon_qm27 rT rC ((jushr p 23) &&& 15) (k_X4_act_bus fC fW fR rL mar rIn hand (jushr p 27) ((jushr p 20) &&& 7) ((jushr p 16) &&& 15) ((jushr p 12) &&& 15))) := by simp only [m_step, mOf, z_X4_run_pM, z_X4_run_pR, z_X4_run_pP, z_X4_run_pH, z_X4_run_pK, z_X4_run_pD, z_X4_run_pO, z_X4_run_qm4, z_X4_run_qm5, z_X4_run_qm6, z_X4_run_qm7, z_X4_run_qm13, z_X4_run_qm14, z_X4_run_qm16, z_X4_run_qm17, z_X4_run_qm18, z_X4_run_qm19, z_X4_run_qm26, z_X4_run_qm27, hi, if_pos hz2]
    refine ⟨if ((jushr p 16) &&& 15) = 1 then cyc else beg, (jushr p 27), ((jushr p 23) &&& 15), ((jushr p 20) &&& 7), ((jushr p 16) &&& 15), ((jushr p 12) &&& 15), z_X4_reckon_qm26 rT rC ((jushr p 23) &&& 15) (k_X4_act_bus fC fW fR rL mar rIn hand (jushr p 27) ((jushr p 20) &&& 7) ((jushr p 16) &&& 15) ((jushr p 12) &&& 15)), z_X4_reckon_qm27 rT rC ((jushr p 23) &&& 15) (k_X4_act_bus fC fW fR rL mar rIn hand (jushr p 27) ((jushr p 20) &&& 7) ((jushr p 16) &&& 15) ((jushr p 12) &&& 15)), ?_, ?_, ?_⟩
    · rw [M, X]
      simp only [mOf, st_R hL, st_M hm, st_chg h1 h2 h3 hT hL hC hI hm hh, blk_eq hh, st_out hm ho hB, st_T h1 h2 h3 hT hL hC hI hm hh, st_L h1 h2 h3 hT hL hC hI hm hh, st_C h1 h2 h3 hT hL hC hI hm hh, st_mar h1 h2 h3 hT hL hC hI hm hh, st_hand hh, st_hov hh, st_said, st_gone, st_beg]
      simp only [fld_16]
    · rw [X]
      exact inv_do hall hB p
    · intro d
      show z_X4_run_d fI fp hand cyc beg d = z_X3_run_d fI fp rst hand d
      have h10 : ¬ (1 : Int32) = 0 := by decide
      simp only [z_X4_run_d, z_X3_run_d, r_X3_cycle, hi, hpe, if_pos hz, if_pos hz2, if_neg h10]
  · have hz2 : ¬ r_X4_waits cyc beg ((jushr p 20) &&& 7) ((jushr p 16) &&& 15) ((jushr p 12) &&& 15) = 0 := fun e => hz (hw.trans e)
    have X : x_step (fR, fC, fI, fW, fp, fc, fd, fk, fo, rT, rL, rC, rIn, cyc, wai, mar, rst, hand, hov, said, kept, gone) = (fR, fC, fI, fW, fp, fc, fd, fk, fo, rT, rL, rC, rIn, cyc + 1, wai + 1, mar, z_X0_rest_qM2 rst, hand, hov, said, kept, gone) := by simp only [x_step, z_X3_cycle_qR, z_X3_cycle_qW, z_X3_cycle_qp, z_X3_cycle_qc, z_X3_cycle_qd, z_X3_cycle_qk, z_X3_cycle_qo, z_X3_cycle_qx6, z_X3_cycle_qx7, z_X3_cycle_qx8, z_X3_cycle_qx11, z_X3_cycle_qM1, z_X3_cycle_qM2, z_X3_cycle_qT4, z_X3_cycle_qT5, z_X3_cycle_qT6, z_X3_cycle_qO1, z_X3_cycle_qO2, hpe, if_neg hz]
    have M : m_step (mOf (fR, fC, fI, fW, fp, fc, fd, fk, fo, rT, rL, rC, rIn, cyc, wai, mar, rst, hand, hov, said, kept, gone) beg rs al bs f1 f2 sm sc) = (fI, fC, fW, fR, fp, fc, fk, fd, fo, rT, rL, rC, mar, rIn, hand, said, cyc + 1, wai + 1, hov, beg, gone, (jushr p 27), ((jushr p 23) &&& 15), ((jushr p 20) &&& 7), ((jushr p 16) &&& 15), ((jushr p 12) &&& 15), sm, sc) := by simp only [m_step, mOf, z_X4_run_pM, z_X4_run_pR, z_X4_run_pP, z_X4_run_pH, z_X4_run_pK, z_X4_run_pD, z_X4_run_pO, z_X4_run_qm4, z_X4_run_qm5, z_X4_run_qm6, z_X4_run_qm7, z_X4_run_qm13, z_X4_run_qm14, z_X4_run_qm16, z_X4_run_qm17, z_X4_run_qm18, z_X4_run_qm19, z_X4_run_qm26, z_X4_run_qm27, hi, if_neg hz2]
    refine ⟨beg, (jushr p 27), ((jushr p 23) &&& 15), ((jushr p 20) &&& 7), ((jushr p 16) &&& 15), ((jushr p 12) &&& 15), sm, sc, ?_, ?_, ?_⟩
    · rw [M, X]
      rfl
    · rw [X]
      exact ⟨h1, h2, h3, hT, hL, hC, hI, hm, hh, hp, hc, hk, hk0, ous_up ho, tim_go ht⟩
    · intro d
      show z_X4_run_d fI fp hand cyc beg d = z_X3_run_d fI fp rst hand d
      simp only [z_X4_run_d, z_X3_run_d, r_X3_cycle, hi, hpe, if_neg hz, if_neg hz2, if_true]
theorem sim_run : ∀ (n B : Nat) (beg rs al bs f1 f2 sm sc : Int32) (u : XS), Inv B beg u → B + n < 2147483000 → ∃ beg2 rs2 al2 bs2 f12 f22 sm2 sc2 : Int32, m_run n (mOf u beg rs al bs f1 f2 sm sc) = mOf (x_run n u) beg2 rs2 al2 bs2 f12 f22 sm2 sc2 ∧ Inv (B + n) beg2 (x_run n u) ∧ ∀ d, m_cnt n (mOf u beg rs al bs f1 f2 sm sc) d = x_cnt n u d := by
  intro n
  induction n with
  | zero =>
    intro B beg rs al bs f1 f2 sm sc u h hB
    exact ⟨beg, rs, al, bs, f1, f2, sm, sc, rfl, h, fun d => rfl⟩
  | succ n ih =>
    intro B beg rs al bs f1 f2 sm sc u h hB
    obtain ⟨b2, r2, a2, s2, g2, k2, m2, c2, e, h2, hd⟩ := sim_step (rs := rs) (al := al) (bs := bs) (f1 := f1) (f2 := f2) (sm := sm) (sc := sc) h (by omega)
    obtain ⟨b3, r3, a3, s3, g3, k3, m3, c3, e3, h3, hd3⟩ := ih (B + 1) b2 r2 a2 s2 g2 k2 m2 c2 (x_step u) h2 (by omega)
    refine ⟨b3, r3, a3, s3, g3, k3, m3, c3, ?_, ?_, ?_⟩
    · show m_run n (m_step _) = _
      rw [e]
      exact e3
    · rw [show B + (n + 1) = B + 1 + n by omega]
      exact h3
    · intro d
      show m_cnt n (m_step _) (m_next _ d) = x_cnt n (x_step u) (x_next u d)
      rw [e, hd]
      exact hd3 _
theorem x_ok_of {B : Nat} {beg : Int32} {u : XS} (h : Inv B beg u) (hB : B < 2147483000) : x_ok u := by
  obtain ⟨fR, fC, fI, fW, fp, fc, fd, fk, fo, rT, rL, rC, rIn, cyc, wai, mar, rst, hand, hov, said, kept, gone⟩ := u
  obtain ⟨h1, h2, h3, hT, hL, hC, hI, hm, hh, hp, hc, hk, hk0, ho, ht⟩ := h
  obtain ⟨n, hn, hg, hkp⟩ := ho
  exact ⟨hnd_in hh, w10_in (hp _), by rw [hkp]; exact nI_pos (by omega)⟩
theorem m_ok_of {B : Nat} {beg rs al bs f1 f2 sm sc : Int32} {u : XS} (h : Inv B beg u) (hB : B < 2147483000) : m_ok (mOf u beg rs al bs f1 f2 sm sc) := by
  obtain ⟨fR, fC, fI, fW, fp, fc, fd, fk, fo, rT, rL, rC, rIn, cyc, wai, mar, rst, hand, hov, said, kept, gone⟩ := u
  obtain ⟨h1, h2, h3, hT, hL, hC, hI, hm, hh, hp, hc, hk, hk0, ho, ht⟩ := h
  obtain ⟨n, hn, hg, hkp⟩ := ho
  refine ⟨hnd_in hh, w10_in (hp _), ?_, by rw [hg]; exact nI_pos (by omega), ?_⟩
  · rw [← ad_eq hm]
    exact w10_in (w10_and _)
  · rw [show (Int32.toNatClampNeg 0) = 0 by decide, hk0]
    decide
theorem x_oks {B : Nat} {beg : Int32} {u : XS} (h : Inv B beg u) (hB : B + 5000 < 2147483000) : ∀ j, j < 5000 → x_ok (x_run j u) := fun j hj => by
  obtain ⟨b3, r3, a3, s3, g3, k3, m3, c3, e3, h3, hd3⟩ := sim_run j B beg 0 0 0 0 0 0 0 u h (by omega)
  exact x_ok_of h3 (by omega)
theorem m_oks {B : Nat} {beg rs al bs f1 f2 sm sc : Int32} {u : XS} (h : Inv B beg u) (hB : B + 5000 < 2147483000) : ∀ j, j < 5000 → m_ok (m_run j (mOf u beg rs al bs f1 f2 sm sc)) := fun j hj => by
  obtain ⟨b3, r3, a3, s3, g3, k3, m3, c3, e3, h3, hd3⟩ := sim_run j B beg rs al bs f1 f2 sm sc u h (by omega)
  rw [e3]
  exact m_ok_of h3 (by omega)
end
