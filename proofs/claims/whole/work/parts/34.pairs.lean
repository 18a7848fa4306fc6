section
theorem wi_0 {p q : Int32} {n : Nat} (hq : q.toInt + 1 = n) (hn : n < 2147483648) : r_X4_within p q = (if p < 0 then 0 else if p < Int32.ofNat n then 1 else 0) := by
  unfold r_X4_within
  by_cases h0 : p < 0
  · rw [if_pos h0, if_pos h0]
  · rw [if_neg h0, if_neg h0]
    have e : (Int32.ofNat n).toInt = n := nI_toInt hn
    by_cases h1 : q < p
    · rw [if_pos h1, if_neg]
      rw [Int32.lt_iff_toInt_lt] at h1 ⊢
      omega
    · rw [if_neg h1, if_pos]
      rw [Int32.lt_iff_toInt_lt] at h1 ⊢
      omega
theorem i01 : ¬ (1 : Int32) = 0 := by decide
theorem keep_r {p q : Int32} (n : Nat) (hq : q.toInt + 1 = n) (hn : n < 2147483648) : r_X3_keep n p = (if r_X4_within p q = 0 then 0 else 1) := by
  rw [wi_0 hq hn]
  unfold r_X3_keep
  by_cases h0 : p < 0
  · simp only [if_pos h0, if_true]
  · by_cases h1 : p < Int32.ofNat n
    · simp only [if_neg h0, if_pos h1, if_neg i01]
    · simp only [if_neg h0, if_neg h1, if_true]
theorem keep_z {p q v : Int32} {f : Nat → Int32} (n : Nat) (hq : q.toInt + 1 = n) (hn : n < 2147483648) : z_X3_keep_qa f n p v = (if r_X4_within p q = 0 then f else upd f (Int32.toNatClampNeg p) v) := by
  rw [wi_0 hq hn]
  unfold z_X3_keep_qa
  by_cases h0 : p < 0
  · simp only [if_pos h0, if_true]
  · by_cases h1 : p < Int32.ofNat n
    · simp only [if_neg h0, if_pos h1, if_neg i01]
    · simp only [if_neg h0, if_neg h1, if_true]
theorem ask_r {p q : Int32} {f : Nat → Int32} (n : Nat) (hq : q.toInt + 1 = n) (hn : n < 2147483648) : r_X3_ask f n p = (if r_X4_within p q = 0 then (-1) else f (Int32.toNatClampNeg p)) := by
  rw [wi_0 hq hn]
  unfold r_X3_ask
  by_cases h0 : p < 0
  · simp only [if_pos h0, if_true]
  · by_cases h1 : p < Int32.ofNat n
    · have h2 : ¬ Int32.ofNat n ≤ p := by rw [Int32.lt_iff_toInt_lt] at h1; rw [Int32.le_iff_toInt_le]; omega
      simp only [if_neg h0, if_pos h1, if_neg h2, if_neg i01]
    · have h2 : Int32.ofNat n ≤ p := by rw [Int32.lt_iff_toInt_lt] at h1; rw [Int32.le_iff_toInt_le]; omega
      simp only [if_neg h0, if_neg h1, if_pos h2, if_true]
theorem it_eq (p : Int32) : r_X3_isTask p = r_X4_within p 15 := by
  rw [wi_0 (n := 16) (by decide) (by decide)]
  unfold r_X3_isTask
  have e : Int32.ofNat 16 = 16 := rfl
  by_cases h0 : p < 0
  · simp only [if_pos h0]
  · by_cases h1 : p < 16
    · have h2 : ¬ 16 ≤ p := by rw [Int32.lt_iff_toInt_lt] at h1; rw [Int32.le_iff_toInt_le]; omega
      simp only [e, if_neg h0, if_pos h1, if_neg h2]
    · have h2 : 16 ≤ p := by rw [Int32.lt_iff_toInt_lt] at h1; rw [Int32.le_iff_toInt_le]; omega
      simp only [e, if_neg h0, if_neg h1, if_pos h2]
theorem q_store (p : Int32) : r_X3_keep 1024 p = r_X4_store p := keep_r (q := 1023) 1024 (by decide) (by decide)
theorem q_constant (p : Int32) : r_X3_keep 256 p = r_X4_constant p := keep_r (q := 255) 256 (by decide) (by decide)
theorem q_poke (p : Int32) : r_X3_keep 1024 p = r_X4_poke p := keep_r (q := 1023) 1024 (by decide) (by decide)
theorem q_set (p : Int32) : r_X3_keep 32 p = r_X4_set p := keep_r (q := 31) 32 (by decide) (by decide)
theorem v_store (f : Nat → Int32) (p v : Int32) : z_X4_store_pI f p v = z_X3_keep_qa f 1024 p v := (keep_z (q := 1023) 1024 (by decide) (by decide)).symm
theorem v_constant (f : Nat → Int32) (p v : Int32) : z_X4_constant_pC f p v = z_X3_keep_qa f 256 p (v &&& 65535) := (keep_z (q := 255) 256 (by decide) (by decide)).symm
theorem v_poke (f : Nat → Int32) (p v : Int32) : z_X4_poke_pM f p v = z_X3_keep_qa f 1024 p (v &&& 65535) := (keep_z (q := 1023) 1024 (by decide) (by decide)).symm
theorem v_set (f : Nat → Int32) (p v : Int32) : z_X4_set_pR f p v = z_X3_keep_qa f 32 p (v &&& 65535) := (keep_z (q := 31) 32 (by decide) (by decide)).symm
theorem q_peek (f : Nat → Int32) (p : Int32) : r_X3_ask f 1024 p = r_X4_peek f p := ask_r (q := 1023) 1024 (by decide) (by decide)
theorem q_wake {fk : Nat → Int32} (hk : ∀ j, fk j = 0 ∨ fk j = 1) (p : Int32) : r_X3_wake fk p = r_X4_wake fk p := by
  unfold r_X3_wake r_X4_wake
  rw [it_eq]
  by_cases h : r_X4_within p 15 = 0
  · simp only [if_pos h]
  · simp only [if_neg h]
    rcases hk (Int32.toNatClampNeg p) with e | e
    · rw [e, if_pos rfl]
    · rw [e, if_neg i01]
theorem v_wake (fk : Nat → Int32) (p : Int32) : z_X4_wake_pK fk p = z_X3_wake_qk fk p := by unfold z_X4_wake_pK z_X3_wake_qk; rw [it_eq]
theorem wi_1023 {p : Int32} {α : Type} (a b : α) : (if r_X4_within p 1023 = 0 then a else b) = (if p < 0 then a else if p < 1024 then b else a) := by
  rw [wi_0 (n := 1024) (by decide) (by decide)]
  have e : Int32.ofNat 1024 = 1024 := rfl
  rw [e]
  by_cases h0 : p < 0
  · simp only [if_pos h0, if_true]
  · by_cases h1 : p < 1024
    · simp only [if_neg h0, if_pos h1, if_neg i01]
    · simp only [if_neg h0, if_neg h1, if_true]
theorem q_start (p v : Int32) : r_X3_start p v = r_X4_start p v := by
  unfold r_X3_start r_X4_start
  rw [it_eq, wi_1023]
theorem v_startP (f : Nat → Int32) (p v : Int32) : z_X4_start_pP f p v = z_X3_start_qp f p v := by
  unfold z_X4_start_pP z_X3_start_qp
  rw [it_eq, wi_1023]
theorem v_startH (f : Nat → Int32) (p v : Int32) : z_X4_start_pH f p v = z_X3_start_qc f p v := by
  unfold z_X4_start_pH z_X3_start_qc
  rw [it_eq, wi_1023]
theorem q_register (f : Nat → Int32) (t l c a p : Int32) : r_X3_register f t l c a p = r_X4_register f t l c a p := by
  unfold r_X3_register r_X4_register
  by_cases h2 : p = 32
  · subst h2
    rw [if_pos rfl, if_pos (by decide), if_pos rfl]
  · by_cases h3 : p = 33
    · subst h3
      rw [if_neg (by decide), if_pos rfl, if_pos (by decide), if_neg (by decide), if_pos rfl]
    · by_cases h4 : p = 34
      · subst h4
        rw [if_neg (by decide), if_neg (by decide), if_pos rfl, if_pos (by decide), if_neg (by decide), if_neg (by decide), if_pos rfl]
      · by_cases h5 : p = 35
        · subst h5
          rw [if_neg (by decide), if_neg (by decide), if_neg (by decide), if_pos rfl, if_pos (by decide), if_neg (by decide), if_neg (by decide), if_neg (by decide), if_pos rfl]
        · simp only [if_neg h2, if_neg h3, if_neg h4, if_neg h5]
          exact ask_r (q := 31) 32 (by decide) (by decide)
theorem wi_3 {p : Int32} (h0 : ¬ p = 0) (h1 : ¬ p = 1) (h2 : ¬ p = 2) (h3 : ¬ p = 3) : r_X4_within p 3 = 0 := by
  have e0 := lv_neT (k := 0) (a := 0) h0 (by decide)
  have e1 := lv_neT (k := 1) (a := 1) h1 (by decide)
  have e2 := lv_neT (k := 2) (a := 2) h2 (by decide)
  have e3 := lv_neT (k := 3) (a := 3) h3 (by decide)
  unfold r_X4_within
  by_cases h : p < 0
  · rw [if_pos h]
  · rw [if_neg h, if_pos]
    rw [Int32.lt_iff_toInt_lt] at h ⊢
    have z0 : (0 : Int32).toInt = 0 := by decide
    have z3 : (3 : Int32).toInt = 3 := by decide
    omega
theorem q_task (fp fc fd fk : Nat → Int32) (p v : Int32) : r_X3_task fp fc fd fk p v = r_X4_task fp fc fk fd p v := by
  unfold r_X3_task r_X4_task
  rw [it_eq]
  by_cases h : r_X4_within p 15 = 0
  · rw [if_pos h, if_pos h]
  · rw [if_neg h, if_neg h]
    by_cases h0 : v = 0
    · subst h0
      rw [if_pos rfl, if_neg (by decide), if_pos rfl]
    · by_cases h1 : v = 1
      · subst h1
        rw [if_neg (by decide), if_pos rfl, if_neg (by decide), if_neg (by decide), if_pos rfl]
      · by_cases h2 : v = 2
        · subst h2
          have w : ¬ r_X4_within 2 3 = 0 := by decide
          simp only [if_neg (show ¬ (2 : Int32) = 0 by decide), if_neg (show ¬ (2 : Int32) = 1 by decide), if_neg w, if_true]
        · by_cases h3 : v = 3
          · subst h3
            rw [if_neg (by decide), if_neg (by decide), if_neg (by decide), if_pos rfl, if_neg (by decide), if_neg (by decide), if_neg (by decide), if_neg (by decide)]
          · rw [if_neg h0, if_neg h1, if_neg h2, if_neg h3, if_pos (wi_3 h0 h1 h2 h3)]
theorem q_out {B : Nat} {kept gone : Int32} (ho : Ous B kept gone) (hB : B < 2147483000) (f : Nat → Int32) (p : Int32) : r_X3_out f kept p = r_X4_out f gone p := by
  obtain ⟨n, hn, rfl, rfl⟩ := ho
  unfold r_X3_out r_X4_out r_X3_ask
  have e5 : Int32.ofNat 500 = 500 := rfl
  have z5 : (500 : Int32).toInt = 500 := by decide
  have z0 : (0 : Int32).toInt = 0 := by decide
  have a1 : (nI (min n 500)).toInt = ((min n 500 : Nat) : Int) := nI_toInt (by omega)
  have a2 : (nI n).toInt = (n : Int) := nI_toInt (by omega)
  rw [e5]
  by_cases h0 : p < 0
  · rw [if_pos h0, if_pos h0]
    split <;> rfl
  · rw [if_neg h0, if_neg h0]
    have g0 := h0
    rw [Int32.lt_iff_toInt_lt] at g0
    by_cases h1 : nI n ≤ p
    · have c1 : nI (min n 500) ≤ p := by rw [Int32.le_iff_toInt_le] at h1 ⊢; omega
      rw [if_pos h1, if_pos c1]
    · rw [if_neg h1]
      by_cases h2 : 500 ≤ p
      · have c1 : nI (min n 500) ≤ p := by rw [Int32.le_iff_toInt_le] at h2 ⊢; omega
        rw [if_pos h2, if_pos c1]
      · have c1 : ¬ nI (min n 500) ≤ p := by rw [Int32.le_iff_toInt_le] at h1 h2 ⊢; omega
        rw [if_neg h2, if_neg c1]
theorem q_count (a b c d p : Int32) : r_X3_count a b c d p = r_X4_count a b c d p := rfl
theorem kz_w {f : Nat → Int32} {n : Nat} {p v : Int32} (h : ∀ j, W16 (f j)) (hv : W16 v) : ∀ j, W16 (z_X3_keep_qa f n p v j) := by
  unfold z_X3_keep_qa
  split
  · exact h
  · split
    · exact w16_upd h hv
    · exact h
theorem inv_store {B : Nat} {beg : Int32} {fR fC fI fW fp fc fd fk fo : Nat → Int32} {rT rL rC rIn cyc wai mar rst hand hov said kept gone : Int32} (h : Inv B beg (fR, fC, fI, fW, fp, fc, fd, fk, fo, rT, rL, rC, rIn, cyc, wai, mar, rst, hand, hov, said, kept, gone)) (fI2 : Nat → Int32) : Inv B beg (fR, fC, fI2, fW, fp, fc, fd, fk, fo, rT, rL, rC, rIn, cyc, wai, mar, rst, hand, hov, said, kept, gone) := by
  obtain ⟨h1, h2, h3, hT, hL, hC, hI, hm, hh, hp, hc, hk, hk0, ho, ht⟩ := h
  exact ⟨h1, h2, h3, hT, hL, hC, hI, hm, hh, hp, hc, hk, hk0, ho, ht⟩
theorem inv_constant {B : Nat} {beg : Int32} {fR fC fI fW fp fc fd fk fo : Nat → Int32} {rT rL rC rIn cyc wai mar rst hand hov said kept gone : Int32} (h : Inv B beg (fR, fC, fI, fW, fp, fc, fd, fk, fo, rT, rL, rC, rIn, cyc, wai, mar, rst, hand, hov, said, kept, gone)) (n : Nat) (p v : Int32) : Inv B beg (fR, (z_X3_keep_qa fC n p (v &&& 65535)), fI, fW, fp, fc, fd, fk, fo, rT, rL, rC, rIn, cyc, wai, mar, rst, hand, hov, said, kept, gone) := by
  obtain ⟨h1, h2, h3, hT, hL, hC, hI, hm, hh, hp, hc, hk, hk0, ho, ht⟩ := h
  exact ⟨h1, kz_w h2 (w16_mask v), h3, hT, hL, hC, hI, hm, hh, hp, hc, hk, hk0, ho, ht⟩
theorem inv_poke {B : Nat} {beg : Int32} {fR fC fI fW fp fc fd fk fo : Nat → Int32} {rT rL rC rIn cyc wai mar rst hand hov said kept gone : Int32} (h : Inv B beg (fR, fC, fI, fW, fp, fc, fd, fk, fo, rT, rL, rC, rIn, cyc, wai, mar, rst, hand, hov, said, kept, gone)) (n : Nat) (p v : Int32) : Inv B beg (fR, fC, fI, (z_X3_keep_qa fW n p (v &&& 65535)), fp, fc, fd, fk, fo, rT, rL, rC, rIn, cyc, wai, mar, rst, hand, hov, said, kept, gone) := by
  obtain ⟨h1, h2, h3, hT, hL, hC, hI, hm, hh, hp, hc, hk, hk0, ho, ht⟩ := h
  exact ⟨h1, h2, kz_w h3 (w16_mask v), hT, hL, hC, hI, hm, hh, hp, hc, hk, hk0, ho, ht⟩
theorem inv_set {B : Nat} {beg : Int32} {fR fC fI fW fp fc fd fk fo : Nat → Int32} {rT rL rC rIn cyc wai mar rst hand hov said kept gone : Int32} (h : Inv B beg (fR, fC, fI, fW, fp, fc, fd, fk, fo, rT, rL, rC, rIn, cyc, wai, mar, rst, hand, hov, said, kept, gone)) (n : Nat) (p v : Int32) : Inv B beg ((z_X3_keep_qa fR n p (v &&& 65535)), fC, fI, fW, fp, fc, fd, fk, fo, rT, rL, rC, rIn, cyc, wai, mar, rst, hand, hov, said, kept, gone) := by
  obtain ⟨h1, h2, h3, hT, hL, hC, hI, hm, hh, hp, hc, hk, hk0, ho, ht⟩ := h
  exact ⟨kz_w h1 (w16_mask v), h2, h3, hT, hL, hC, hI, hm, hh, hp, hc, hk, hk0, ho, ht⟩
theorem inv_port {B : Nat} {beg : Int32} {fR fC fI fW fp fc fd fk fo : Nat → Int32} {rT rL rC rIn cyc wai mar rst hand hov said kept gone : Int32} (h : Inv B beg (fR, fC, fI, fW, fp, fc, fd, fk, fo, rT, rL, rC, rIn, cyc, wai, mar, rst, hand, hov, said, kept, gone)) (v : Int32) : Inv B beg (fR, fC, fI, fW, fp, fc, fd, fk, fo, rT, rL, rC, (v &&& 65535), cyc, wai, mar, rst, hand, hov, said, kept, gone) := by
  obtain ⟨h1, h2, h3, hT, hL, hC, hI, hm, hh, hp, hc, hk, hk0, ho, ht⟩ := h
  exact ⟨h1, h2, h3, hT, hL, hC, w16_mask v, hm, hh, hp, hc, hk, hk0, ho, ht⟩
theorem inv_wake {B : Nat} {beg : Int32} {fR fC fI fW fp fc fd fk fo : Nat → Int32} {rT rL rC rIn cyc wai mar rst hand hov said kept gone : Int32} (h : Inv B beg (fR, fC, fI, fW, fp, fc, fd, fk, fo, rT, rL, rC, rIn, cyc, wai, mar, rst, hand, hov, said, kept, gone)) (p : Int32) : Inv B beg (fR, fC, fI, fW, fp, fc, fd, (z_X3_wake_qk fk p), fo, rT, rL, rC, rIn, cyc, wai, mar, rst, hand, hov, said, kept, gone) := by
  obtain ⟨h1, h2, h3, hT, hL, hC, hI, hm, hh, hp, hc, hk, hk0, ho, ht⟩ := h
  have g1 : ∀ j, z_X3_wake_qk fk p j = 0 ∨ z_X3_wake_qk fk p j = 1 := fun j => by
    unfold z_X3_wake_qk
    split
    · exact hk j
    · by_cases e : j = (Int32.toNatClampNeg p)
      · rw [e, pk_us]; exact Or.inr rfl
      · rw [pk_un e]; exact hk j
  have g2 : z_X3_wake_qk fk p 0 = 1 := by
    unfold z_X3_wake_qk
    split
    · exact hk0
    · by_cases e : 0 = (Int32.toNatClampNeg p)
      · rw [← e, pk_us]
      · rw [pk_un e]; exact hk0
  exact ⟨h1, h2, h3, hT, hL, hC, hI, hm, hh, hp, hc, g1, g2, ho, ht⟩
theorem inv_start {B : Nat} {beg : Int32} {fR fC fI fW fp fc fd fk fo : Nat → Int32} {rT rL rC rIn cyc wai mar rst hand hov said kept gone : Int32} (h : Inv B beg (fR, fC, fI, fW, fp, fc, fd, fk, fo, rT, rL, rC, rIn, cyc, wai, mar, rst, hand, hov, said, kept, gone)) (p v : Int32) : Inv B beg (fR, fC, fI, fW, (z_X3_start_qp fp p v), (z_X3_start_qc fc p v), fd, fk, fo, rT, rL, rC, rIn, cyc, wai, mar, rst, hand, hov, said, kept, gone) := by
  obtain ⟨h1, h2, h3, hT, hL, hC, hI, hm, hh, hp, hc, hk, hk0, ho, ht⟩ := h
  have g1 : ∀ j, W10 (z_X3_start_qp fp p v j) := by
    unfold z_X3_start_qp
    split
    · exact hp
    · split
      · exact hp
      · split
        · rename_i a b
          refine w10_upd hp ?_
          obtain ⟨j, hj, e⟩ := vp_in_of (vp_of4 (n := 1024) (by decide) a b) (by decide)
          exact ⟨j, hj, e⟩
        · exact hp
  have g2 : ∀ j, W10 (z_X3_start_qc fc p v j) := by
    unfold z_X3_start_qc
    split
    · exact hc
    · split
      · exact hc
      · split
        · exact w10_upd hc ⟨0, by omega, rfl⟩
        · exact hc
  exact ⟨h1, h2, h3, hT, hL, hC, hI, hm, hh, g1, g2, hk, hk0, ho, ht⟩
theorem inv_up {B B2 : Nat} {beg : Int32} {u : XS} (h : Inv B beg u) (hB : B ≤ B2) : Inv B2 beg u := by
  obtain ⟨fR, fC, fI, fW, fp, fc, fd, fk, fo, rT, rL, rC, rIn, cyc, wai, mar, rst, hand, hov, said, kept, gone⟩ := u
  obtain ⟨h1, h2, h3, hT, hL, hC, hI, hm, hh, hp, hc, hk, hk0, ho, ht⟩ := h
  obtain ⟨n, hn, en⟩ := ho
  obtain ⟨a, ha, ea⟩ := ht
  exact ⟨h1, h2, h3, hT, hL, hC, hI, hm, hh, hp, hc, hk, hk0, ⟨n, by omega, en⟩, ⟨a, by omega, ea⟩⟩
theorem sim_call {B : Nat} {beg rs al bs f1 f2 sm sc : Int32} {u : XS} (p : Int32) (h : Inv B beg u) (hB : B + 5000 < 2147483000) : ∃ beg2 rs2 al2 bs2 f12 f22 sm2 sc2 : Int32, m_runW p (mOf u beg rs al bs f1 f2 sm sc) = mOf (x_runW p u) beg2 rs2 al2 bs2 f12 f22 sm2 sc2 ∧ Inv (B + 5000) beg2 (x_runW p u) ∧ x_runR p u = m_runR p (mOf u beg rs al bs f1 f2 sm sc) := by
  unfold m_runW x_runW m_runR x_runR
  by_cases c1 : p < 1
  · simp only [if_pos c1]
    exact ⟨beg, rs, al, bs, f1, f2, sm, sc, rfl, inv_up h (by omega), by first | rfl | trivial⟩
  · by_cases c2 : p ≤ 5000
    · simp only [if_neg c1, if_pos c2]
      obtain ⟨N, hN5, hN⟩ := run_N c1 c2
      have hcl : p.toNatClampNeg = N := by rw [hN]; exact nI_clamp (by omega)
      rw [hcl]
      obtain ⟨b3, r3, a3, s3, g3, k3, m3, c3, e3, h3, hd3⟩ := sim_run N B beg rs al bs f1 f2 sm sc u h (by omega)
      exact ⟨b3, r3, a3, s3, g3, k3, m3, c3, e3, inv_up h3 (by omega), (hd3 0).symm⟩
    · simp only [if_neg c1, if_neg c2]
      exact ⟨beg, rs, al, bs, f1, f2, sm, sc, rfl, inv_up h (by omega), by first | rfl | trivial⟩
end
