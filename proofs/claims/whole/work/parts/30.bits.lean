section
def bt (x : Int32) (i : Nat) : Bool := x.toBitVec.getLsbD i
theorem b_ext {x y : Int32} (h : ∀ i, i < 32 → bt x i = bt y i) : x = y := Int32.toBitVec_inj.mp (BitVec.eq_of_getLsbD_eq (fun i hi => h i hi))
theorem b_or (x y : Int32) (i : Nat) : bt (x ||| y) i = (bt x i || bt y i) := by unfold bt; rw [Int32.toBitVec_or, BitVec.getLsbD_or]
theorem b_and (x y : Int32) (i : Nat) : bt (x &&& y) i = (bt x i && bt y i) := by unfold bt; rw [Int32.toBitVec_and, BitVec.getLsbD_and]
theorem b_xor (x y : Int32) (i : Nat) : bt (x ^^^ y) i = (bt x i ^^ bt y i) := by unfold bt; rw [Int32.toBitVec_xor, BitVec.getLsbD_xor]
theorem b_big {x : Int32} {i : Nat} (h : 32 ≤ i) : bt x i = false := BitVec.getLsbD_of_ge _ _ h
theorem b_255 (i : Nat) : bt 255 i = decide (i < 8) := by
  rcases Nat.lt_or_ge i 32 with h | h
  · exact (by decide +kernel : ∀ i, i < 32 → bt 255 i = decide (i < 8)) i h
  · rw [b_big h, decide_eq_false (by omega)]
theorem b_65535 (i : Nat) : bt 65535 i = decide (i < 16) := by
  rcases Nat.lt_or_ge i 32 with h | h
  · exact (by decide +kernel : ∀ i, i < 32 → bt 65535 i = decide (i < 16)) i h
  · rw [b_big h, decide_eq_false (by omega)]
theorem b_m1 : ∀ i, i < 32 → bt (-1) i = true := by decide +kernel
theorem b_0 (i : Nat) : bt 0 i = false := BitVec.getLsbD_zero
theorem s_l : ∀ n, n < 32 → ((nI n &&& 31).toBitVec.smod 32).toNat = n := by decide +kernel
theorem s_u : ∀ n, n < 32 → (((nI n).toUInt32 &&& Int32.toUInt32 31).toBitVec % 32).toNat = n := by decide +kernel
theorem b_shl (n : Nat) (hn : n < 32) (x : Int32) {i : Nat} (hi : i < 32) : bt (x <<< (nI n &&& 31)) i = (decide (n ≤ i) && bt x (i - n)) := by
  unfold bt
  rw [Int32.toBitVec_shiftLeft]
  show (x.toBitVec <<< ((nI n &&& 31).toBitVec.smod 32).toNat).getLsbD i = _
  rw [s_l n hn, BitVec.getLsbD_shiftLeft]
  rcases Nat.lt_or_ge i n with h | h
  · simp [h, Nat.not_le.mpr h]
  · simp [hi, h, Nat.not_lt.mpr h]
theorem b_ushr (n : Nat) (hn : n < 32) (x : Int32) (i : Nat) : bt ((x.toUInt32 >>> ((nI n).toUInt32 &&& Int32.toUInt32 31)).toInt32) i = bt x (n + i) := by
  show (x.toUInt32 >>> ((nI n).toUInt32 &&& Int32.toUInt32 31)).toBitVec.getLsbD i = x.toUInt32.toBitVec.getLsbD (n + i)
  rw [UInt32.toBitVec_shiftRight]
  show (x.toUInt32.toBitVec >>> (((nI n).toUInt32 &&& Int32.toUInt32 31).toBitVec % 32).toNat).getLsbD i = _
  rw [s_u n hn, BitVec.getLsbD_ushiftRight]
theorem b_sshr (n : Nat) (hn : n < 32) (x : Int32) {i : Nat} (hi : i < 32) : bt (x >>> (nI n &&& 31)) i = if n + i < 32 then bt x (n + i) else bt x 31 := by
  unfold bt
  rw [Int32.toBitVec_shiftRight]
  show (x.toBitVec.sshiftRight ((nI n &&& 31).toBitVec.smod 32).toNat).getLsbD i = _
  rw [s_l n hn, BitVec.getLsbD_sshiftRight, BitVec.msb_eq_getLsbD_last]
  simp [hi]
theorem nx_and (a b : Nat) : nI a &&& nI b = nI (a &&& b) := by
  apply Int32.toBitVec_inj.1
  show BitVec.ofNat 32 a &&& BitVec.ofNat 32 b = BitVec.ofNat 32 (a &&& b)
  apply BitVec.eq_of_getLsbD_eq
  intro i hi
  simp [hi]
theorem nx_xor (a b : Nat) : nI a ^^^ nI b = nI (a ^^^ b) := by
  apply Int32.toBitVec_inj.1
  show BitVec.ofNat 32 a ^^^ BitVec.ofNat 32 b = BitVec.ofNat 32 (a ^^^ b)
  apply BitVec.eq_of_getLsbD_eq
  intro i hi
  simp [hi]
theorem nx_mod (k : Nat) : nI k &&& 65535 = nI (k % 65536) := by
  show nI k &&& nI 65535 = _
  rw [nx_and, show (65535 : Nat) = 2 ^ 16 - 1 from rfl, Nat.and_two_pow_sub_one_eq_mod]
theorem nx_m16 {k : Nat} (h : k < 65536) : nI k &&& 65535 = nI k := by rw [nx_mod, Nat.mod_eq_of_lt h]
theorem nx_mask (x : Int32) : ∃ k, k < 65536 ∧ x &&& 65535 = nI k := by
  have e : x = nI x.toBitVec.toNat := by
    apply Int32.toBitVec_inj.1
    show x.toBitVec = BitVec.ofNat 32 x.toBitVec.toNat
    simp
  refine ⟨x.toBitVec.toNat % 65536, Nat.mod_lt _ (by omega), ?_⟩
  rw [← nx_mod, ← e]
theorem nx_or (a b : Nat) : nI a ||| nI b = nI (a ||| b) := by
  apply Int32.toBitVec_inj.1
  show BitVec.ofNat 32 a ||| BitVec.ofNat 32 b = BitVec.ofNat 32 (a ||| b)
  apply BitVec.eq_of_getLsbD_eq
  intro i hi
  simp [hi]
/-- a field of an instruction, read by >> or by >>> -/
theorem fld_eq (n k : Nat) (m : Int32) (hn : n < 32) (hnk : n + k ≤ 32) (hm : ∀ i, i < 32 → bt m i = decide (i < k)) (x : Int32) : (x >>> (nI n &&& 31)) &&& m = (jushr x (nI n)) &&& m := by
  apply b_ext
  intro i hi
  rw [b_and, b_and, b_sshr n hn x hi, hm i hi]
  have hu : bt (jushr x (nI n)) i = bt x (n + i) := b_ushr n hn x i
  rw [hu]
  by_cases h : i < k
  · rw [if_pos (by omega)]
  · simp [h]
theorem fld_23 (x : Int32) : (x >>> (23 &&& 31)) &&& 15 = (jushr x 23) &&& 15 := fld_eq 23 4 15 (by omega) (by omega) (by decide +kernel) x
theorem fld_20 (x : Int32) : (x >>> (20 &&& 31)) &&& 7 = (jushr x 20) &&& 7 := fld_eq 20 3 7 (by omega) (by omega) (by decide +kernel) x
theorem fld_16 (x : Int32) : (x >>> (16 &&& 31)) &&& 15 = (jushr x 16) &&& 15 := fld_eq 16 4 15 (by omega) (by omega) (by decide +kernel) x
theorem fld_12 (x : Int32) : (x >>> (12 &&& 31)) &&& 15 = (jushr x 12) &&& 15 := fld_eq 12 4 15 (by omega) (by omega) (by decide +kernel) x
def W16 (x : Int32) : Prop := ∃ n : Nat, n < 65536 ∧ x = nI n
def W10 (x : Int32) : Prop := ∃ n : Nat, n < 1024 ∧ x = nI n
theorem w16_mask (x : Int32) : W16 (x &&& 65535) := nx_mask x
theorem w16_0 : W16 0 := ⟨0, by omega, rfl⟩
theorem w16_all : W16 65535 := ⟨65535, by omega, rfl⟩
theorem n_shr {n : Nat} (h : n < 2 ^ 31) (k : Nat) (hk : k < 32) : nI n >>> (nI k &&& 31) = nI (n / 2 ^ k) := pk_shrN h _ k (s_l k hk)
theorem n_shl {n : Nat} (k : Nat) (hk : k < 32) (h : n * 2 ^ k < 2 ^ 32) : nI n <<< (nI k &&& 31) = nI (n * 2 ^ k) := pk_shlN _ k (s_l k hk) h
theorem n_mask (n : Nat) (hn : n < 2 ^ 32) : nI n &&& 65535 = nI (n % 65536) := nx_mod n
theorem n_and10 (n : Nat) (hn : n < 2 ^ 32) : nI n &&& 1023 = nI (n % 1024) := pk_andN hn (m := 1023) 10 (by decide)
theorem n_and1 (n : Nat) (hn : n < 2 ^ 32) : nI n &&& 1 = nI (n % 2) := pk_andN hn (m := 1) 1 (by decide)
theorem n_rem (n d : Nat) (hn : n < 2 ^ 31) (h0 : 0 < d) (hd : d < 2 ^ 31) : nI n - nI n / nI d * nI d = nI (n % d) := pk_rem hn h0 hd
theorem or_low (a b : Nat) (h : b < 256) : a * 256 ||| b = a * 256 + b := by
  have := Nat.shiftLeft_add_eq_or_of_lt (b := b) (i := 8) (by omega) a
  rw [Nat.shiftLeft_eq] at this
  exact this.symm
/-- SH -/
theorem sh_eq {x : Int32} (h : W16 x) (f : Int32) : r_X3_shiftedL x f = r_X4_shifted x f := by
  obtain ⟨n, hn, rfl⟩ := h
  unfold r_X3_shiftedL r_X4_shifted
  by_cases h4 : f = 4
  · rw [if_pos h4, if_pos h4]
    have e1 : nI n <<< ((1 : Int32) &&& 31) = nI (n * 2) := n_shl 1 (by omega) (by omega)
    have e2 : (2 : Int32) * nI n = nI (2 * n) := pk_mul 2 n
    rw [e1, e2, Nat.mul_comm]
  · rw [if_neg h4, if_neg h4]
    by_cases h5 : f = 5
    · rw [if_pos h5, if_pos h5]
      have e1 : nI n >>> ((1 : Int32) &&& 31) = nI (n / 2) := n_shr (by omega) 1 (by omega)
      have e2 : nI n / (2 : Int32) = nI (n / 2) := pk_div (by omega) (d := 2) (by omega) (by omega)
      rw [e1, e2]
    · rw [if_neg h5, if_neg h5]
      by_cases h6 : f = 6
      · rw [if_pos h6, if_pos h6]
        have e1 : nI n >>> ((8 : Int32) &&& 31) = nI (n / 256) := n_shr (by omega) 8 (by omega)
        have e2 : nI n <<< ((8 : Int32) &&& 31) = nI (n * 256) := n_shl 8 (by omega) (by omega)
        have e3 : nI n / (256 : Int32) = nI (n / 256) := pk_div (by omega) (d := 256) (by omega) (by omega)
        have e4 : nI n - nI (n / 256) * (256 : Int32) = nI (n % 256) := by rw [← e3]; exact n_rem n 256 (by omega) (by omega) (by omega)
        have e5 : nI (n % 256) * (256 : Int32) = nI (n % 256 * 256) := pk_mul _ 256
        rw [e1, e2, e3, e4, e5, nx_or, nI_add, nx_mod, or_low _ _ (by omega)]
        congr 1
        omega
      · rw [if_neg h6, if_neg h6]
theorem sh_w {x : Int32} (h : W16 x) (f : Int32) : W16 (r_X3_shiftedL x f) := by
  obtain ⟨n, hn, rfl⟩ := h
  unfold r_X3_shiftedL
  split
  · exact w16_mask _
  · split
    · exact ⟨n / 2, by omega, n_shr (by omega) 1 (by omega)⟩
    · split
      · exact w16_mask _
      · exact ⟨n, hn, rfl⟩
/-- an address -/
theorem ad_eq {x : Int32} (h : W16 x) : x &&& 1023 = x - x / 1024 * 1024 := by
  obtain ⟨n, hn, rfl⟩ := h
  rw [n_and10 n (by omega)]
  exact (n_rem n 1024 (by omega) (by omega) (by omega)).symm
theorem odd_eq {x : Int32} (h : W16 x) : x &&& 1 = x - x / 2 * 2 := by
  obtain ⟨n, hn, rfl⟩ := h
  rw [n_and1 n (by omega)]
  exact (n_rem n 2 (by omega) (by omega) (by omega)).symm
/-- the change -/
theorem chg_eq {c i b : Int32} (hi : W16 i) (hb : W16 b) (f s : Int32) : r_X3_changeOf c i f b s = r_X4_change c i f b s := by
  unfold r_X3_changeOf r_X4_change
  rw [ad_eq hb, odd_eq hi]
theorem chg_w {c i b s : Int32} (hc : c = 0 ∨ c = 1) (hs : W16 s) (f : Int32) : W10 (r_X3_changeOf c i f b s) := by
  have h0 : W10 0 := ⟨0, by omega, rfl⟩
  have h1 : W10 1 := ⟨1, by omega, rfl⟩
  unfold r_X3_changeOf
  split
  · split
    · exact h1
    · exact h0
  · split
    · obtain ⟨n, hn, rfl⟩ := hs
      exact ⟨n / 32768, by omega, n_shr (by omega) 15 (by omega)⟩
    · split
      · split
        · exact h1
        · exact h0
      · split
        · obtain ⟨j, hj, e⟩ := pk_andE b (m := 1023) 10 (by decide)
          exact ⟨j, by omega, e⟩
        · split
          · rcases hc with rfl | rfl
            · exact h0
            · exact h1
          · split
            · exact h0
            · split
              · exact h0
              · split
                · obtain ⟨j, hj, e⟩ := pk_andE i (m := 1) 1 (by decide)
                  exact ⟨j, by omega, e⟩
                · exact h0
theorem alu_t : ∀ k : Nat, k < 16 → r_X3_givesAluToT (nI k) = r_X4_isOfAlu (nI k) := by decide +kernel
end
