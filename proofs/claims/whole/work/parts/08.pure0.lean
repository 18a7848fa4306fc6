section
theorem vp_of2 {x y : Int32} {n : Nat} (hy : y.toInt = n) (h0 : ¬ x < 0) (h1 : ¬ y ≤ x) : vp_in x n := by
  rw [vp_in_iff]
  rw [Int32.lt_iff_toInt_lt] at h0
  rw [Int32.le_iff_toInt_le] at h1
  have h2 : (0 : Int32).toInt = 0 := by decide
  omega
theorem vp_of3 {x : Int32} {n : Nat} (hn : n < 2147483648) (h0 : ¬ x < 0) (h1 : ¬ Int32.ofNat n ≤ x) : vp_in x n :=
  vp_of2 (nI_toInt hn) h0 h1
theorem vp_of4 {x : Int32} {n : Nat} (hn : n < 2147483648) (h0 : ¬ x < 0) (h1 : x < Int32.ofNat n) : vp_in x n :=
  vp_of3 hn h0 (fun h => by rw [Int32.lt_iff_toInt_lt] at h1; rw [Int32.le_iff_toInt_le] at h; omega)
theorem ju_nat (x : Int32) (s : Int32) (k : Nat) (hs : ((s.toUInt32 &&& Int32.toUInt32 31).toBitVec % 32).toNat = k) : (jushr x s).toBitVec.toNat = x.toBitVec.toNat / 2 ^ k := pk_ushr x s k hs
theorem nI_bv (x : Int32) : x = nI x.toBitVec.toNat := by
  apply Int32.toBitVec_inj.mp
  apply BitVec.eq_of_toNat_eq
  rw [pk_tn (x.toBitVec.isLt)]
theorem ju_27 (x : Int32) : ∃ j : Nat, j < 32 ∧ jushr x 27 = nI j := by
  refine ⟨(jushr x 27).toBitVec.toNat, ?_, nI_bv _⟩
  rw [ju_nat x 27 27 (by decide)]
  have := x.toBitVec.isLt
  omega
theorem vp_rsel (x : Int32) : vp_in (jushr x 27) 32 := by
  obtain ⟨j, hj, e⟩ := ju_27 x
  rw [e]
  exact vp_in_nI hj (by decide)
theorem vp_cix (x y : Int32) : vp_in (8 * jushr x 27 + (y &&& 7)) 256 := by
  obtain ⟨j, hj, e⟩ := ju_27 x
  obtain ⟨k, hk, e2⟩ := pk_andE y (m := 7) 3 (by decide)
  rw [e, e2, show (8 : Int32) = nI 8 from rfl, pk_mul, nI_add]
  exact vp_in_nI (by omega) (by decide)
end
