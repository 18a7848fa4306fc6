section
theorem s_lo {S : Nat} (h : S < 131072) : nI S &&& 65535 = nI (S % 65536) := nx_mod S
theorem s_hi {S : Nat} (h : S < 131072) : nI S >>> ((16 : Int32) &&& 31) = nI (S / 65536) := n_shr (by omega) 16 (by omega)
theorem s_hi1 {S : Nat} (h : S < 131072) : (nI S >>> ((16 : Int32) &&& 31)) &&& 1 = nI (S / 65536) := by
  rw [s_hi h, n_and1 _ (by omega)]
  congr 1
  omega
theorem s_not {y : Nat} (h : y < 65536) : (nI y ^^^ (-1)) &&& 65535 = nI (65535 - y) := by
  apply b_ext
  intro i hi
  rw [b_and, b_xor, b_m1 i hi, b_65535]
  have e1 : bt (nI (65535 - y)) i = (65535 - y).testBit i := by
    show (BitVec.ofNat 32 (65535 - y)).getLsbD i = _
    rw [BitVec.getLsbD_ofNat]
    simp [hi]
  have e2 : bt (nI y) i = y.testBit i := by
    show (BitVec.ofNat 32 y).getLsbD i = _
    rw [BitVec.getLsbD_ofNat]
    simp [hi]
  rw [e1, e2, show 65535 - y = 2 ^ 16 - (y + 1) by omega, Nat.testBit_two_pow_sub_succ (by omega)]
  cases y.testBit i <;> simp
theorem s_sub {x y : Nat} (hx : x < 65536) (hy : y ≤ 65536) : (nI x - nI y) &&& 65535 = nI ((x + 65536 - y) % 65536) := by
  rw [pk_and (nI x - nI y) (m := 65535) 16 (by decide)]
  congr 1
  have e : (nI x - nI y).toBitVec.toNat = (2 ^ 32 - y + x) % 2 ^ 32 := by
    show (BitVec.ofNat 32 x - BitVec.ofNat 32 y).toNat = _
    rw [BitVec.toNat_sub]
    simp
    omega
  rw [e]
  omega
theorem s_take {x y : Nat} (hx : x < 65536) (hy : y ≤ 65536) : z_X4_take_qm27 (nI x) (nI y) = nI ((x + 65536 - y) / 65536) := by
  unfold z_X4_take_qm27
  by_cases h : x < y
  · rw [if_pos (nI_lt h (by omega)), show (x + 65536 - y) / 65536 = 0 by omega]; rfl
  · rw [if_neg (nI_nlt (by omega) (by omega)), show (x + 65536 - y) / 65536 = 1 by omega]; rfl
theorem n_or16 {x y : Nat} (hx : x < 65536) (hy : y < 65536) : x ||| y < 65536 := Nat.or_lt_two_pow (n := 16) hx hy
theorem n_and16 {x y : Nat} (hx : x < 65536) : x &&& y < 65536 := Nat.lt_of_le_of_lt Nat.and_le_left hx
theorem n_xor16 {x y : Nat} (hx : x < 65536) (hy : y < 65536) : x ^^^ y < 65536 := Nat.xor_lt_two_pow (n := 16) hx hy
/-- the ALU: what the two of them say of one sum S -/
def AluAt (t c al b : Int32) (S : Nat) : Prop := S < 131072 ∧ r_X3_sumOf t c al b = nI S ∧ z_X4_reckon_qm26 t c al b = nI (S % 65536) ∧ z_X4_reckon_qm27 t c al b = nI (S / 65536)
theorem al_0 {x y z : Nat} (hx : x < 65536) (hy : y < 65536) (hz : z < 2) : AluAt (nI y) (nI z) 0 (nI x) (x) := by
  have hS : x < 131072 := by omega
  have e0 : ((nI x) : Int32) = nI (x) := rfl
  refine ⟨hS, e0, ?_, ?_⟩
  · show ((nI x) : Int32) = _
    rw [Nat.mod_eq_of_lt hx]
  · show (0 : Int32) = _
    rw [Nat.div_eq_of_lt hx]; rfl
theorem al_1 {x y z : Nat} (hx : x < 65536) (hy : y < 65536) (hz : z < 2) : AluAt (nI y) (nI z) 1 (nI x) (y) := by
  have hS : y < 131072 := by omega
  have e0 : ((nI y) : Int32) = nI (y) := rfl
  refine ⟨hS, e0, ?_, ?_⟩
  · show ((nI y) : Int32) = _
    rw [Nat.mod_eq_of_lt hy]
  · show (0 : Int32) = _
    rw [Nat.div_eq_of_lt hy]; rfl
theorem al_2 {x y z : Nat} (hx : x < 65536) (hy : y < 65536) (hz : z < 2) : AluAt (nI y) (nI z) 2 (nI x) (x ||| y) := by
  have hS : x ||| y < 131072 := Nat.lt_of_lt_of_le (n_or16 hx hy) (by omega)
  have e0 : ((nI x) ||| (nI y) : Int32) = nI (x ||| y) := nx_or x y
  refine ⟨hS, e0, ?_, ?_⟩
  · show ((nI x) ||| (nI y) : Int32) = _
    rw [Nat.mod_eq_of_lt (n_or16 hx hy)]; exact e0
  · show (0 : Int32) = _
    rw [Nat.div_eq_of_lt (n_or16 hx hy)]; rfl
theorem al_3 {x y z : Nat} (hx : x < 65536) (hy : y < 65536) (hz : z < 2) : AluAt (nI y) (nI z) 3 (nI x) (x &&& y) := by
  have hS : x &&& y < 131072 := Nat.lt_of_lt_of_le (n_and16 hx) (by omega)
  have e0 : ((nI x) &&& (nI y) : Int32) = nI (x &&& y) := nx_and x y
  refine ⟨hS, e0, ?_, ?_⟩
  · show ((nI x) &&& (nI y) : Int32) = _
    rw [Nat.mod_eq_of_lt (n_and16 hx)]; exact e0
  · show (0 : Int32) = _
    rw [Nat.div_eq_of_lt (n_and16 hx)]; rfl
theorem al_4 {x y z : Nat} (hx : x < 65536) (hy : y < 65536) (hz : z < 2) : AluAt (nI y) (nI z) 4 (nI x) (x ^^^ y) := by
  have hS : x ^^^ y < 131072 := Nat.lt_of_lt_of_le (n_xor16 hx hy) (by omega)
  have e0 : ((nI x) ^^^ (nI y) : Int32) = nI (x ^^^ y) := nx_xor x y
  refine ⟨hS, e0, ?_, ?_⟩
  · show ((nI x) ^^^ (nI y) : Int32) = _
    rw [Nat.mod_eq_of_lt (n_xor16 hx hy)]; exact e0
  · show (0 : Int32) = _
    rw [Nat.div_eq_of_lt (n_xor16 hx hy)]; rfl
theorem al_5 {x y z : Nat} (hx : x < 65536) (hy : y < 65536) (hz : z < 2) : AluAt (nI y) (nI z) 5 (nI x) (x + 1) := by
  have hS : x + 1 < 131072 := by omega
  have e0 : ((nI x) + 1 : Int32) = nI (x + 1) := nI_1 x
  refine ⟨hS, e0, ?_, ?_⟩
  · show (((nI x) + 1) &&& 65535 : Int32) = _
    rw [e0]; exact s_lo hS
  · show ((((nI x) + 1) >>> (16 &&& 31)) &&& 1 : Int32) = _
    rw [e0]; exact s_hi1 hS
theorem al_6 {x y z : Nat} (hx : x < 65536) (hy : y < 65536) (hz : z < 2) : AluAt (nI y) (nI z) 6 (nI x) (x + 65535) := by
  have hS : x + 65535 < 131072 := by omega
  have e0 : ((nI x) + 65535 : Int32) = nI (x + 65535) := nI_add x 65535
  refine ⟨hS, e0, ?_, ?_⟩
  · show (((nI x) - 1) &&& 65535 : Int32) = _
    rw [show (1 : Int32) = nI 1 from rfl, s_sub hx (by omega)]; congr 1
  · show (z_X4_take_qm27 (nI x) 1 : Int32) = _
    rw [show (1 : Int32) = nI 1 from rfl, s_take hx (by omega)]; congr 1
theorem al_7 {x y z : Nat} (hx : x < 65536) (hy : y < 65536) (hz : z < 2) : AluAt (nI y) (nI z) 7 (nI x) (x + y) := by
  have hS : x + y < 131072 := by omega
  have e0 : ((nI x) + (nI y) : Int32) = nI (x + y) := nI_add x y
  refine ⟨hS, e0, ?_, ?_⟩
  · show (((nI x) + (nI y)) &&& 65535 : Int32) = _
    rw [e0]; exact s_lo hS
  · show ((((nI x) + (nI y)) >>> (16 &&& 31)) &&& 1 : Int32) = _
    rw [e0]; exact s_hi1 hS
theorem al_8 {x y z : Nat} (hx : x < 65536) (hy : y < 65536) (hz : z < 2) : AluAt (nI y) (nI z) 8 (nI x) (x + (65535 - y) + 1) := by
  have hS : x + (65535 - y) + 1 < 131072 := by omega
  have e0 : (((nI x) + (((nI y) ^^^ (-1)) &&& 65535)) + 1 : Int32) = nI (x + (65535 - y) + 1) := by rw [s_not hy, nI_add]; exact nI_1 _
  refine ⟨hS, e0, ?_, ?_⟩
  · show (((nI x) - (nI y)) &&& 65535 : Int32) = _
    rw [s_sub hx (by omega)]; congr 1; omega
  · show (z_X4_take_qm27 (nI x) (nI y) : Int32) = _
    rw [s_take hx (by omega)]; congr 1; omega
theorem al_9 {x y z : Nat} (hx : x < 65536) (hy : y < 65536) (hz : z < 2) : AluAt (nI y) (nI z) 9 (nI x) (x + (65535 - y)) := by
  have hS : x + (65535 - y) < 131072 := by omega
  have e0 : ((nI x) + (((nI y) ^^^ (-1)) &&& 65535) : Int32) = nI (x + (65535 - y)) := by rw [s_not hy, nI_add]
  refine ⟨hS, e0, ?_, ?_⟩
  · show (((nI x) - ((nI y) + 1)) &&& 65535 : Int32) = _
    rw [nI_1, s_sub hx (by omega)]; congr 1; omega
  · show (z_X4_take_qm27 (nI x) ((nI y) + 1) : Int32) = _
    rw [nI_1, s_take hx (by omega)]; congr 1; omega
theorem al_10 {x y z : Nat} (hx : x < 65536) (hy : y < 65536) (hz : z < 2) : AluAt (nI y) (nI z) 10 (nI x) (x + y + 1) := by
  have hS : x + y + 1 < 131072 := by omega
  have e0 : (((nI x) + (nI y)) + 1 : Int32) = nI (x + y + 1) := by rw [nI_add]; exact nI_1 _
  refine ⟨hS, e0, ?_, ?_⟩
  · show ((((nI x) + (nI y)) + 1) &&& 65535 : Int32) = _
    rw [e0]; exact s_lo hS
  · show (((((nI x) + (nI y)) + 1) >>> (16 &&& 31)) &&& 1 : Int32) = _
    rw [e0]; exact s_hi1 hS
theorem al_11 {x y z : Nat} (hx : x < 65536) (hy : y < 65536) (hz : z < 2) : AluAt (nI y) (nI z) 11 (nI x) (x + z) := by
  have hS : x + z < 131072 := by omega
  have e0 : ((nI x) + (nI z) : Int32) = nI (x + z) := nI_add x z
  refine ⟨hS, e0, ?_, ?_⟩
  · show (((nI x) + (nI z)) &&& 65535 : Int32) = _
    rw [e0]; exact s_lo hS
  · show ((((nI x) + (nI z)) >>> (16 &&& 31)) &&& 1 : Int32) = _
    rw [e0]; exact s_hi1 hS
theorem al_12 {x y z : Nat} (hx : x < 65536) (hy : y < 65536) (hz : z < 2) : AluAt (nI y) (nI z) 12 (nI x) (x &&& y) := by
  have hS : x &&& y < 131072 := Nat.lt_of_lt_of_le (n_and16 hx) (by omega)
  have e0 : ((nI x) &&& (nI y) : Int32) = nI (x &&& y) := nx_and x y
  refine ⟨hS, e0, ?_, ?_⟩
  · show ((nI x) &&& (nI y) : Int32) = _
    rw [Nat.mod_eq_of_lt (n_and16 hx)]; exact e0
  · show (0 : Int32) = _
    rw [Nat.div_eq_of_lt (n_and16 hx)]; rfl
theorem al_13 {x y z : Nat} (hx : x < 65536) (hy : y < 65536) (hz : z < 2) : AluAt (nI y) (nI z) 13 (nI x) (x &&& (65535 - y)) := by
  have hS : x &&& (65535 - y) < 131072 := Nat.lt_of_lt_of_le (n_and16 hx) (by omega)
  have e0 : ((nI x) &&& (((nI y) ^^^ (-1)) &&& 65535) : Int32) = nI (x &&& (65535 - y)) := by rw [s_not hy, nx_and]
  refine ⟨hS, e0, ?_, ?_⟩
  · show ((nI x) &&& ((65535 : Int32) - (nI y)) : Int32) = _
    rw [Nat.mod_eq_of_lt (n_and16 hx), show ((65535 : Int32) - nI y) = nI (65535 - y) from pk_sub (a := 65535) (by omega), nx_and]
  · show (0 : Int32) = _
    rw [Nat.div_eq_of_lt (n_and16 hx)]; rfl
theorem al_x {t c al b : Int32} (h0 : ¬ al = 0) (h1 : ¬ al = 1) (h2 : ¬ al = 2) (h3 : ¬ al = 3) (h4 : ¬ al = 4) (h5 : ¬ al = 5) (h6 : ¬ al = 6) (h7 : ¬ al = 7) (h8 : ¬ al = 8) (h9 : ¬ al = 9) (h10 : ¬ al = 10) (h11 : ¬ al = 11) (h12 : ¬ al = 12) (h13 : ¬ al = 13) : AluAt t c al b 0 := by
  refine ⟨by omega, ?_, ?_, ?_⟩
  · simp only [r_X3_sumOf, if_neg h0, if_neg h1, if_neg h2, if_neg h3, if_neg h4, if_neg h5, if_neg h6, if_neg h7, if_neg h8, if_neg h9, if_neg h10, if_neg h11, if_neg h12, if_neg h13]; rfl
  · simp only [z_X4_reckon_qm26, if_neg h0, if_neg h1, if_neg h2, if_neg h3, if_neg h4, if_neg h5, if_neg h6, if_neg h7, if_neg h8, if_neg h9, if_neg h10, if_neg h11, if_neg h12, if_neg h13]; rfl
  · simp only [z_X4_reckon_qm27, if_neg h0, if_neg h1, if_neg h2, if_neg h3, if_neg h4, if_neg h5, if_neg h6, if_neg h7, if_neg h8, if_neg h9, if_neg h10, if_neg h11, if_neg h12, if_neg h13]; rfl
theorem alu_at {t c b : Int32} (ht : W16 t) (hb : W16 b) (hc : c = 0 ∨ c = 1) (al : Int32) : ∃ S : Nat, AluAt t c al b S := by
  obtain ⟨y, hy, rfl⟩ := ht
  obtain ⟨x, hx, rfl⟩ := hb
  obtain ⟨z, hz, rfl⟩ : ∃ z : Nat, z < 2 ∧ c = nI z := by rcases hc with rfl | rfl <;> first | exact ⟨0, by omega, rfl⟩ | exact ⟨1, by omega, rfl⟩
  by_cases h0 : al = 0
  · rw [h0]; exact ⟨_, al_0 hx hy hz⟩
  by_cases h1 : al = 1
  · rw [h1]; exact ⟨_, al_1 hx hy hz⟩
  by_cases h2 : al = 2
  · rw [h2]; exact ⟨_, al_2 hx hy hz⟩
  by_cases h3 : al = 3
  · rw [h3]; exact ⟨_, al_3 hx hy hz⟩
  by_cases h4 : al = 4
  · rw [h4]; exact ⟨_, al_4 hx hy hz⟩
  by_cases h5 : al = 5
  · rw [h5]; exact ⟨_, al_5 hx hy hz⟩
  by_cases h6 : al = 6
  · rw [h6]; exact ⟨_, al_6 hx hy hz⟩
  by_cases h7 : al = 7
  · rw [h7]; exact ⟨_, al_7 hx hy hz⟩
  by_cases h8 : al = 8
  · rw [h8]; exact ⟨_, al_8 hx hy hz⟩
  by_cases h9 : al = 9
  · rw [h9]; exact ⟨_, al_9 hx hy hz⟩
  by_cases h10 : al = 10
  · rw [h10]; exact ⟨_, al_10 hx hy hz⟩
  by_cases h11 : al = 11
  · rw [h11]; exact ⟨_, al_11 hx hy hz⟩
  by_cases h12 : al = 12
  · rw [h12]; exact ⟨_, al_12 hx hy hz⟩
  by_cases h13 : al = 13
  · rw [h13]; exact ⟨_, al_13 hx hy hz⟩
  exact ⟨0, al_x h0 h1 h2 h3 h4 h5 h6 h7 h8 h9 h10 h11 h12 h13⟩
theorem alu_lo {t c b : Int32} (ht : W16 t) (hb : W16 b) (hc : c = 0 ∨ c = 1) (al : Int32) : (r_X3_sumOf t c al b) &&& 65535 = z_X4_reckon_qm26 t c al b := by
  obtain ⟨S, h1, h2, h3, h4⟩ := alu_at ht hb hc al
  rw [h2, h3, s_lo h1]
theorem alu_hi {t c b : Int32} (ht : W16 t) (hb : W16 b) (hc : c = 0 ∨ c = 1) (al : Int32) : (r_X3_sumOf t c al b) >>> (16 &&& 31) = z_X4_reckon_qm27 t c al b := by
  obtain ⟨S, h1, h2, h3, h4⟩ := alu_at ht hb hc al
  rw [h2, h4, s_hi h1]
theorem alu_bit {t c b : Int32} (ht : W16 t) (hb : W16 b) (hc : c = 0 ∨ c = 1) (al : Int32) : z_X4_reckon_qm27 t c al b = 0 ∨ z_X4_reckon_qm27 t c al b = 1 := by
  obtain ⟨S, h1, h2, h3, h4⟩ := alu_at ht hb hc al
  rw [h4]
  rcases (show S / 65536 = 0 ∨ S / 65536 = 1 by omega) with e | e
  · left; rw [e]; rfl
  · right; rw [e]; rfl
theorem alu_w {t c b : Int32} (ht : W16 t) (hb : W16 b) (hc : c = 0 ∨ c = 1) (al : Int32) : W16 (z_X4_reckon_qm26 t c al b) := by
  rw [← alu_lo ht hb hc al]
  exact w16_mask _
end
