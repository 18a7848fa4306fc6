section
theorem law_c {L t : Nat} {x3 : Int32} (hL : L ≤ 1536) (hx : x3 = nI (3 * t)) (ht : 3 * t ≤ L) (h : ¬ Int32.ofNat L - 3 < x3) : 3 * t + 3 ≤ L := by
  rw [Int32.lt_iff_toInt_lt, hx, nI_toInt (by omega)] at h
  have e : (Int32.ofNat L - 3).toInt = (L : Int) - (3 : Nat) := pk_sub_toInt (a := L) (b := 3) (by omega) (by omega)
  rw [e] at h
  omega
set_option maxHeartbeats 4000000 in
set_option maxRecDepth 100000 in
theorem law_loop {p : Program} {l : Launch} {e : Env} {s : State} {m : MethodId} {below : List Frame} {meth : Method} {c : Code} {b L : Nat} {xs : Nat → Int32} {A : Nat → Prop} {D : va_G} {cI cZ : ClassId} (hL : L ≤ 1536) (C : LC p s m c b L xs A D cI cZ) (hr : meth.sig.returnType = ret) (hlocks : meth.locks = false) (hA2 : ∀ q : Nat, A q → s.heap.size ≤ q) (qx qR qC qI qM qW qT qp qc qd qk qO qo qm pI pC pM pR pP pH pK pD pO : Nat) : ∀ (n t : Nat) (x3 : Int32), x3 = nI (3 * t) → 3 * t ≤ L → L ≤ 3 * t + 3 * n → ∀ (u : XS) (beg rs al bs f1 f2 sm sc : Int32), Inv (100 + 5000 * t) beg u → ∀ (H : Heap) (locs : List Loc), va_P D classes (xw qx qR qC qI qM qW qT qp qc qd qk qO qo cI cZ u ++ mw qm pI pC pM pR pP pH pK pD pO cI cZ (mOf u beg rs al bs f1 f2 sm sc)) H → va_D A (xw qx qR qC qI qM qW qT qp qc qd qk qO qo cI cZ u ++ mw qm pI pC pM pR pP pH pK pD pO cI cZ (mOf u beg rs al bs f1 f2 sm sc)) → va_S A s.heap H locs → ∀ ls : Array Slot, lv_has ls 4 [(0, .ref b), (1, .ref qx), (2, .ref qm), (3, .int x3)] → W p l e room_1 s m #[Value.ref b] below meth c H locs 23 5853 (lw_Z below #[Value.ref b] s) (F0 m 18 ls []) := by
  have C0 := C
  obtain ⟨hx, hb, hml, hown, hts, hX, hbl, hbA, hA, hK⟩ := C
  intro n
  induction n with
  | zero =>
    intro t x3 ex3 ht hn u beg rs al bs f1 f2 sm sc hI H locs hP hD hS ls hl
    refine lv_iload_n hx hb dL_law_18 rfl (lv_at hl 3 rfl) ?_
    refine lv_aload_n hx hb dL_law_19 rfl (lv_at hl 0 rfl) ?_
    refine va_slen hx hb hX hbl hbA hS dL_law_20 ?_
    refine lv_iconst (v := 3) hx hb dL_law_21 (by decide) ?_
    refine lv_isub hx hb dL_law_22 ?_
    refine lv_icmp_gt (tgt := 480) hx hb dL_law_23 (by decide) (fun c_0 => ?_) (fun c_0 => ?_)
    · refine lv_iconst (v := 1) hx hb dL_law_480 (by decide) ?_
      refine va_forget (fun q hq => hA2 _ (hS.2.2 q hq)) ?_
      exact lw_ret hx hb hr hlocks dL_law_481
    · exact absurd (law_c hL ex3 ht c_0) (by omega)
  | succ n ih =>
    intro t x3 ex3 ht hn u beg rs al bs f1 f2 sm sc hI H locs hP hD hS ls hl
    refine lv_iload_n hx hb dL_law_18 rfl (lv_at hl 3 rfl) ?_
    refine lv_aload_n hx hb dL_law_19 rfl (lv_at hl 0 rfl) ?_
    refine va_slen hx hb hX hbl hbA hS dL_law_20 ?_
    refine lv_iconst (v := 3) hx hb dL_law_21 (by decide) ?_
    refine lv_isub hx hb dL_law_22 ?_
    refine lv_icmp_gt (tgt := 480) hx hb dL_law_23 (by decide) (fun c_0 => ?_) (fun c_0 => ?_)
    · refine lv_iconst (v := 1) hx hb dL_law_480 (by decide) ?_
      refine va_forget (fun q hq => hA2 _ (hS.2.2 q hq)) ?_
      exact lw_ret hx hb hr hlocks dL_law_481
    · have ht3 := law_c hL ex3 ht c_0
      have h0 : vp_in x3 L := by rw [ex3]; exact vp_in_nI (by omega) (by omega)
      have h1 : vp_in (x3 + 1) L := by rw [ex3, nI_1]; exact vp_in_nI (by omega) (by omega)
      have h2 : vp_in (x3 + 2) L := by rw [ex3, show (2 : Int32) = nI 2 from rfl, nI_add]; exact vp_in_nI (by omega) (by omega)
      have J : LJ p l e s m below meth c b A D cI cZ qx qR qC qI qM qW qT qp qc qd qk qO qo qm pI pC pM pR pP pH pK pD pO (100 + 5000 * t + 5000) x3 := by
        intro u beg rs al bs f1 f2 sm sc hI H locs hP hD hS ls hl
        refine lv_iinc (v := x3 + 3) (lv' := [(3, .int (x3 + 3)), (0, .ref b), (1, .ref qx), (2, .ref qm)]) hx hb dL_law_474 hl (k := 3) rfl rfl (by decide) rfl (fun ls hl => ?_)
        refine lv_goto (tgt := 18) hx hb dL_law_477 (by decide) ?_
        exact ih (t + 1) (x3 + 3) (by rw [ex3, show (3 : Int32) = nI 3 from rfl, nI_add]; congr 1) (by omega) (by omega) u beg rs al bs f1 f2 sm sc hI _ _ hP hD hS _ (lv_sub hl [1, 2, 3, 0] rfl)
      have hB : 100 + 5000 * t + 5000 < 2147483000 := by omega
      obtain ⟨fR, fC, fI, fW, fp, fc, fd, fk, fo, rT, rL, rC, rIn, cyc, wai, mar, rst, hand, hov, said, kept, gone⟩ := u
      refine lv_aload_n hx hb dL_law_26 rfl (lv_at hl 0 rfl) ?_
      refine lv_iload_n hx hb dL_law_27 rfl (lv_at hl 3 rfl) ?_
      refine va_sld hx hb hX hbl hbA hS h0 dL_law_28 ?_
      refine lv_bipush (v := 15) hx hb dL_law_29 (by decide) ?_
      refine lv_iand hx hb dL_law_31 ?_
      by_cases s_1 : ((xs (Int32.toNatClampNeg x3)) &&& 15) = 0
      · skip
        refine lv_tableIn (tgt := 104) (off := 72) hx hb dL_law_32 (by rw [s_1]; decide) (by rw [s_1]; decide) (by rw [s_1]; rfl) (by decide) ?_
        exact lc_store C0 hI hB h1 h2 hP hD hS hl J
      by_cases s_2 : ((xs (Int32.toNatClampNeg x3)) &&& 15) = 1
      · skip
        refine lv_tableIn (tgt := 137) (off := 105) hx hb dL_law_32 (by rw [s_2]; decide) (by rw [s_2]; decide) (by rw [s_2]; rfl) (by decide) ?_
        exact lc_constant C0 hI hB h1 h2 hP hD hS hl J
      by_cases s_3 : ((xs (Int32.toNatClampNeg x3)) &&& 15) = 2
      · skip
        refine lv_tableIn (tgt := 170) (off := 138) hx hb dL_law_32 (by rw [s_3]; decide) (by rw [s_3]; decide) (by rw [s_3]; rfl) (by decide) ?_
        exact lc_poke C0 hI hB h1 h2 hP hD hS hl J
      by_cases s_4 : ((xs (Int32.toNatClampNeg x3)) &&& 15) = 3
      · skip
        refine lv_tableIn (tgt := 203) (off := 171) hx hb dL_law_32 (by rw [s_4]; decide) (by rw [s_4]; decide) (by rw [s_4]; rfl) (by decide) ?_
        exact lc_set C0 hI hB h1 h2 hP hD hS hl J
      by_cases s_5 : ((xs (Int32.toNatClampNeg x3)) &&& 15) = 4
      · skip
        refine lv_tableIn (tgt := 236) (off := 204) hx hb dL_law_32 (by rw [s_5]; decide) (by rw [s_5]; decide) (by rw [s_5]; rfl) (by decide) ?_
        exact lc_port C0 hI hB h1 h2 hP hD hS hl J
      by_cases s_6 : ((xs (Int32.toNatClampNeg x3)) &&& 15) = 5
      · skip
        refine lv_tableIn (tgt := 257) (off := 225) hx hb dL_law_32 (by rw [s_6]; decide) (by rw [s_6]; decide) (by rw [s_6]; rfl) (by decide) ?_
        exact lc_wake C0 hI hB h1 h2 hP hD hS hl J
      by_cases s_7 : ((xs (Int32.toNatClampNeg x3)) &&& 15) = 6
      · skip
        refine lv_tableIn (tgt := 280) (off := 248) hx hb dL_law_32 (by rw [s_7]; decide) (by rw [s_7]; decide) (by rw [s_7]; rfl) (by decide) ?_
        exact lc_start C0 hI hB h1 h2 hP hD hS hl J
      by_cases s_8 : ((xs (Int32.toNatClampNeg x3)) &&& 15) = 7
      · skip
        refine lv_tableIn (tgt := 313) (off := 281) hx hb dL_law_32 (by rw [s_8]; decide) (by rw [s_8]; decide) (by rw [s_8]; rfl) (by decide) ?_
        exact lc_run C0 hI hB h1 h2 hP hD hS hl J
      by_cases s_9 : ((xs (Int32.toNatClampNeg x3)) &&& 15) = 8
      · skip
        refine lv_tableIn (tgt := 336) (off := 304) hx hb dL_law_32 (by rw [s_9]; decide) (by rw [s_9]; decide) (by rw [s_9]; rfl) (by decide) ?_
        exact lc_register C0 hI hB h1 h2 hP hD hS hl J
      by_cases s_10 : ((xs (Int32.toNatClampNeg x3)) &&& 15) = 9
      · skip
        refine lv_tableIn (tgt := 359) (off := 327) hx hb dL_law_32 (by rw [s_10]; decide) (by rw [s_10]; decide) (by rw [s_10]; rfl) (by decide) ?_
        exact lc_peek C0 hI hB h1 h2 hP hD hS hl J
      by_cases s_11 : ((xs (Int32.toNatClampNeg x3)) &&& 15) = 10
      · skip
        refine lv_tableIn (tgt := 382) (off := 350) hx hb dL_law_32 (by rw [s_11]; decide) (by rw [s_11]; decide) (by rw [s_11]; rfl) (by decide) ?_
        exact lc_task C0 hI hB h1 h2 hP hD hS hl J
      by_cases s_12 : ((xs (Int32.toNatClampNeg x3)) &&& 15) = 11
      · skip
        refine lv_tableIn (tgt := 415) (off := 383) hx hb dL_law_32 (by rw [s_12]; decide) (by rw [s_12]; decide) (by rw [s_12]; rfl) (by decide) ?_
        exact lc_now C0 hI hB h1 h2 hP hD hS hl J
      by_cases s_13 : ((xs (Int32.toNatClampNeg x3)) &&& 15) = 12
      · skip
        refine lv_tableIn (tgt := 428) (off := 396) hx hb dL_law_32 (by rw [s_13]; decide) (by rw [s_13]; decide) (by rw [s_13]; rfl) (by decide) ?_
        exact lc_out C0 hI hB h1 h2 hP hD hS hl J
      by_cases s_14 : ((xs (Int32.toNatClampNeg x3)) &&& 15) = 13
      · skip
        refine lv_tableIn (tgt := 451) (off := 419) hx hb dL_law_32 (by rw [s_14]; decide) (by rw [s_14]; decide) (by rw [s_14]; rfl) (by decide) ?_
        exact lc_count C0 hI hB h1 h2 hP hD hS hl J
      refine lv_tableOut (tgt := 474) hx hb dL_law_32 (by have h_s_1 := lv_neT (k := 0) (a := 0) s_1 (by decide); have h_s_2 := lv_neT (k := 1) (a := 1) s_2 (by decide); have h_s_3 := lv_neT (k := 2) (a := 2) s_3 (by decide); have h_s_4 := lv_neT (k := 3) (a := 3) s_4 (by decide); have h_s_5 := lv_neT (k := 4) (a := 4) s_5 (by decide); have h_s_6 := lv_neT (k := 5) (a := 5) s_6 (by decide); have h_s_7 := lv_neT (k := 6) (a := 6) s_7 (by decide); have h_s_8 := lv_neT (k := 7) (a := 7) s_8 (by decide); have h_s_9 := lv_neT (k := 8) (a := 8) s_9 (by decide); have h_s_10 := lv_neT (k := 9) (a := 9) s_10 (by decide); have h_s_11 := lv_neT (k := 10) (a := 10) s_11 (by decide); have h_s_12 := lv_neT (k := 11) (a := 11) s_12 (by decide); have h_s_13 := lv_neT (k := 12) (a := 12) s_13 (by decide); have h_s_14 := lv_neT (k := 13) (a := 13) s_14 (by decide); omega) (by decide) ?_
      exact J (fR, fC, fI, fW, fp, fc, fd, fk, fo, rT, rL, rC, rIn, cyc, wai, mar, rst, hand, hov, said, kept, gone) beg rs al bs f1 f2 sm sc (inv_up hI (by omega)) _ _ hP hD hS _ hl
end
