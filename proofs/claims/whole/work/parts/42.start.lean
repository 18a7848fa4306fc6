section
theorem k_arr {args : Array Value} {s : State} {ty : FieldType} (hne : ∀ C, ty ≠ .object C) (h : (Cond.arrayClass ty).before args s = true) : ∃ cA : ClassId, ArrOfT s cA ty ∧ va_RA s cA ty := by
  obtain ⟨cA, kA, comp, h1, h2, h3⟩ := Cond.arrayClass_spec h
  refine ⟨cA, fun n z => ⟨fun k h => (by cases h), kA, h2, comp, h3⟩, ?_⟩
  cases ty <;> first | exact h1 | exact absurd rfl (hne _)
theorem inv_0 : Inv 100 (-100) (((fun _ => 0), (fun _ => 0), (fun _ => 0), (fun _ => 0), (fun _ => 0), (fun _ => 0), (fun _ => 0), (upd (fun _ => 0) (Int32.toNatClampNeg 0) 1), (fun _ => 0), 0, 0, 0, 0, 0, 0, 0, 5, 0, 0, 0, 0, 0) : XS) := by
  have z : ∀ j : Nat, W16 ((fun _ => 0 : Nat → Int32) j) := fun j => w16_0
  have y : ∀ j : Nat, W10 ((fun _ => 0 : Nat → Int32) j) := fun j => ⟨0, by omega, rfl⟩
  refine ⟨z, z, z, w16_0, w16_0, Or.inl rfl, w16_0, w16_0, ⟨0, by omega, rfl⟩, y, y, fun j => ?_, ?_, ⟨0, by omega, rfl, rfl⟩, ⟨100, by omega, by decide, by decide⟩⟩
  · by_cases e : j = (Int32.toNatClampNeg 0)
    · rw [e, pk_us]; exact Or.inr rfl
    · rw [pk_un e]; exact Or.inl rfl
  · show upd (fun _ => 0) (Int32.toNatClampNeg 0) 1 0 = 1
    rw [show (0 : Nat) = (Int32.toNatClampNeg 0) by decide, pk_us]
set_option maxHeartbeats 4000000 in
set_option maxRecDepth 100000 in
theorem whole_start {p : Program} {e : Env} {s : State} {m : MethodId} {below : List Frame} {meth : Method} {c : Code} (l : Launch) {b L : Nat} {xs : Nat → Int32} (hL : L ≤ 1536) (C0 : lw_At p s m meth c b L xs) : W p l e room_1 s m #[Value.ref b] below meth c s.heap [] 0 0 (lw_Z below #[Value.ref b] s) (entryFrame m ([Value.ref b] : List Value).toArray 4) := by
  obtain ⟨hx, hb, hr, hml, hown, hts0, hX, hbl, hlocks, hgv⟩ := id C0
  have hts := fun w h => hts0 w (gt_in w h)
  have hown : s.vm.findClass RL = some m.cls := hown
  obtain ⟨A, hA, hA2⟩ : ∃ A : Nat → Prop, (∀ q : Nat, s.heap.size ≤ q → A q) ∧ ∀ q : Nat, A q → s.heap.size ≤ q := ⟨fun q => s.heap.size ≤ q, fun _ h => h, fun _ h => h⟩
  have hbA : ¬ A b := fun h => absurd (hA2 b h) (Nat.not_le.mpr hbl)
  obtain ⟨k0, i0, hk0⟩ := u_known (C := RX0) (T := TX0) (N := 3) (n := 3) hts ilX0 (hts _ wn_X0)
  obtain ⟨k1, i1, hk1⟩ := u_known (C := RX1) (T := TX1) (N := 3) (n := 3) hts ilX1 (hts _ wn_X1)
  obtain ⟨k2, i2, hk2⟩ := u_known (C := RX2) (T := TX2) (N := 7) (n := 7) hts ilX2 (hts _ wn_X2)
  obtain ⟨k3, i3, hk3⟩ := u_known (C := RX3) (T := TX3) (N := 12) (n := 12) hts ilX3 (hts _ wn_X3)
  obtain ⟨k4, i4, hk4⟩ := u_known (C := RX4) (T := TX4) (N := 28) (n := 28) hts ilX4 (hts _ wn_X4)
  obtain ⟨D, hKc⟩ : ∃ D : va_G, ∀ (k : Nat) (q : vw_C), classes[k]? = some q → u_Kn s q.1 q.2.1 q.2.2 (D.1 k) (D.2 k) := by
    refine ⟨(fun k => if k = 0 then k0 else if k = 1 then k1 else if k = 2 then k2 else if k = 3 then k3 else k4, fun k => if k = 0 then i0 else if k = 1 then i1 else if k = 2 then i2 else if k = 3 then i3 else i4), ?_⟩
    intro k q hq
    match k, hq with
    | 0, hq => cases hq; exact hk0
    | 1, hq => cases hq; exact hk1
    | 2, hq => cases hq; exact hk2
    | 3, hq => cases hq; exact hk3
    | 4, hq => cases hq; exact hk4
    | k + 5, hq => simp [classes, vwCl] at hq
  obtain ⟨cI, aI⟩ := k_arr (ty := .int) (fun C h => by cases h) (hts _ wa_int)
  obtain ⟨cZ, aZ⟩ := k_arr (ty := .boolean) (fun C h => by cases h) (hts _ wa_boolean)
  have hK : va_K D classes [(cI, .int), (cZ, .boolean)] s := ⟨hKc, fun k q h => by
    match k, h with
    | 0, h => cases h; exact aI
    | 1, h => cases h; exact aZ
    | k + 2, h => simp at h⟩
  have hS : va_S A s.heap s.heap [] := va_S.rf
  have hP : va_P D classes [] s.heap := fun k q h => by simp at h
  have hD : va_D A [] := ⟨fun i j p q h => by simp at h, fun k q h => by simp at h⟩
  have hl := lv_entry ([.ref b]) (n := 4) (Nat.le_of_ble_eq_true rfl)
  rw [lg_entry_eq]
  generalize (lg_sl ([.ref b]) ++ List.replicate (4 - (lg_sl ([.ref b])).length) Slot.unset).toArray = ls at hl ⊢
  have hl : lv_has ls 4 [(0, .ref b)] := hl
  refine va_new (ci := 3) (fs := [.null, .null, .null, .null, .null, .null, .int 0, .int 0, .int 0, .int 0, .int 0, .int 0]) (C := RX3) (T := TX3) (N := 12) hx hb hts ilX3 tyX3 tyX3_ok hown (hts _ wc_L_7) (hts _ wn_X3) (hts _ wz_X3) hK hP hD hS hA rfl (fun j hj => by rcases (show j = 0 ∨ j = 1 ∨ j = 2 ∨ j = 3 ∨ j = 4 ∨ j = 5 ∨ j = 6 ∨ j = 7 ∨ j = 8 ∨ j = 9 ∨ j = 10 ∨ j = 11 by omega) with rfl | rfl | rfl | rfl | rfl | rfl | rfl | rfl | rfl | rfl | rfl | rfl <;> rfl) (Nat.le_of_ble_eq_true rfl) (Nat.le_of_ble_eq_true rfl) dL_law_0 (fun q1 H hP hD hS => ?_)
  have hP : va_P D classes [(q1, .inr (3, [.null, .null, .null, .null, .null, .null, .int 0, .int 0, .int 0, .int 0, .int 0, .int 0]))] H := hP
  have hD : va_D A [(q1, .inr (3, [.null, .null, .null, .null, .null, .null, .int 0, .int 0, .int 0, .int 0, .int 0, .int 0]))] := hD
  refine W.widen (k := 1) (n := 12) (by omega) (by omega) ?_
  refine lv_dup hx hb dL_law_3 rfl ?_
  refine ctV_I (As := []) (rest := [.ref q1]) (wc := [(q1, .inr (3, [.null, .null, .null, .null, .null, .null, .int 0, .int 0, .int 0, .int 0, .int 0, .int 0]))]) (wr := []) ⟨hx, hb, hml, hown, hts⟩ (c_X3_init l D cI cZ q1 0 0 0 0 0 0) (cwI 0 hts (gd_C wo_X3_init) rfl rfl rfl (hts _ wz_X3) (hts _ wm_L_9) (hts _ wi_X3_init) rfl (by decide +kernel) ⟨Nat.le_of_ble_eq_true rfl, Nat.le_of_ble_eq_true rfl⟩) hK hP hD hS hA [0] [] rfl rfl (by decide) (by decide) (by decide) rfl rfl hl.1 (Nat.le_of_ble_eq_true rfl) dL_law_4 ⟨Nat.le_of_ble_eq_true rfl, Nat.le_of_ble_eq_true rfl⟩ (fun u H locs hP hD hS => ?_)
  obtain ⟨q2, q3, q4, q5, q6, q7, q8, q9, q10, q11, q12, q13⟩ := u
  have hP : va_P D classes [(q1, .inr (3, [.ref q2, .ref q3, .ref q4, .ref q5, .ref q7, .ref q12, .int 0, .int 0, .int 0, .int 0, .int 0, .int 0])), (q2, .inl (cI, 32, .inl (fun _ => 0))), (q3, .inl (cI, 256, .inl (fun _ => 0))), (q4, .inl (cI, 1024, .inl (fun _ => 0))), (q5, .inr (0, [.ref q6, .int 0, .int 5])), (q6, .inl (cI, 1024, .inl (fun _ => 0))), (q7, .inr (2, [.ref q8, .ref q9, .ref q10, .ref q11, .int 0, .int 0, .int 0])), (q8, .inl (cI, 16, .inl (fun _ => 0))), (q9, .inl (cI, 16, .inl (fun _ => 0))), (q10, .inl (cI, 16, .inl (fun _ => 0))), (q11, .inl (cZ, 16, .inl (upd (fun _ => 0) (Int32.toNatClampNeg 0) 1))), (q12, .inr (1, [.ref q13, .int 0, .int 0])), (q13, .inl (cI, 500, .inl (fun _ => 0)))] H := hP
  have hD : va_D A [(q1, .inr (3, [.ref q2, .ref q3, .ref q4, .ref q5, .ref q7, .ref q12, .int 0, .int 0, .int 0, .int 0, .int 0, .int 0])), (q2, .inl (cI, 32, .inl (fun _ => 0))), (q3, .inl (cI, 256, .inl (fun _ => 0))), (q4, .inl (cI, 1024, .inl (fun _ => 0))), (q5, .inr (0, [.ref q6, .int 0, .int 5])), (q6, .inl (cI, 1024, .inl (fun _ => 0))), (q7, .inr (2, [.ref q8, .ref q9, .ref q10, .ref q11, .int 0, .int 0, .int 0])), (q8, .inl (cI, 16, .inl (fun _ => 0))), (q9, .inl (cI, 16, .inl (fun _ => 0))), (q10, .inl (cI, 16, .inl (fun _ => 0))), (q11, .inl (cZ, 16, .inl (upd (fun _ => 0) (Int32.toNatClampNeg 0) 1))), (q12, .inr (1, [.ref q13, .int 0, .int 0])), (q13, .inl (cI, 500, .inl (fun _ => 0)))] := hD
  refine W.widen (k := 13) (n := 2925) (by omega) (by omega) ?_
  refine lv_astore_n (lv' := [(1, .ref q1), (0, .ref b)]) hx hb dL_law_7 rfl hl (by decide) rfl (fun ls hl => ?_)
  refine va_new (ci := 4) (fs := [.null, .null, .null, .null, .int 0, .int 0, .int 0, .int 0, .int 0, .null, .null, .null, .null, .int 0, .int 0, .int 0, .int 0, .int 0, .int 0, .int 0, .null, .int 0, .int 0, .int 0, .int 0, .int 0, .int 0, .int 0]) (C := RX4) (T := TX4) (N := 28) hx hb hts ilX4 tyX4 tyX4_ok hown (hts _ wc_L_10) (hts _ wn_X4) (hts _ wz_X4) hK hP hD hS hA rfl (fun j hj => by rcases (show j = 0 ∨ j = 1 ∨ j = 2 ∨ j = 3 ∨ j = 4 ∨ j = 5 ∨ j = 6 ∨ j = 7 ∨ j = 8 ∨ j = 9 ∨ j = 10 ∨ j = 11 ∨ j = 12 ∨ j = 13 ∨ j = 14 ∨ j = 15 ∨ j = 16 ∨ j = 17 ∨ j = 18 ∨ j = 19 ∨ j = 20 ∨ j = 21 ∨ j = 22 ∨ j = 23 ∨ j = 24 ∨ j = 25 ∨ j = 26 ∨ j = 27 by omega) with rfl | rfl | rfl | rfl | rfl | rfl | rfl | rfl | rfl | rfl | rfl | rfl | rfl | rfl | rfl | rfl | rfl | rfl | rfl | rfl | rfl | rfl | rfl | rfl | rfl | rfl | rfl | rfl <;> rfl) (Nat.le_of_ble_eq_true rfl) (Nat.le_of_ble_eq_true rfl) dL_law_8 (fun q14 H hP hD hS => ?_)
  have hP : va_P D classes [(q1, .inr (3, [.ref q2, .ref q3, .ref q4, .ref q5, .ref q7, .ref q12, .int 0, .int 0, .int 0, .int 0, .int 0, .int 0])), (q2, .inl (cI, 32, .inl (fun _ => 0))), (q3, .inl (cI, 256, .inl (fun _ => 0))), (q4, .inl (cI, 1024, .inl (fun _ => 0))), (q5, .inr (0, [.ref q6, .int 0, .int 5])), (q6, .inl (cI, 1024, .inl (fun _ => 0))), (q7, .inr (2, [.ref q8, .ref q9, .ref q10, .ref q11, .int 0, .int 0, .int 0])), (q8, .inl (cI, 16, .inl (fun _ => 0))), (q9, .inl (cI, 16, .inl (fun _ => 0))), (q10, .inl (cI, 16, .inl (fun _ => 0))), (q11, .inl (cZ, 16, .inl (upd (fun _ => 0) (Int32.toNatClampNeg 0) 1))), (q12, .inr (1, [.ref q13, .int 0, .int 0])), (q13, .inl (cI, 500, .inl (fun _ => 0))), (q14, .inr (4, [.null, .null, .null, .null, .int 0, .int 0, .int 0, .int 0, .int 0, .null, .null, .null, .null, .int 0, .int 0, .int 0, .int 0, .int 0, .int 0, .int 0, .null, .int 0, .int 0, .int 0, .int 0, .int 0, .int 0, .int 0]))] H := hP
  have hD : va_D A [(q1, .inr (3, [.ref q2, .ref q3, .ref q4, .ref q5, .ref q7, .ref q12, .int 0, .int 0, .int 0, .int 0, .int 0, .int 0])), (q2, .inl (cI, 32, .inl (fun _ => 0))), (q3, .inl (cI, 256, .inl (fun _ => 0))), (q4, .inl (cI, 1024, .inl (fun _ => 0))), (q5, .inr (0, [.ref q6, .int 0, .int 5])), (q6, .inl (cI, 1024, .inl (fun _ => 0))), (q7, .inr (2, [.ref q8, .ref q9, .ref q10, .ref q11, .int 0, .int 0, .int 0])), (q8, .inl (cI, 16, .inl (fun _ => 0))), (q9, .inl (cI, 16, .inl (fun _ => 0))), (q10, .inl (cI, 16, .inl (fun _ => 0))), (q11, .inl (cZ, 16, .inl (upd (fun _ => 0) (Int32.toNatClampNeg 0) 1))), (q12, .inr (1, [.ref q13, .int 0, .int 0])), (q13, .inl (cI, 500, .inl (fun _ => 0))), (q14, .inr (4, [.null, .null, .null, .null, .int 0, .int 0, .int 0, .int 0, .int 0, .null, .null, .null, .null, .int 0, .int 0, .int 0, .int 0, .int 0, .int 0, .int 0, .null, .int 0, .int 0, .int 0, .int 0, .int 0, .int 0, .int 0]))] := hD
  refine W.widen (k := 14) (n := 2953) (by omega) (by omega) ?_
  refine lv_dup hx hb dL_law_11 rfl ?_
  refine ctV_I (As := []) (rest := [.ref q14]) (wc := [(q14, .inr (4, [.null, .null, .null, .null, .int 0, .int 0, .int 0, .int 0, .int 0, .null, .null, .null, .null, .int 0, .int 0, .int 0, .int 0, .int 0, .int 0, .int 0, .null, .int 0, .int 0, .int 0, .int 0, .int 0, .int 0, .int 0]))]) (wr := [(q1, .inr (3, [.ref q2, .ref q3, .ref q4, .ref q5, .ref q7, .ref q12, .int 0, .int 0, .int 0, .int 0, .int 0, .int 0])), (q2, .inl (cI, 32, .inl (fun _ => 0))), (q3, .inl (cI, 256, .inl (fun _ => 0))), (q4, .inl (cI, 1024, .inl (fun _ => 0))), (q5, .inr (0, [.ref q6, .int 0, .int 5])), (q6, .inl (cI, 1024, .inl (fun _ => 0))), (q7, .inr (2, [.ref q8, .ref q9, .ref q10, .ref q11, .int 0, .int 0, .int 0])), (q8, .inl (cI, 16, .inl (fun _ => 0))), (q9, .inl (cI, 16, .inl (fun _ => 0))), (q10, .inl (cI, 16, .inl (fun _ => 0))), (q11, .inl (cZ, 16, .inl (upd (fun _ => 0) (Int32.toNatClampNeg 0) 1))), (q12, .inr (1, [.ref q13, .int 0, .int 0])), (q13, .inl (cI, 500, .inl (fun _ => 0)))]) ⟨hx, hb, hml, hown, hts⟩ (c_X4_init l D cI cZ q14 0 0 0 0 0 0 0 0 0 0 0 0 0 0 0 0 0 0 0) (cwI 0 hts (gd_C wo_X4_init) rfl rfl rfl (hts _ wz_X4) (hts _ wm_L_12) (hts _ wi_X4_init) rfl (by decide +kernel) ⟨Nat.le_of_ble_eq_true rfl, Nat.le_of_ble_eq_true rfl⟩) hK hP hD hS hA [13] [0, 1, 2, 3, 4, 5, 6, 7, 8, 9, 10, 11, 12] rfl rfl (by decide) (by decide) (by decide) rfl rfl hl.1 (Nat.le_of_ble_eq_true rfl) dL_law_12 ⟨Nat.le_of_ble_eq_true rfl, Nat.le_of_ble_eq_true rfl⟩ (fun u H locs hP hD hS => ?_)
  obtain ⟨q15, q16, q17, q18, q19, q20, q21, q22, q23⟩ := u
  have hP : va_P D classes [(q1, .inr (3, [.ref q2, .ref q3, .ref q4, .ref q5, .ref q7, .ref q12, .int 0, .int 0, .int 0, .int 0, .int 0, .int 0])), (q2, .inl (cI, 32, .inl (fun _ => 0))), (q3, .inl (cI, 256, .inl (fun _ => 0))), (q4, .inl (cI, 1024, .inl (fun _ => 0))), (q5, .inr (0, [.ref q6, .int 0, .int 5])), (q6, .inl (cI, 1024, .inl (fun _ => 0))), (q7, .inr (2, [.ref q8, .ref q9, .ref q10, .ref q11, .int 0, .int 0, .int 0])), (q8, .inl (cI, 16, .inl (fun _ => 0))), (q9, .inl (cI, 16, .inl (fun _ => 0))), (q10, .inl (cI, 16, .inl (fun _ => 0))), (q11, .inl (cZ, 16, .inl (upd (fun _ => 0) (Int32.toNatClampNeg 0) 1))), (q12, .inr (1, [.ref q13, .int 0, .int 0])), (q13, .inl (cI, 500, .inl (fun _ => 0))), (q14, .inr (4, [.ref q15, .ref q16, .ref q17, .ref q18, .int 0, .int 0, .int 0, .int 0, .int 0, .ref q19, .ref q20, .ref q21, .ref q22, .int 0, .int 0, .int 0, .int 0, .int 0, .int (-100), .int 0, .ref q23, .int 0, .int 0, .int 0, .int 0, .int 0, .int 0, .int 0])), (q15, .inl (cI, 1024, .inl (fun _ => 0))), (q16, .inl (cI, 256, .inl (fun _ => 0))), (q17, .inl (cI, 1024, .inl (fun _ => 0))), (q18, .inl (cI, 32, .inl (fun _ => 0))), (q19, .inl (cI, 16, .inl (fun _ => 0))), (q20, .inl (cI, 16, .inl (fun _ => 0))), (q21, .inl (cZ, 16, .inl (upd (fun _ => 0) (Int32.toNatClampNeg 0) 1))), (q22, .inl (cI, 16, .inl (fun _ => 0))), (q23, .inl (cI, 500, .inl (fun _ => 0)))] H := hP
  have hD : va_D A [(q1, .inr (3, [.ref q2, .ref q3, .ref q4, .ref q5, .ref q7, .ref q12, .int 0, .int 0, .int 0, .int 0, .int 0, .int 0])), (q2, .inl (cI, 32, .inl (fun _ => 0))), (q3, .inl (cI, 256, .inl (fun _ => 0))), (q4, .inl (cI, 1024, .inl (fun _ => 0))), (q5, .inr (0, [.ref q6, .int 0, .int 5])), (q6, .inl (cI, 1024, .inl (fun _ => 0))), (q7, .inr (2, [.ref q8, .ref q9, .ref q10, .ref q11, .int 0, .int 0, .int 0])), (q8, .inl (cI, 16, .inl (fun _ => 0))), (q9, .inl (cI, 16, .inl (fun _ => 0))), (q10, .inl (cI, 16, .inl (fun _ => 0))), (q11, .inl (cZ, 16, .inl (upd (fun _ => 0) (Int32.toNatClampNeg 0) 1))), (q12, .inr (1, [.ref q13, .int 0, .int 0])), (q13, .inl (cI, 500, .inl (fun _ => 0))), (q14, .inr (4, [.ref q15, .ref q16, .ref q17, .ref q18, .int 0, .int 0, .int 0, .int 0, .int 0, .ref q19, .ref q20, .ref q21, .ref q22, .int 0, .int 0, .int 0, .int 0, .int 0, .int (-100), .int 0, .ref q23, .int 0, .int 0, .int 0, .int 0, .int 0, .int 0, .int 0])), (q15, .inl (cI, 1024, .inl (fun _ => 0))), (q16, .inl (cI, 256, .inl (fun _ => 0))), (q17, .inl (cI, 1024, .inl (fun _ => 0))), (q18, .inl (cI, 32, .inl (fun _ => 0))), (q19, .inl (cI, 16, .inl (fun _ => 0))), (q20, .inl (cI, 16, .inl (fun _ => 0))), (q21, .inl (cZ, 16, .inl (upd (fun _ => 0) (Int32.toNatClampNeg 0) 1))), (q22, .inl (cI, 16, .inl (fun _ => 0))), (q23, .inl (cI, 500, .inl (fun _ => 0)))] := hD
  refine W.widen (k := 23) (n := 5853) (by omega) (by omega) ?_
  refine lv_astore_n (lv' := [(2, .ref q14), (1, .ref q1), (0, .ref b)]) hx hb dL_law_15 rfl hl (by decide) rfl (fun ls hl => ?_)
  refine lv_iconst (v := 0) hx hb dL_law_16 (by decide) ?_
  refine lv_istore_n (lv' := [(3, .int 0), (2, .ref q14), (1, .ref q1), (0, .ref b)]) hx hb dL_law_17 rfl hl (by decide) rfl (fun ls hl => ?_)
  exact law_loop hL ⟨hx, hb, hml, hown, hts, hX, hbl, hbA, hA, hK⟩ hr hlocks hA2 q1 q2 q3 q4 q5 q6 q7 q8 q9 q10 q11 q12 q13 q14 q15 q16 q17 q18 q19 q20 q21 q22 q23 (L + 1) 0 0 rfl (by omega) (by omega) ((fun _ => 0), (fun _ => 0), (fun _ => 0), (fun _ => 0), (fun _ => 0), (fun _ => 0), (fun _ => 0), (upd (fun _ => 0) (Int32.toNatClampNeg 0) 1), (fun _ => 0), 0, 0, 0, 0, 0, 0, 0, 5, 0, 0, 0, 0, 0) (-100) 0 0 0 0 0 0 0 inv_0 _ _ hP hD hS _ (lv_sub hl [3, 2, 1, 0] rfl)
end
