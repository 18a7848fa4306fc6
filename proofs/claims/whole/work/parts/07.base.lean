section
/-! CONTRACTS IN ONE FORM. The cells wc go in, the cells w1 come out, the answer is rv; nothing else changes. -/
def ct_pre (D : va_G) (cl : List vw_C) (ty : List (ClassId × FieldType)) (wc : va_W) (sz : Nat) (U : State) : Prop := U.heap.size = sz ∧ va_P D cl wc U.heap ∧ va_K D cl ty U ∧ va_D (fun _ => True) wc
def ct_QI (D : va_G) (cl : List vw_C) (rv : Int32) (w1 : va_W) (A : Nat → Prop) : Array Value → State → Outcome → State → Prop := va_Qi (fun (r : Int32) (_ : Unit) => r = rv) (fun _ t => va_P D cl w1 t.heap ∧ va_D A w1) A
def ct_QV {S : Type} (D : va_G) (cl : List vw_C) (w1 : S → va_W) (A : Nat → Prop) : Array Value → State → Outcome → State → Prop := va_Qv (fun (_ : S) => True) (fun u t => va_P D cl (w1 u) t.heap ∧ va_D A (w1 u)) A
/-- a method that answers an int (or a boolean) and makes nothing -/
def CtI (l : Launch) (D : va_G) (cl : List vw_C) (ty : List (ClassId × FieldType)) (y : MethodName) (ws : List Cond) (rm : Room) (av : List Value) (wc w1 : va_W) (rv : Int32) : Prop :=
  ∀ sz : Nat, Met l y ws rm (va_Pc av (ct_pre D cl ty wc sz)) (ct_QI D cl rv w1 (va_A wc sz)) 0 0 (va_A wc sz)
/-- a method that answers nothing and makes mc cells of ms slots: their addresses are S -/
def CtV {S : Type} (l : Launch) (D : va_G) (cl : List vw_C) (ty : List (ClassId × FieldType)) (y : MethodName) (ws : List Cond) (rm : Room) (av : List Value) (wc : va_W) (w1 : S → va_W) (mc ms : Nat) : Prop :=
  ∀ sz : Nat, Met l y ws rm (va_Pc av (ct_pre D cl ty wc sz)) (ct_QV D cl w1 (va_A wc sz)) mc ms (va_A wc sz)
theorem ct_blind {av : List Value} {D : va_G} {cl : List vw_C} {ty : List (ClassId × FieldType)} {wc : va_W} {sz : Nat} : FrameBlind (va_Pc av (ct_pre D cl ty wc sz)) := fun a U g mk q => by
  obtain ⟨q0, q1, qP, qK, qD⟩ := q
  exact ⟨q0, q1, qP, va_K.moved (u := U) (U := U.calling g mk a) (Vm.Alike.refl U.vm) qK, qD⟩
theorem ct_pick : ∀ {is : List Nat} {ws wc : va_W}, is.map (fun i => ws[i]?) = wc.map some → is.filterMap (fun i => ws[i]?) = wc
  | [], _, [], _ => rfl
  | [], _, _ :: _, h => by simp at h
  | _ :: _, _, [], h => by simp at h
  | i :: is, ws, q :: wc, h => by
    simp only [List.map_cons, List.cons.injEq] at h
    rw [List.filterMap_cons, h.1]
    exact congrArg (q :: ·) (ct_pick h.2)
/-- what a method has in hand as it begins -/
def ct_Beg (p : Program) (D : va_G) (cl : List vw_C) (ty : List (ClassId × FieldType)) (y : MethodName) (ws : List Cond) (av : List Value) (wc : va_W) (cc : ByteArray) (maxL : Nat) (ret : Option FieldType) (s : State) (m : MethodId) (meth : Method) (c : Code) (A : Nat → Prop) : Prop :=
  p.tables.exec = Jvm.exec ∧ c.code = cc ∧ meth.sig.returnType = ret ∧ c.maxLocals = maxL ∧ (∀ w ∈ ws, w.before av.toArray s = true) ∧ s.vm.findClass y.cls = some m.cls ∧ meth.locks = false ∧ meth.name = y.name ∧ (∀ q : Nat, s.heap.size ≤ q → A q) ∧ va_K D cl ty s ∧ va_P D cl wc s.heap ∧ va_D A wc ∧ va_S A s.heap s.heap []
section
variable {l : Launch} {D : va_G} {cl : List vw_C} {ty : List (ClassId × FieldType)} {y : MethodName} {ws ws' : List Cond} {rm : Room} {av : List Value} {wc : va_W} {cc : ByteArray} {maxL : Nat} {ret : Option FieldType}
theorem CtI.mk {w1 : va_W} {rv : Int32} (hy : plainName y.cls = true) (hw : ws = Cond.code y cc maxL ret :: ws') (hlen : (lg_sl av).length ≤ maxL)
    (body : ∀ (p : Program) (e : Env) (s : State) (m : MethodId) (below : List Frame) (meth : Method) (c : Code) (A : Nat → Prop), ct_Beg p D cl ty y ws av wc cc maxL ret s m meth c A → ∀ ls : Array Slot, lv_has ls maxL (lv_args 0 av) →
      W p l e (headSpec ws rm).room s m av.toArray below meth c s.heap [] 0 0 (MQ below (ct_QI D cl rv w1 A) av.toArray s 0 0 A) (F0 m 0 ls [])) : CtI l D cl ty y ws rm av wc w1 rv := by
  intro sz
  refine Met.ofW (cc := cc) (maxL := maxL) (ret := ret) hy hw ?_
  intro p e s m args below meth c s₁ B hml hv
  obtain ⟨rfl, hsz, hP, hK, hD0⟩ := hv
  subst hsz
  have hl := lv_entry av (n := maxL) hlen
  rw [lg_entry_eq]
  exact body p e s m below meth c _ ⟨B.exec, B.bytes, B.returns, hml, atoms_spec (ws := ws) B.pre, findClass_of_methodNamed B.named, B.notSynchronized, (name_of_methodNamed B.named B.method).1, fun q h => Or.inr h, hK, hP, hD0.self (sz := s.heap.size), va_S.rf⟩ _ hl
theorem CtV.mk {S : Type} {w1 : S → va_W} {mc ms : Nat} (hy : plainName y.cls = true) (hw : ws = Cond.code y cc maxL ret :: ws') (hlen : (lg_sl av).length ≤ maxL)
    (body : ∀ (p : Program) (e : Env) (s : State) (m : MethodId) (below : List Frame) (meth : Method) (c : Code) (A : Nat → Prop), ct_Beg p D cl ty y ws av wc cc maxL ret s m meth c A → ∀ ls : Array Slot, lv_has ls maxL (lv_args 0 av) →
      W p l e (headSpec ws rm).room s m av.toArray below meth c s.heap [] 0 0 (MQ below (ct_QV D cl w1 A) av.toArray s mc ms A) (F0 m 0 ls [])) : CtV l D cl ty y ws rm av wc w1 mc ms := by
  intro sz
  refine Met.ofW (cc := cc) (maxL := maxL) (ret := ret) hy hw ?_
  intro p e s m args below meth c s₁ B hml hv
  obtain ⟨rfl, hsz, hP, hK, hD0⟩ := hv
  subst hsz
  have hl := lv_entry av (n := maxL) hlen
  rw [lg_entry_eq]
  exact body p e s m below meth c _ ⟨B.exec, B.bytes, B.returns, hml, atoms_spec (ws := ws) B.pre, findClass_of_methodNamed B.named, B.notSynchronized, (name_of_methodNamed B.named B.method).1, fun q h => Or.inr h, hK, hP, hD0.self (sz := s.heap.size), va_S.rf⟩ _ hl
end
section
variable {p : Program} {l : Launch} {e : Env} {R : Room} {s : State} {m : MethodId} {args : Array Value} {below : List Frame} {meth : Method} {c : Code} {H : Heap} {locs : List Loc} {cells slots : Nat} {Q : State → Prop} {D : va_G} {cl : List vw_C} {ty : List (ClassId × FieldType)} {A : Nat → Prop} {cc : ByteArray} {pc : Nat} {ls : Array Slot} {ww : va_W}
/-- the ends -/
theorem ct_iret {w1 : va_W} {v rv : Int32} (hx : p.tables.exec = Jvm.exec) (hb : c.code = cc) (hr : meth.sig.returnType = some .int) (hlocks : meth.locks = false) (hP : va_P D cl ww H) (hD : va_D A ww) (hS : va_S A s.heap H locs) (hw : ww = w1) (hv : v = rv) (hdg : decode cc pc = .ok (.ireturn, 1)) :
    W p l e R s m args below meth c H locs cells slots (MQ below (ct_QI D cl rv w1 A) args s cells slots A) (F0 m pc ls [.int v]) := by
  subst hw hv
  exact W.iret hx hb hr (fun t ht hW => ⟨⟨_, (), rfl, rfl, by rw [ht]; exact hP, hD⟩, hS.F ht⟩) hS.2.2 hdg hlocks
theorem ct_zret {w1 : va_W} {v rv : Int32} (hx : p.tables.exec = Jvm.exec) (hb : c.code = cc) (hr : meth.sig.returnType = some .boolean) (hlocks : meth.locks = false) (hP : va_P D cl ww H) (hD : va_D A ww) (hS : va_S A s.heap H locs) (hw : ww = w1) (hv : v = rv) (hz : v = 0 ∨ v = 1) (hdg : decode cc pc = .ok (.ireturn, 1)) :
    W p l e R s m args below meth c H locs cells slots (MQ below (ct_QI D cl rv w1 A) args s cells slots A) (F0 m pc ls [.int v]) := by
  subst hw hv
  exact W.zret hx hb hr (by rcases hz with h | h <;> (rw [h]; rfl)) (fun t ht hW => ⟨⟨_, (), rfl, rfl, by rw [ht]; exact hP, hD⟩, hS.F ht⟩) hS.2.2 hdg hlocks
theorem ct_vret {S : Type} {w1 : S → va_W} (u : S) (hx : p.tables.exec = Jvm.exec) (hb : c.code = cc) (hr : meth.sig.returnType = none) (hlocks : meth.locks = false) (hP : va_P D cl ww H) (hD : va_D A ww) (hS : va_S A s.heap H locs) (hw : ww = w1 u) (hdg : decode cc pc = .ok (.return_, 1)) :
    W p l e R s m args below meth c H locs cells slots (MQ below (ct_QV D cl w1 A) args s cells slots A) (F0 m pc ls []) := by
  subst hw
  exact W.vret hx hb hr (fun t ht hW => ⟨⟨u, rfl, trivial, by rw [ht]; exact hP, hD⟩, hS.F ht⟩) hS.2.2 hdg hlocks
variable {nL n index maxL mc ms : Nat} {Ts ws : List Cond} {own C : String} {y : MethodName} {bytes : ByteArray} {ret : Option FieldType} {rm : Room} {H0 : Heap} {wc wr : va_W} {b : Nat} {As rest st0 : List Value}
/-- behind a call: the caller's other cells ahead of the callee's -/
theorem ct_back {w1 : va_W} (hP : va_P D cl ww H) (hD : va_D A ww) (hS : va_S A H0 H locs) (hA : ∀ q : Nat, H0.size ≤ q → A q) (isC isR : List Nat) (hC : isC.map (fun i => ww[i]?) = wc.map some) (hR : isR.map (fun i => ww[i]?) = wr.map some) (hn : va_nd isR = true) (hdis : ∀ i ∈ isR, i ∉ isC) {t : State} {H1 : Heap} (ht : t.heap = H1)
    (hB : va_P D cl w1 t.heap ∧ va_D (va_A wc H.size) w1) (hk : ∀ q : Nat, q < H.size → ¬ va_A wc H.size q → H1[q]? = H[q]?) : va_P D cl (wr ++ w1) H1 ∧ va_D A (wr ++ w1) :=
  va_join hP hD isC isR hC hR hn hdis hk (va_free hD hS hA isC hC) (by rw [← ht]; exact hB.1) hB.2
theorem ct_ready (hK : va_K D cl ty s) (hP : va_P D cl ww H) (hD : va_D A ww) (isC : List Nat) (hC : isC.map (fun i => ww[i]?) = wc.map some) (hnC : va_nd isC = true) {av : List Value} : ∀ U : State, U.heap = H → s.WarmedH U.vm → va_Pc av (ct_pre D cl ty wc H.size) av.toArray U := fun U hU hW =>
  ⟨rfl, by rw [hU], by rw [hU]; exact hP.sub isC (ct_pick hC), va_K.moved hW.alike hK, (hD.sub isC hnC hC).weaken (fun _ _ _ _ => trivial)⟩
theorem ctI_V {w1 : va_W} {rv : Int32} {ci : Nat} {qC : vw_C} {fs : List Value} (S : CallFix p m c cc nL s args Ts own) (hM : CtI l D cl ty y ws rm (.ref b :: As) wc w1 rv) (cw : CallW R s args own C index y bytes maxL ret ws rm 0 0 n)
    (hK : va_K D cl ty s) (hP : va_P D cl ww H) (hD : va_D A ww) (hS : va_S A H0 H locs) (hA : ∀ q : Nat, H0.size ≤ q → A q) (q0 : Nat) (hcl : cl[ci]? = some qC) (hq0 : ww[q0]? = some (b, .inr (ci, fs))) (hCn : qC.1 = C)
    (isC isR : List Nat) (hC : isC.map (fun i => ww[i]?) = wc.map some) (hR : isR.map (fun i => ww[i]?) = wr.map some) (hnC : va_nd isC = true) (hn : va_nd isR = true) (hdis : ∀ i ∈ isR, i ∉ isC)
    (hst : st0 = As.reverse ++ .ref b :: rest) (hlen : As.length = n) (hsize : ls.size = nL) (hW : (rest.map fun v => v.category).sum ≤ 8) (hdg : decode cc pc = .ok (.invokevirtual index, 3)) (hf : cells ≤ R.cells ∧ slots ≤ R.slots)
    (kk : ∀ (H1 : Heap) (locs1 : List Loc), va_P D cl (wr ++ w1) H1 → va_D A (wr ++ w1) → va_S A H0 H1 locs1 → W p l e R s m args below meth c H1 locs1 cells slots Q (F0 m (pc + 3) ls (.int rv :: rest))) : W p l e R s m args below meth c H locs cells slots Q (F0 m pc ls st0) := by
  subst hCn
  have hF := va_free hD hS hA isC hC
  refine va_calli (va_runV (As := As) (rest := rest) S (hM H.size) cw ⟨ct_blind, va_recv hK hP hcl hq0, ct_ready hK hP hD isC hC hnC⟩ rfl hlen hsize hst (lv_room hW) hdg hf) hS (fun q _ h => hF q h) hF (fun r u t H1 locs1 ht hvm hw hB hz1 hk1 hS1 => ?_)
  obtain ⟨hP1, hD1⟩ := ct_back hP hD hS hA isC isR hC hR hn hdis ht hB hk1
  have hw : r = rv := hw
  subst hw
  exact kk H1 locs1 hP1 hD1 hS1
theorem ctV_V {S1 : Type} {w1 : S1 → va_W} {ci : Nat} {qC : vw_C} {fs : List Value} (S : CallFix p m c cc nL s args Ts own) (hM : CtV l D cl ty y ws rm (.ref b :: As) wc w1 mc ms) (cw : CallW R s args own C index y bytes maxL ret ws rm mc ms n)
    (hK : va_K D cl ty s) (hP : va_P D cl ww H) (hD : va_D A ww) (hS : va_S A H0 H locs) (hA : ∀ q : Nat, H0.size ≤ q → A q) (q0 : Nat) (hcl : cl[ci]? = some qC) (hq0 : ww[q0]? = some (b, .inr (ci, fs))) (hCn : qC.1 = C)
    (isC isR : List Nat) (hC : isC.map (fun i => ww[i]?) = wc.map some) (hR : isR.map (fun i => ww[i]?) = wr.map some) (hnC : va_nd isC = true) (hn : va_nd isR = true) (hdis : ∀ i ∈ isR, i ∉ isC)
    (hst : st0 = As.reverse ++ .ref b :: rest) (hlen : As.length = n) (hsize : ls.size = nL) (hW : (rest.map fun v => v.category).sum ≤ 8) (hdg : decode cc pc = .ok (.invokevirtual index, 3)) (hf : cells + mc ≤ R.cells ∧ slots + ms ≤ R.slots)
    (kk : ∀ (u : S1) (H1 : Heap) (locs1 : List Loc), va_P D cl (wr ++ w1 u) H1 → va_D A (wr ++ w1 u) → va_S A H0 H1 locs1 → W p l e R s m args below meth c H1 locs1 (cells + mc) (slots + ms) Q (F0 m (pc + 3) ls rest)) : W p l e R s m args below meth c H locs cells slots Q (F0 m pc ls st0) := by
  subst hCn
  have hF := va_free hD hS hA isC hC
  refine va_callv (va_runV (As := As) (rest := rest) S (hM H.size) cw ⟨ct_blind, va_recv hK hP hcl hq0, ct_ready hK hP hD isC hC hnC⟩ rfl hlen hsize hst (lv_room hW) hdg hf) hS (fun q _ h => hF q h) hF (fun u t H1 locs1 ht hvm hw hB hz1 hk1 hS1 => ?_)
  obtain ⟨hP1, hD1⟩ := ct_back hP hD hS hA isC isR hC hR hn hdis ht hB hk1
  exact kk u H1 locs1 hP1 hD1 hS1
theorem ctI_S {w1 : va_W} {rv : Int32} (S : CallFix p m c cc nL s args Ts own) (hM : CtI l D cl ty y ws rm As wc w1 rv) (cw : CallB R s args own index y bytes maxL ret ws rm 0 0 n ∧ (Cond.static y).before args s = true)
    (hK : va_K D cl ty s) (hP : va_P D cl ww H) (hD : va_D A ww) (hS : va_S A H0 H locs) (hA : ∀ q : Nat, H0.size ≤ q → A q)
    (isC isR : List Nat) (hC : isC.map (fun i => ww[i]?) = wc.map some) (hR : isR.map (fun i => ww[i]?) = wr.map some) (hnC : va_nd isC = true) (hn : va_nd isR = true) (hdis : ∀ i ∈ isR, i ∉ isC)
    (hst : st0 = As.reverse ++ rest) (hlen : As.length = n) (hsize : ls.size = nL) (hW : (rest.map fun v => v.category).sum ≤ 8) (hdg : decode cc pc = .ok (.invokestatic index, 3)) (hf : cells ≤ R.cells ∧ slots ≤ R.slots)
    (kk : ∀ (H1 : Heap) (locs1 : List Loc), va_P D cl (wr ++ w1) H1 → va_D A (wr ++ w1) → va_S A H0 H1 locs1 → W p l e R s m args below meth c H1 locs1 cells slots Q (F0 m (pc + 3) ls (.int rv :: rest))) : W p l e R s m args below meth c H locs cells slots Q (F0 m pc ls st0) := by
  have hF := va_free hD hS hA isC hC
  refine va_calli (va_runS (As := As) (rest := rest) S (hM H.size) cw ⟨ct_blind, ct_ready hK hP hD isC hC hnC⟩ rfl hlen hsize hst (lv_room hW) hdg hf) hS (fun q _ h => hF q h) hF (fun r u t H1 locs1 ht hvm hw hB hz1 hk1 hS1 => ?_)
  obtain ⟨hP1, hD1⟩ := ct_back hP hD hS hA isC isR hC hR hn hdis ht hB hk1
  have hw : r = rv := hw
  subst hw
  exact kk H1 locs1 hP1 hD1 hS1
theorem ctV_I {S1 : Type} {w1 : S1 → va_W} (S : CallFix p m c cc nL s args Ts own) (hM : CtV l D cl ty y ws rm (.ref b :: As) wc w1 mc ms) (cw : CallB R s args own index y bytes maxL none ws rm mc ms n ∧ y.name = "<init>" ∧ (Cond.instanceMethod y).before args s = true)
    (hK : va_K D cl ty s) (hP : va_P D cl ww H) (hD : va_D A ww) (hS : va_S A H0 H locs) (hA : ∀ q : Nat, H0.size ≤ q → A q)
    (isC isR : List Nat) (hC : isC.map (fun i => ww[i]?) = wc.map some) (hR : isR.map (fun i => ww[i]?) = wr.map some) (hnC : va_nd isC = true) (hn : va_nd isR = true) (hdis : ∀ i ∈ isR, i ∉ isC)
    (hst : st0 = As.reverse ++ .ref b :: rest) (hlen : As.length = n) (hsize : ls.size = nL) (hW : (rest.map fun v => v.category).sum ≤ 8) (hdg : decode cc pc = .ok (.invokespecial index, 3)) (hf : cells + mc ≤ R.cells ∧ slots + ms ≤ R.slots)
    (kk : ∀ (u : S1) (H1 : Heap) (locs1 : List Loc), va_P D cl (wr ++ w1 u) H1 → va_D A (wr ++ w1 u) → va_S A H0 H1 locs1 → W p l e R s m args below meth c H1 locs1 (cells + mc) (slots + ms) Q (F0 m (pc + 3) ls rest)) : W p l e R s m args below meth c H locs cells slots Q (F0 m pc ls st0) := by
  have hF := va_free hD hS hA isC hC
  refine va_callv (va_runI (As := As) (rest := rest) S (hM H.size) cw ⟨ct_blind, ct_ready hK hP hD isC hC hnC⟩ rfl hlen hsize hst (lv_room hW) hdg hf) hS (fun q _ h => hF q h) hF (fun u t H1 locs1 ht hvm hw hB hz1 hk1 hS1 => ?_)
  obtain ⟨hP1, hD1⟩ := ct_back hP hD hS hA isC isR hC hR hn hdis ht hB hk1
  exact kk u H1 locs1 hP1 hD1 hS1
end
end
section
def jushr (x y : Int32) : Int32 := (x.toUInt32 >>> (y.toUInt32 &&& Int32.toUInt32 31)).toInt32
theorem ct_merge {p : Program} {l : Launch} {e : Env} {R : Room} {s : State} {m : MethodId} {args : Array Value} {below : List Frame} {meth : Method} {c : Code} {H : Heap} {locs : List Loc} {cells slots : Nat} {Q : State → Prop} {g : JFrame} (P : Heap → List Loc → Array Slot → Prop) (pc2 : Nat) (st2 : List Value)
    (k : ∀ (H : Heap) (locs : List Loc) (ls : Array Slot), P H locs ls → W p l e R s m args below meth c H locs cells slots Q (F0 m pc2 ls st2))
    (b : (∀ (H : Heap) (locs : List Loc) (ls : Array Slot), P H locs ls → W p l e R s m args below meth c H locs cells slots Q (F0 m pc2 ls st2)) → W p l e R s m args below meth c H locs cells slots Q g) : W p l e R s m args below meth c H locs cells slots Q g := b k
end
