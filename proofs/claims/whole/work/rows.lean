section
section
-- ===== PART A: goes FIRST, ahead of the names: the tables' words, and 'selects' of the private methods out of them =====
/-- a private method of a class that the tables say can be made, by its rows of tables_1 -/
def lw_okq (q : MethodName × Nat) : Prop := (q.1.cls ≠ "java/lang/invoke/MethodHandle" ∧ q.1.cls ≠ "java/lang/invoke/VarHandle") ∧ Cond.instantiable q.1.cls q.2 ∈ tables_1 ∧ Cond.privateMethod q.1 ∈ tables_1 ∧ Cond.instanceMethod q.1 ∈ tables_1
theorem lw_p0 : lw_okq (⟨"MicroTasks", "cycle", "()Z"⟩, 12) := ⟨⟨by decide +kernel, by decide +kernel⟩, List.mem_of_getElem? (i := 7) (by decide +kernel), List.mem_of_getElem? (i := 169) (by decide +kernel), List.mem_of_getElem? (i := 170) (by decide +kernel)⟩
theorem lw_p1 : lw_okq (⟨"MicroTasks", "mustWait", "(I)Z"⟩, 12) := ⟨⟨by decide +kernel, by decide +kernel⟩, List.mem_of_getElem? (i := 7) (by decide +kernel), List.mem_of_getElem? (i := 173) (by decide +kernel), List.mem_of_getElem? (i := 174) (by decide +kernel)⟩
theorem lw_p2 : lw_okq (⟨"MicroTasks", "perform", "(I)V"⟩, 12) := ⟨⟨by decide +kernel, by decide +kernel⟩, List.mem_of_getElem? (i := 7) (by decide +kernel), List.mem_of_getElem? (i := 189) (by decide +kernel), List.mem_of_getElem? (i := 190) (by decide +kernel)⟩
theorem lw_p3 : lw_okq (⟨"MicroTasks", "shiftedL", "(I)I"⟩, 12) := ⟨⟨by decide +kernel, by decide +kernel⟩, List.mem_of_getElem? (i := 7) (by decide +kernel), List.mem_of_getElem? (i := 196) (by decide +kernel), List.mem_of_getElem? (i := 197) (by decide +kernel)⟩
theorem lw_p4 : lw_okq (⟨"MicroTasks", "busOf", "(I)I"⟩, 12) := ⟨⟨by decide +kernel, by decide +kernel⟩, List.mem_of_getElem? (i := 7) (by decide +kernel), List.mem_of_getElem? (i := 200) (by decide +kernel), List.mem_of_getElem? (i := 201) (by decide +kernel)⟩
theorem lw_p5 : lw_okq (⟨"MicroTasks", "sumOf", "(II)I"⟩, 12) := ⟨⟨by decide +kernel, by decide +kernel⟩, List.mem_of_getElem? (i := 7) (by decide +kernel), List.mem_of_getElem? (i := 211) (by decide +kernel), List.mem_of_getElem? (i := 212) (by decide +kernel)⟩
theorem lw_p6 : lw_okq (⟨"MicroTasks", "changeOf", "(III)I"⟩, 12) := ⟨⟨by decide +kernel, by decide +kernel⟩, List.mem_of_getElem? (i := 7) (by decide +kernel), List.mem_of_getElem? (i := 215) (by decide +kernel), List.mem_of_getElem? (i := 216) (by decide +kernel)⟩
theorem lw_p7 : lw_okq (⟨"MicroTasks", "useMemory", "(III)V"⟩, 12) := ⟨⟨by decide +kernel, by decide +kernel⟩, List.mem_of_getElem? (i := 7) (by decide +kernel), List.mem_of_getElem? (i := 228) (by decide +kernel), List.mem_of_getElem? (i := 229) (by decide +kernel)⟩
theorem lw_p8 : lw_okq (⟨"MicroTasks$Tasks", "greatestWoken", "()I"⟩, 7) := ⟨⟨by decide +kernel, by decide +kernel⟩, List.mem_of_getElem? (i := 35) (by decide +kernel), List.mem_of_getElem? (i := 251) (by decide +kernel), List.mem_of_getElem? (i := 252) (by decide +kernel)⟩
theorem lw_p9 : lw_okq (⟨"MicroTasks$Tasks", "giveTo", "(I)V"⟩, 7) := ⟨⟨by decide +kernel, by decide +kernel⟩, List.mem_of_getElem? (i := 35) (by decide +kernel), List.mem_of_getElem? (i := 255) (by decide +kernel), List.mem_of_getElem? (i := 256) (by decide +kernel)⟩
theorem lw_p10 : lw_okq (⟨"MicroTasksModel", "waits", "()Z"⟩, 28) := ⟨⟨by decide +kernel, by decide +kernel⟩, List.mem_of_getElem? (i := 290) (by decide +kernel), List.mem_of_getElem? (i := 417) (by decide +kernel), List.mem_of_getElem? (i := 418) (by decide +kernel)⟩
theorem lw_p11 : lw_okq (⟨"MicroTasksModel", "hasConstant", "()Z"⟩, 28) := ⟨⟨by decide +kernel, by decide +kernel⟩, List.mem_of_getElem? (i := 290) (by decide +kernel), List.mem_of_getElem? (i := 421) (by decide +kernel), List.mem_of_getElem? (i := 422) (by decide +kernel)⟩
theorem lw_p12 : lw_okq (⟨"MicroTasksModel", "act", "(I)V"⟩, 28) := ⟨⟨by decide +kernel, by decide +kernel⟩, List.mem_of_getElem? (i := 290) (by decide +kernel), List.mem_of_getElem? (i := 425) (by decide +kernel), List.mem_of_getElem? (i := 426) (by decide +kernel)⟩
theorem lw_p13 : lw_okq (⟨"MicroTasksModel", "shifted", "()I"⟩, 28) := ⟨⟨by decide +kernel, by decide +kernel⟩, List.mem_of_getElem? (i := 290) (by decide +kernel), List.mem_of_getElem? (i := 429) (by decide +kernel), List.mem_of_getElem? (i := 430) (by decide +kernel)⟩
theorem lw_p14 : lw_okq (⟨"MicroTasksModel", "bus", "()I"⟩, 28) := ⟨⟨by decide +kernel, by decide +kernel⟩, List.mem_of_getElem? (i := 290) (by decide +kernel), List.mem_of_getElem? (i := 433) (by decide +kernel), List.mem_of_getElem? (i := 434) (by decide +kernel)⟩
theorem lw_p15 : lw_okq (⟨"MicroTasksModel", "reckon", "(I)V"⟩, 28) := ⟨⟨by decide +kernel, by decide +kernel⟩, List.mem_of_getElem? (i := 290) (by decide +kernel), List.mem_of_getElem? (i := 437) (by decide +kernel), List.mem_of_getElem? (i := 438) (by decide +kernel)⟩
def lw_privs_1 : List (MethodName × Nat) := [(⟨"MicroTasks", "cycle", "()Z"⟩, 12), (⟨"MicroTasks", "mustWait", "(I)Z"⟩, 12), (⟨"MicroTasks", "perform", "(I)V"⟩, 12), (⟨"MicroTasks", "shiftedL", "(I)I"⟩, 12), (⟨"MicroTasks", "busOf", "(I)I"⟩, 12), (⟨"MicroTasks", "sumOf", "(II)I"⟩, 12), (⟨"MicroTasks", "changeOf", "(III)I"⟩, 12), (⟨"MicroTasks", "useMemory", "(III)V"⟩, 12), (⟨"MicroTasks$Tasks", "greatestWoken", "()I"⟩, 7), (⟨"MicroTasks$Tasks", "giveTo", "(I)V"⟩, 7), (⟨"MicroTasksModel", "waits", "()Z"⟩, 28), (⟨"MicroTasksModel", "hasConstant", "()Z"⟩, 28), (⟨"MicroTasksModel", "act", "(I)V"⟩, 28), (⟨"MicroTasksModel", "shifted", "()I"⟩, 28), (⟨"MicroTasksModel", "bus", "()I"⟩, 28), (⟨"MicroTasksModel", "reckon", "(I)V"⟩, 28)]
theorem lw_r1 : ∀ q ∈ lw_privs_1, lw_okq q := List.forall_mem_cons.mpr ⟨lw_p0, List.forall_mem_cons.mpr ⟨lw_p1, List.forall_mem_cons.mpr ⟨lw_p2, List.forall_mem_cons.mpr ⟨lw_p3, List.forall_mem_cons.mpr ⟨lw_p4, List.forall_mem_cons.mpr ⟨lw_p5, List.forall_mem_cons.mpr ⟨lw_p6, List.forall_mem_cons.mpr ⟨lw_p7, List.forall_mem_cons.mpr ⟨lw_p8, List.forall_mem_cons.mpr ⟨lw_p9, List.forall_mem_cons.mpr ⟨lw_p10, List.forall_mem_cons.mpr ⟨lw_p11, List.forall_mem_cons.mpr ⟨lw_p12, List.forall_mem_cons.mpr ⟨lw_p13, List.forall_mem_cons.mpr ⟨lw_p14, List.forall_mem_cons.mpr ⟨lw_p15, fun _ h => absurd h List.not_mem_nil⟩⟩⟩⟩⟩⟩⟩⟩⟩⟩⟩⟩⟩⟩⟩⟩
theorem lw_p16 : lw_okq (⟨"MicroTasksModel", "add", "(I)V"⟩, 28) := ⟨⟨by decide +kernel, by decide +kernel⟩, List.mem_of_getElem? (i := 290) (by decide +kernel), List.mem_of_getElem? (i := 441) (by decide +kernel), List.mem_of_getElem? (i := 442) (by decide +kernel)⟩
theorem lw_p17 : lw_okq (⟨"MicroTasksModel", "take", "(II)V"⟩, 28) := ⟨⟨by decide +kernel, by decide +kernel⟩, List.mem_of_getElem? (i := 290) (by decide +kernel), List.mem_of_getElem? (i := 445) (by decide +kernel), List.mem_of_getElem? (i := 446) (by decide +kernel)⟩
theorem lw_p18 : lw_okq (⟨"MicroTasksModel", "change", "(II)I"⟩, 28) := ⟨⟨by decide +kernel, by decide +kernel⟩, List.mem_of_getElem? (i := 290) (by decide +kernel), List.mem_of_getElem? (i := 449) (by decide +kernel), List.mem_of_getElem? (i := 450) (by decide +kernel)⟩
theorem lw_p19 : lw_okq (⟨"MicroTasksModel", "isOfAlu", "()Z"⟩, 28) := ⟨⟨by decide +kernel, by decide +kernel⟩, List.mem_of_getElem? (i := 290) (by decide +kernel), List.mem_of_getElem? (i := 453) (by decide +kernel), List.mem_of_getElem? (i := 454) (by decide +kernel)⟩
theorem lw_p20 : lw_okq (⟨"MicroTasksModel", "give", "(Z)V"⟩, 28) := ⟨⟨by decide +kernel, by decide +kernel⟩, List.mem_of_getElem? (i := 290) (by decide +kernel), List.mem_of_getElem? (i := 457) (by decide +kernel), List.mem_of_getElem? (i := 458) (by decide +kernel)⟩
def lw_privs_2 : List (MethodName × Nat) := [(⟨"MicroTasksModel", "add", "(I)V"⟩, 28), (⟨"MicroTasksModel", "take", "(II)V"⟩, 28), (⟨"MicroTasksModel", "change", "(II)I"⟩, 28), (⟨"MicroTasksModel", "isOfAlu", "()Z"⟩, 28), (⟨"MicroTasksModel", "give", "(Z)V"⟩, 28)]
theorem lw_r2 : ∀ q ∈ lw_privs_2, lw_okq q := List.forall_mem_cons.mpr ⟨lw_p16, List.forall_mem_cons.mpr ⟨lw_p17, List.forall_mem_cons.mpr ⟨lw_p18, List.forall_mem_cons.mpr ⟨lw_p19, List.forall_mem_cons.mpr ⟨lw_p20, fun _ h => absurd h List.not_mem_nil⟩⟩⟩⟩⟩
def lw_privs : List (MethodName × Nat) := lw_privs_1 ++ (lw_privs_2)
def lw_tbl : List Cond := k2_sels lw_privs ++ tables_1
theorem lw_privs_ok : ∀ q ∈ lw_privs, lw_okq q := by
  show ∀ q ∈ lw_privs_1 ++ (lw_privs_2), lw_okq q
  exact List.forall_mem_append.mpr ⟨lw_r1, lw_r2⟩
end
end
section
section
/-! ===== BEGIN words of one list among another's, by their places ===== -/
theorem goodIn_r {big : List Cond} (ws : List Cond) (ps : List Nat) (hp : ws = ps.filterMap (fun i => big[i]?)) (h : ws.all goodWord = true) : GoodIn big ws := by
  intro w hw
  have h1 := List.all_eq_true.mp h w hw
  rw [hp] at hw
  obtain ⟨i, -, hi⟩ := List.mem_filterMap.mp hw
  have hm : w ∈ big := by first | exact List.mem_of_getElem? hi | exact List.getElem?_mem hi
  exact ⟨hm, good_of_word h1⟩
theorem goodIn_app {big a b : List Cond} (ha : GoodIn big a) (hb : GoodIn big b) : GoodIn big (a ++ b) := fun w h => (List.mem_append.mp h).elim (ha w) (hb w)
theorem goodIn_ca {big a b : List Cond} {c : Cond} (ha : GoodIn big (c :: a)) (hb : GoodIn big b) : GoodIn big (c :: (a ++ b)) := fun w h => (List.mem_cons.mp h).elim (fun e => ha w (List.mem_cons.mpr (Or.inl e))) (fun h => (List.mem_append.mp h).elim (fun h => ha w (List.mem_cons.mpr (Or.inr h))) (hb w))
theorem goodIn_sub {big ws : List Cond} (hm : ∀ w ∈ ws, w ∈ big) (h : ws.all goodWord = true) : GoodIn big ws := fun w hw => ⟨hm w hw, good_of_word (List.all_eq_true.mp h w hw)⟩
/-! ===== END ===== -/

/-! ===== BEGIN printed: names, fields, word lists, decode rows ===== -/
def RX0 : String := "MicroTasks$Memory"
def TX0 : u_T := fun k => match k with
  | 0 => ("MicroTasks$Memory", "words", "[I", true)
  | 1 => ("MicroTasks$Memory", "mar", "I", false)
  | _ => ("MicroTasks$Memory", "rested", "I", false)
def tyX0 : Nat → FieldType := fun k => match k with
  | 0 => .array .int
  | 1 => .int
  | _ => .int
abbrev wsX00 : List Cond := u_ws RX0 TX0 3
theorem nmX0 : ∀ a, a < 3 → ∀ b, b < 3 → a ≠ b → (TX0 a).2.1 ≠ (TX0 b).2.1 := by decide +kernel
theorem tyX0_ok : ∀ k, k < 3 → parseFieldDescriptor (TX0 k).2.2.1 = some (tyX0 k) := by decide +kernel
abbrev cX0_init : ByteArray := prog_2_method_1_code
def yX0_init : MethodName := ⟨RX0, "<init>", "()V"⟩
abbrev cX0_read : ByteArray := prog_2_method_2_code
def yX0_read : MethodName := ⟨RX0, "read", "()I"⟩
abbrev cX0_write : ByteArray := prog_2_method_3_code
def yX0_write : MethodName := ⟨RX0, "write", "(I)V"⟩
abbrev cX0_begin : ByteArray := prog_2_method_4_code
def yX0_begin : MethodName := ⟨RX0, "begin", "(I)V"⟩
abbrev cX0_rest : ByteArray := prog_2_method_5_code
def yX0_rest : MethodName := ⟨RX0, "rest", "()V"⟩
def RX1 : String := "MicroTasks$Output"
def TX1 : u_T := fun k => match k with
  | 0 => ("MicroTasks$Output", "words", "[I", true)
  | 1 => ("MicroTasks$Output", "kept", "I", false)
  | _ => ("MicroTasks$Output", "gone", "I", false)
def tyX1 : Nat → FieldType := fun k => match k with
  | 0 => .array .int
  | 1 => .int
  | _ => .int
abbrev wsX10 : List Cond := u_ws RX1 TX1 3
theorem nmX1 : ∀ a, a < 3 → ∀ b, b < 3 → a ≠ b → (TX1 a).2.1 ≠ (TX1 b).2.1 := by decide +kernel
theorem tyX1_ok : ∀ k, k < 3 → parseFieldDescriptor (TX1 k).2.2.1 = some (tyX1 k) := by decide +kernel
abbrev cX1_init : ByteArray := prog_3_method_1_code
def yX1_init : MethodName := ⟨RX1, "<init>", "()V"⟩
abbrev cX1_send : ByteArray := prog_3_method_2_code
def yX1_send : MethodName := ⟨RX1, "send", "(I)V"⟩
def RX2 : String := "MicroTasks$Tasks"
def TX2 : u_T := fun k => match k with
  | 0 => ("MicroTasks$Tasks", "places", "[I", true)
  | 1 => ("MicroTasks$Tasks", "changes", "[I", true)
  | 2 => ("MicroTasks$Tasks", "done", "[I", true)
  | 3 => ("MicroTasks$Tasks", "woken", "[Z", true)
  | 4 => ("MicroTasks$Tasks", "hand", "I", false)
  | 5 => ("MicroTasks$Tasks", "handovers", "I", false)
  | _ => ("MicroTasks$Tasks", "taskSaid", "Z", false)
def tyX2 : Nat → FieldType := fun k => match k with
  | 0 => .array .int
  | 1 => .array .int
  | 2 => .array .int
  | 3 => .array .boolean
  | 4 => .int
  | 5 => .int
  | _ => .boolean
abbrev wsX20 : List Cond := u_ws RX2 TX2 7
theorem nmX2 : ∀ a, a < 7 → ∀ b, b < 7 → a ≠ b → (TX2 a).2.1 ≠ (TX2 b).2.1 := by decide +kernel
theorem tyX2_ok : ∀ k, k < 7 → parseFieldDescriptor (TX2 k).2.2.1 = some (tyX2 k) := by decide +kernel
abbrev cX2_init : ByteArray := prog_4_method_1_code
def yX2_init : MethodName := ⟨RX2, "<init>", "()V"⟩
abbrev cX2_rouse : ByteArray := prog_4_method_2_code
def yX2_rouse : MethodName := ⟨RX2, "rouse", "(I)Z"⟩
abbrev cX2_goOn : ByteArray := prog_4_method_3_code
def yX2_goOn : MethodName := ⟨RX2, "goOn", "(III)V"⟩
abbrev cX2_giveTo : ByteArray := prog_4_method_4_code
def yX2_giveTo : MethodName := ⟨RX2, "giveTo", "(I)V"⟩
abbrev cX2_greatestWoken : ByteArray := prog_4_method_5_code
def yX2_greatestWoken : MethodName := ⟨RX2, "greatestWoken", "()I"⟩
def RX3 : String := "MicroTasks"
def TX3 : u_T := fun k => match k with
  | 0 => ("MicroTasks", "registers", "[I", true)
  | 1 => ("MicroTasks", "constants", "[I", true)
  | 2 => ("MicroTasks", "instructions", "[I", true)
  | 3 => ("MicroTasks", "memory", "LMicroTasks$Memory;", true)
  | 4 => ("MicroTasks", "tasks", "LMicroTasks$Tasks;", true)
  | 5 => ("MicroTasks", "output", "LMicroTasks$Output;", true)
  | 6 => ("MicroTasks", "t", "I", false)
  | 7 => ("MicroTasks", "l", "I", false)
  | 8 => ("MicroTasks", "carry", "I", false)
  | 9 => ("MicroTasks", "input", "I", false)
  | 10 => ("MicroTasks", "cyclesGone", "I", false)
  | _ => ("MicroTasks", "cyclesWaited", "I", false)
def tyX3 : Nat → FieldType := fun k => match k with
  | 0 => .array .int
  | 1 => .array .int
  | 2 => .array .int
  | 3 => .object "MicroTasks$Memory"
  | 4 => .object "MicroTasks$Tasks"
  | 5 => .object "MicroTasks$Output"
  | 6 => .int
  | 7 => .int
  | 8 => .int
  | 9 => .int
  | 10 => .int
  | _ => .int
abbrev wsX30 : List Cond := u_ws RX3 TX3 12
theorem nmX3 : ∀ a, a < 12 → ∀ b, b < 12 → a ≠ b → (TX3 a).2.1 ≠ (TX3 b).2.1 := by decide +kernel
theorem tyX3_ok : ∀ k, k < 12 → parseFieldDescriptor (TX3 k).2.2.1 = some (tyX3 k) := by decide +kernel
abbrev cX3_init : ByteArray := prog_1_method_1_code
def yX3_init : MethodName := ⟨RX3, "<init>", "()V"⟩
abbrev cX3_store : ByteArray := prog_1_method_2_code
def yX3_store : MethodName := ⟨RX3, "store", "(II)Z"⟩
abbrev cX3_constant : ByteArray := prog_1_method_3_code
def yX3_constant : MethodName := ⟨RX3, "constant", "(II)Z"⟩
abbrev cX3_poke : ByteArray := prog_1_method_4_code
def yX3_poke : MethodName := ⟨RX3, "poke", "(II)Z"⟩
abbrev cX3_set : ByteArray := prog_1_method_5_code
def yX3_set : MethodName := ⟨RX3, "set", "(II)Z"⟩
abbrev cX3_port : ByteArray := prog_1_method_6_code
def yX3_port : MethodName := ⟨RX3, "port", "(I)V"⟩
abbrev cX3_wake : ByteArray := prog_1_method_7_code
def yX3_wake : MethodName := ⟨RX3, "wake", "(I)Z"⟩
abbrev cX3_start : ByteArray := prog_1_method_8_code
def yX3_start : MethodName := ⟨RX3, "start", "(II)Z"⟩
abbrev cX3_run : ByteArray := prog_1_method_9_code
def yX3_run : MethodName := ⟨RX3, "run", "(I)I"⟩
abbrev cX3_register : ByteArray := prog_1_method_10_code
def yX3_register : MethodName := ⟨RX3, "register", "(I)I"⟩
abbrev cX3_peek : ByteArray := prog_1_method_11_code
def yX3_peek : MethodName := ⟨RX3, "peek", "(I)I"⟩
abbrev cX3_task : ByteArray := prog_1_method_12_code
def yX3_task : MethodName := ⟨RX3, "task", "(II)I"⟩
abbrev cX3_now : ByteArray := prog_1_method_13_code
def yX3_now : MethodName := ⟨RX3, "now", "()I"⟩
abbrev cX3_out : ByteArray := prog_1_method_14_code
def yX3_out : MethodName := ⟨RX3, "out", "(I)I"⟩
abbrev cX3_count : ByteArray := prog_1_method_15_code
def yX3_count : MethodName := ⟨RX3, "count", "(I)I"⟩
abbrev cX3_isTask : ByteArray := prog_1_method_16_code
def yX3_isTask : MethodName := ⟨RX3, "isTask", "(I)Z"⟩
abbrev cX3_keep : ByteArray := prog_1_method_17_code
def yX3_keep : MethodName := ⟨RX3, "keep", "([III)Z"⟩
abbrev cX3_ask : ByteArray := prog_1_method_18_code
def yX3_ask : MethodName := ⟨RX3, "ask", "([II)I"⟩
abbrev cX3_cycle : ByteArray := prog_1_method_19_code
def yX3_cycle : MethodName := ⟨RX3, "cycle", "()Z"⟩
abbrev cX3_mustWait : ByteArray := prog_1_method_20_code
def yX3_mustWait : MethodName := ⟨RX3, "mustWait", "(I)Z"⟩
abbrev cX3_perform : ByteArray := prog_1_method_21_code
def yX3_perform : MethodName := ⟨RX3, "perform", "(I)V"⟩
abbrev cX3_useMemory : ByteArray := prog_1_method_22_code
def yX3_useMemory : MethodName := ⟨RX3, "useMemory", "(III)V"⟩
abbrev cX3_shiftedL : ByteArray := prog_1_method_23_code
def yX3_shiftedL : MethodName := ⟨RX3, "shiftedL", "(I)I"⟩
abbrev cX3_busOf : ByteArray := prog_1_method_24_code
def yX3_busOf : MethodName := ⟨RX3, "busOf", "(I)I"⟩
abbrev cX3_sumOf : ByteArray := prog_1_method_25_code
def yX3_sumOf : MethodName := ⟨RX3, "sumOf", "(II)I"⟩
abbrev cX3_givesAluToT : ByteArray := prog_1_method_26_code
def yX3_givesAluToT : MethodName := ⟨RX3, "givesAluToT", "(I)Z"⟩
abbrev cX3_changeOf : ByteArray := prog_1_method_27_code
def yX3_changeOf : MethodName := ⟨RX3, "changeOf", "(III)I"⟩
abbrev cX3_rselOf : ByteArray := prog_1_method_28_code
def yX3_rselOf : MethodName := ⟨RX3, "rselOf", "(I)I"⟩
abbrev cX3_alufOf : ByteArray := prog_1_method_29_code
def yX3_alufOf : MethodName := ⟨RX3, "alufOf", "(I)I"⟩
abbrev cX3_bsOf : ByteArray := prog_1_method_30_code
def yX3_bsOf : MethodName := ⟨RX3, "bsOf", "(I)I"⟩
abbrev cX3_f1Of : ByteArray := prog_1_method_31_code
def yX3_f1Of : MethodName := ⟨RX3, "f1Of", "(I)I"⟩
abbrev cX3_f2Of : ByteArray := prog_1_method_32_code
def yX3_f2Of : MethodName := ⟨RX3, "f2Of", "(I)I"⟩
abbrev cX3_loadsT : ByteArray := prog_1_method_33_code
def yX3_loadsT : MethodName := ⟨RX3, "loadsT", "(I)Z"⟩
abbrev cX3_loadsL : ByteArray := prog_1_method_34_code
def yX3_loadsL : MethodName := ⟨RX3, "loadsL", "(I)Z"⟩
abbrev cX3_nextOf : ByteArray := prog_1_method_35_code
def yX3_nextOf : MethodName := ⟨RX3, "nextOf", "(I)I"⟩
abbrev cX3_hasConstant : ByteArray := prog_1_method_36_code
def yX3_hasConstant : MethodName := ⟨RX3, "hasConstant", "(I)Z"⟩
def RX4 : String := "MicroTasksModel"
def TX4 : u_T := fun k => match k with
  | 0 => ("MicroTasksModel", "instructions", "[I", true)
  | 1 => ("MicroTasksModel", "constants", "[I", true)
  | 2 => ("MicroTasksModel", "memory", "[I", true)
  | 3 => ("MicroTasksModel", "registers", "[I", true)
  | 4 => ("MicroTasksModel", "t", "I", false)
  | 5 => ("MicroTasksModel", "l", "I", false)
  | 6 => ("MicroTasksModel", "carry", "I", false)
  | 7 => ("MicroTasksModel", "mar", "I", false)
  | 8 => ("MicroTasksModel", "input", "I", false)
  | 9 => ("MicroTasksModel", "places", "[I", true)
  | 10 => ("MicroTasksModel", "changes", "[I", true)
  | 11 => ("MicroTasksModel", "lines", "[Z", true)
  | 12 => ("MicroTasksModel", "done", "[I", true)
  | 13 => ("MicroTasksModel", "hand", "I", false)
  | 14 => ("MicroTasksModel", "gives", "Z", false)
  | 15 => ("MicroTasksModel", "cycles", "I", false)
  | 16 => ("MicroTasksModel", "waited", "I", false)
  | 17 => ("MicroTasksModel", "switched", "I", false)
  | 18 => ("MicroTasksModel", "began", "I", false)
  | 19 => ("MicroTasksModel", "outs", "I", false)
  | 20 => ("MicroTasksModel", "out", "[I", true)
  | 21 => ("MicroTasksModel", "rsel", "I", false)
  | 22 => ("MicroTasksModel", "aluf", "I", false)
  | 23 => ("MicroTasksModel", "bs", "I", false)
  | 24 => ("MicroTasksModel", "f1", "I", false)
  | 25 => ("MicroTasksModel", "f2", "I", false)
  | 26 => ("MicroTasksModel", "sum", "I", false)
  | _ => ("MicroTasksModel", "sumCarry", "I", false)
def tyX4 : Nat → FieldType := fun k => match k with
  | 0 => .array .int
  | 1 => .array .int
  | 2 => .array .int
  | 3 => .array .int
  | 4 => .int
  | 5 => .int
  | 6 => .int
  | 7 => .int
  | 8 => .int
  | 9 => .array .int
  | 10 => .array .int
  | 11 => .array .boolean
  | 12 => .array .int
  | 13 => .int
  | 14 => .boolean
  | 15 => .int
  | 16 => .int
  | 17 => .int
  | 18 => .int
  | 19 => .int
  | 20 => .array .int
  | 21 => .int
  | 22 => .int
  | 23 => .int
  | 24 => .int
  | 25 => .int
  | 26 => .int
  | _ => .int
abbrev wsX40 : List Cond := u_ws RX4 TX4 28
theorem nmX4 : ∀ a, a < 28 → ∀ b, b < 28 → a ≠ b → (TX4 a).2.1 ≠ (TX4 b).2.1 := by decide +kernel
theorem tyX4_ok : ∀ k, k < 28 → parseFieldDescriptor (TX4 k).2.2.1 = some (tyX4 k) := by decide +kernel
abbrev cX4_init : ByteArray := prog_6_method_1_code
def yX4_init : MethodName := ⟨RX4, "<init>", "()V"⟩
abbrev cX4_within : ByteArray := prog_6_method_2_code
def yX4_within : MethodName := ⟨RX4, "within", "(II)Z"⟩
abbrev cX4_store : ByteArray := prog_6_method_3_code
def yX4_store : MethodName := ⟨RX4, "store", "(II)Z"⟩
abbrev cX4_constant : ByteArray := prog_6_method_4_code
def yX4_constant : MethodName := ⟨RX4, "constant", "(II)Z"⟩
abbrev cX4_poke : ByteArray := prog_6_method_5_code
def yX4_poke : MethodName := ⟨RX4, "poke", "(II)Z"⟩
abbrev cX4_set : ByteArray := prog_6_method_6_code
def yX4_set : MethodName := ⟨RX4, "set", "(II)Z"⟩
abbrev cX4_port : ByteArray := prog_6_method_7_code
def yX4_port : MethodName := ⟨RX4, "port", "(I)V"⟩
abbrev cX4_wake : ByteArray := prog_6_method_8_code
def yX4_wake : MethodName := ⟨RX4, "wake", "(I)Z"⟩
abbrev cX4_start : ByteArray := prog_6_method_9_code
def yX4_start : MethodName := ⟨RX4, "start", "(II)Z"⟩
abbrev cX4_hasConstant : ByteArray := prog_6_method_10_code
def yX4_hasConstant : MethodName := ⟨RX4, "hasConstant", "()Z"⟩
abbrev cX4_waits : ByteArray := prog_6_method_11_code
def yX4_waits : MethodName := ⟨RX4, "waits", "()Z"⟩
abbrev cX4_shifted : ByteArray := prog_6_method_12_code
def yX4_shifted : MethodName := ⟨RX4, "shifted", "()I"⟩
abbrev cX4_bus : ByteArray := prog_6_method_13_code
def yX4_bus : MethodName := ⟨RX4, "bus", "()I"⟩
abbrev cX4_add : ByteArray := prog_6_method_14_code
def yX4_add : MethodName := ⟨RX4, "add", "(I)V"⟩
abbrev cX4_take : ByteArray := prog_6_method_15_code
def yX4_take : MethodName := ⟨RX4, "take", "(II)V"⟩
abbrev cX4_reckon : ByteArray := prog_6_method_16_code
def yX4_reckon : MethodName := ⟨RX4, "reckon", "(I)V"⟩
abbrev cX4_isOfAlu : ByteArray := prog_6_method_17_code
def yX4_isOfAlu : MethodName := ⟨RX4, "isOfAlu", "()Z"⟩
abbrev cX4_change : ByteArray := prog_6_method_18_code
def yX4_change : MethodName := ⟨RX4, "change", "(II)I"⟩
abbrev cX4_act : ByteArray := prog_6_method_19_code
def yX4_act : MethodName := ⟨RX4, "act", "(I)V"⟩
abbrev cX4_give : ByteArray := prog_6_method_20_code
def yX4_give : MethodName := ⟨RX4, "give", "(Z)V"⟩
abbrev cX4_run : ByteArray := prog_6_method_21_code
def yX4_run : MethodName := ⟨RX4, "run", "(I)I"⟩
abbrev cX4_register : ByteArray := prog_6_method_22_code
def yX4_register : MethodName := ⟨RX4, "register", "(I)I"⟩
abbrev cX4_peek : ByteArray := prog_6_method_23_code
def yX4_peek : MethodName := ⟨RX4, "peek", "(I)I"⟩
abbrev cX4_task : ByteArray := prog_6_method_24_code
def yX4_task : MethodName := ⟨RX4, "task", "(II)I"⟩
abbrev cX4_now : ByteArray := prog_6_method_25_code
def yX4_now : MethodName := ⟨RX4, "now", "()I"⟩
abbrev cX4_out : ByteArray := prog_6_method_26_code
def yX4_out : MethodName := ⟨RX4, "out", "(I)I"⟩
abbrev cX4_count : ByteArray := prog_6_method_27_code
def yX4_count : MethodName := ⟨RX4, "count", "(I)I"⟩
def RL : String := "MicroTasksLaw"
abbrev cL_law : ByteArray := code
def yL_law : MethodName := ⟨RL, "law", "([I)Z"⟩
abbrev vwCl : List vw_C := [(RX0, TX0, 3), (RX1, TX1, 3), (RX2, TX2, 7), (RX3, TX3, 12), (RX4, TX4, 28)]
abbrev classes : List vw_C := vwCl
end
end
section
section
def gt : List Cond := lw_tbl.filter goodWord
theorem gt_at {w : Cond} (i : Nat) (h : lw_tbl[i]? = some w) (hg : goodWord w = true) : w ∈ gt := List.mem_filter.mpr ⟨List.mem_of_getElem? h, hg⟩
theorem gt_in : ∀ w ∈ gt, w ∈ lw_tbl := fun _ h => (List.mem_filter.mp h).1
theorem gt_good : ∀ w ∈ gt, w ∈ gt ∧ ((w.onTables && w.keeps) = true ∨ ∃ ty, w = .arrayClass ty) := fun _ h => ⟨h, good_of_word (List.mem_filter.mp h).2⟩
theorem gt_of {ws : List Cond} (ps : List Nat) (hp : ws = ps.filterMap (fun i => lw_tbl[i]?)) (hg : ws.all goodWord = true) : ∀ w ∈ ws, w ∈ gt := fun w hw => List.mem_filter.mpr ⟨by
  rw [hp] at hw
  obtain ⟨i, -, hi⟩ := List.mem_filterMap.mp hw
  exact List.mem_of_getElem? hi, List.all_eq_true.mp hg w hw⟩
theorem gd_C {cw : Cond} (h : cw ∈ gt) : GoodIn gt (cw :: gt) := fun w hw => (List.mem_cons.mp hw).elim (fun e => e ▸ gt_good _ h) (gt_good w)
theorem gd_V {own C : String} {idx : Nat} {y : MethodName} {cw : Cond} (h1 : Cond.methodLink own idx y ∈ gt) (h2 : Cond.instanceMethod y ∈ gt) (h3 : Cond.selects C y y ∈ gt) (h4 : Cond.initialized C ∈ gt) (h5 : cw ∈ gt) : GoodIn gt (wsV own idx C y (cw :: gt)) := by
  intro w hw
  unfold wsV at hw
  rcases List.mem_append.mp hw with h | h
  · simp only [List.mem_cons, List.not_mem_nil, or_false] at h
    rcases h with rfl | rfl | rfl | rfl
    · exact gt_good _ h1
    · exact gt_good _ h2
    · exact gt_good _ h3
    · exact gt_good _ h4
  · exact gd_C h5 w h
theorem gd_S {own : String} {idx : Nat} {y : MethodName} {cw : Cond} (h1 : Cond.methodLink own idx y ∈ gt) (h2 : Cond.static y ∈ gt) (h4 : Cond.initialized own ∈ gt) (h5 : cw ∈ gt) : GoodIn gt (wsS own idx y (cw :: gt)) := by
  intro w hw
  unfold wsS at hw
  rcases List.mem_append.mp hw with h | h
  · simp only [List.mem_cons, List.not_mem_nil, or_false] at h
    rcases h with rfl | rfl | rfl
    · exact gt_good _ h1
    · exact gt_good _ h2
    · exact gt_good _ h4
  · exact gd_C h5 w h
set_option maxRecDepth 20000 in
theorem ws_X3_cycle : Cond.selects RX3 yX3_cycle yX3_cycle ∈ gt := gt_at 0 rfl rfl
set_option maxRecDepth 20000 in
theorem ws_X3_mustWait : Cond.selects RX3 yX3_mustWait yX3_mustWait ∈ gt := gt_at 1 rfl rfl
set_option maxRecDepth 20000 in
theorem ws_X3_perform : Cond.selects RX3 yX3_perform yX3_perform ∈ gt := gt_at 2 rfl rfl
set_option maxRecDepth 20000 in
theorem ws_X3_shiftedL : Cond.selects RX3 yX3_shiftedL yX3_shiftedL ∈ gt := gt_at 3 rfl rfl
set_option maxRecDepth 20000 in
theorem ws_X3_busOf : Cond.selects RX3 yX3_busOf yX3_busOf ∈ gt := gt_at 4 rfl rfl
set_option maxRecDepth 20000 in
theorem ws_X3_sumOf : Cond.selects RX3 yX3_sumOf yX3_sumOf ∈ gt := gt_at 5 rfl rfl
set_option maxRecDepth 20000 in
theorem ws_X3_changeOf : Cond.selects RX3 yX3_changeOf yX3_changeOf ∈ gt := gt_at 6 rfl rfl
set_option maxRecDepth 20000 in
theorem ws_X3_useMemory : Cond.selects RX3 yX3_useMemory yX3_useMemory ∈ gt := gt_at 7 rfl rfl
set_option maxRecDepth 20000 in
theorem ws_X2_greatestWoken : Cond.selects RX2 yX2_greatestWoken yX2_greatestWoken ∈ gt := gt_at 8 rfl rfl
set_option maxRecDepth 20000 in
theorem ws_X2_giveTo : Cond.selects RX2 yX2_giveTo yX2_giveTo ∈ gt := gt_at 9 rfl rfl
set_option maxRecDepth 20000 in
theorem ws_X4_waits : Cond.selects RX4 yX4_waits yX4_waits ∈ gt := gt_at 10 rfl rfl
set_option maxRecDepth 20000 in
theorem ws_X4_hasConstant : Cond.selects RX4 yX4_hasConstant yX4_hasConstant ∈ gt := gt_at 11 rfl rfl
set_option maxRecDepth 20000 in
theorem ws_X4_act : Cond.selects RX4 yX4_act yX4_act ∈ gt := gt_at 12 rfl rfl
set_option maxRecDepth 20000 in
theorem ws_X4_shifted : Cond.selects RX4 yX4_shifted yX4_shifted ∈ gt := gt_at 13 rfl rfl
set_option maxRecDepth 20000 in
theorem ws_X4_bus : Cond.selects RX4 yX4_bus yX4_bus ∈ gt := gt_at 14 rfl rfl
set_option maxRecDepth 20000 in
theorem ws_X4_reckon : Cond.selects RX4 yX4_reckon yX4_reckon ∈ gt := gt_at 15 rfl rfl
set_option maxRecDepth 20000 in
theorem ws_X4_add : Cond.selects RX4 yX4_add yX4_add ∈ gt := gt_at 16 rfl rfl
set_option maxRecDepth 20000 in
theorem ws_X4_take : Cond.selects RX4 yX4_take yX4_take ∈ gt := gt_at 17 rfl rfl
set_option maxRecDepth 20000 in
theorem ws_X4_change : Cond.selects RX4 yX4_change yX4_change ∈ gt := gt_at 18 rfl rfl
set_option maxRecDepth 20000 in
theorem ws_X4_isOfAlu : Cond.selects RX4 yX4_isOfAlu yX4_isOfAlu ∈ gt := gt_at 19 rfl rfl
set_option maxRecDepth 20000 in
theorem ws_X4_give : Cond.selects RX4 yX4_give yX4_give ∈ gt := gt_at 20 rfl rfl
set_option maxRecDepth 20000 in
theorem wz_L : Cond.initialized RL ∈ gt := gt_at 21 rfl rfl
set_option maxRecDepth 20000 in
theorem wz_X3 : Cond.initialized RX3 ∈ gt := gt_at 22 rfl rfl
set_option maxRecDepth 20000 in
theorem wz_X0 : Cond.initialized RX0 ∈ gt := gt_at 23 rfl rfl
set_option maxRecDepth 20000 in
theorem wz_X2 : Cond.initialized RX2 ∈ gt := gt_at 24 rfl rfl
set_option maxRecDepth 20000 in
theorem wz_X1 : Cond.initialized RX1 ∈ gt := gt_at 25 rfl rfl
set_option maxRecDepth 20000 in
theorem wz_X4 : Cond.initialized RX4 ∈ gt := gt_at 26 rfl rfl
set_option maxRecDepth 20000 in
theorem wc_L_7 : Cond.classLink RL 7 RX3 ∈ gt := gt_at 27 rfl rfl
set_option maxRecDepth 20000 in
theorem wn_X3 : Cond.instantiable RX3 12 ∈ gt := gt_at 28 rfl rfl
set_option maxRecDepth 20000 in
theorem wm_L_9 : Cond.methodLink RL 9 yX3_init ∈ gt := gt_at 29 rfl rfl
set_option maxRecDepth 20000 in
theorem wi_X3_init : Cond.instanceMethod yX3_init ∈ gt := gt_at 30 rfl rfl
set_option maxRecDepth 20000 in
theorem wo_X3_init : Cond.code yX3_init cX3_init 1 none ∈ gt := gt_at 31 rfl rfl
set_option maxRecDepth 20000 in
theorem wm_X3_3 : Cond.methodLink RX3 3 objectInit ∈ gt := gt_at 32 rfl rfl
set_option maxRecDepth 20000 in
theorem wi_obj : Cond.instanceMethod objectInit ∈ gt := gt_at 33 rfl rfl
set_option maxRecDepth 20000 in
theorem wo_obj : Cond.code objectInit ⟨#[0xb1]⟩ 1 none ∈ gt := gt_at 34 rfl rfl
set_option maxRecDepth 20000 in
theorem wc_X3_19 : Cond.classLink RX3 19 RX0 ∈ gt := gt_at 35 rfl rfl
set_option maxRecDepth 20000 in
theorem wn_X0 : Cond.instantiable RX0 3 ∈ gt := gt_at 36 rfl rfl
set_option maxRecDepth 20000 in
theorem wm_X3_21 : Cond.methodLink RX3 21 yX0_init ∈ gt := gt_at 37 rfl rfl
set_option maxRecDepth 20000 in
theorem wi_X0_init : Cond.instanceMethod yX0_init ∈ gt := gt_at 38 rfl rfl
set_option maxRecDepth 20000 in
theorem wo_X0_init : Cond.code yX0_init cX0_init 1 none ∈ gt := gt_at 39 rfl rfl
set_option maxRecDepth 20000 in
theorem wm_X0_3 : Cond.methodLink RX0 3 objectInit ∈ gt := gt_at 40 rfl rfl
set_option maxRecDepth 20000 in
theorem wf_X0_9 : Cond.fieldLink RX0 9 "MicroTasks$Memory" "words" "[I" ∈ gt := gt_at 41 rfl rfl
set_option maxRecDepth 20000 in
theorem wf_X3_45 : Cond.fieldLink RX3 45 "MicroTasks$Memory" "words" "[I" ∈ gt := gt_at 42 rfl rfl
set_option maxRecDepth 20000 in
theorem wf_X0_19 : Cond.fieldLink RX0 19 "MicroTasks$Memory" "mar" "I" ∈ gt := gt_at 43 rfl rfl
set_option maxRecDepth 20000 in
theorem wf_X3_78 : Cond.fieldLink RX3 78 "MicroTasks$Memory" "mar" "I" ∈ gt := gt_at 44 rfl rfl
set_option maxRecDepth 20000 in
theorem wf_X0_15 : Cond.fieldLink RX0 15 "MicroTasks$Memory" "rested" "I" ∈ gt := gt_at 45 rfl rfl
set_option maxRecDepth 20000 in
theorem wf_X3_121 : Cond.fieldLink RX3 121 "MicroTasks$Memory" "rested" "I" ∈ gt := gt_at 46 rfl rfl
set_option maxRecDepth 20000 in
theorem wa_int : Cond.arrayClass .int ∈ gt := gt_at 54 rfl rfl
set_option maxRecDepth 20000 in
theorem wc_X3_26 : Cond.classLink RX3 26 RX2 ∈ gt := gt_at 55 rfl rfl
set_option maxRecDepth 20000 in
theorem wn_X2 : Cond.instantiable RX2 7 ∈ gt := gt_at 56 rfl rfl
set_option maxRecDepth 20000 in
theorem wm_X3_28 : Cond.methodLink RX3 28 yX2_init ∈ gt := gt_at 57 rfl rfl
set_option maxRecDepth 20000 in
theorem wi_X2_init : Cond.instanceMethod yX2_init ∈ gt := gt_at 58 rfl rfl
set_option maxRecDepth 20000 in
theorem wo_X2_init : Cond.code yX2_init cX2_init 1 none ∈ gt := gt_at 59 rfl rfl
set_option maxRecDepth 20000 in
theorem wm_X2_3 : Cond.methodLink RX2 3 objectInit ∈ gt := gt_at 60 rfl rfl
set_option maxRecDepth 20000 in
theorem wf_X2_9 : Cond.fieldLink RX2 9 "MicroTasks$Tasks" "places" "[I" ∈ gt := gt_at 61 rfl rfl
set_option maxRecDepth 20000 in
theorem wf_X3_59 : Cond.fieldLink RX3 59 "MicroTasks$Tasks" "places" "[I" ∈ gt := gt_at 62 rfl rfl
set_option maxRecDepth 20000 in
theorem wf_X2_15 : Cond.fieldLink RX2 15 "MicroTasks$Tasks" "changes" "[I" ∈ gt := gt_at 63 rfl rfl
set_option maxRecDepth 20000 in
theorem wf_X3_62 : Cond.fieldLink RX3 62 "MicroTasks$Tasks" "changes" "[I" ∈ gt := gt_at 64 rfl rfl
set_option maxRecDepth 20000 in
theorem wf_X2_18 : Cond.fieldLink RX2 18 "MicroTasks$Tasks" "done" "[I" ∈ gt := gt_at 65 rfl rfl
set_option maxRecDepth 20000 in
theorem wf_X3_89 : Cond.fieldLink RX3 89 "MicroTasks$Tasks" "done" "[I" ∈ gt := gt_at 66 rfl rfl
set_option maxRecDepth 20000 in
theorem wf_X2_21 : Cond.fieldLink RX2 21 "MicroTasks$Tasks" "woken" "[Z" ∈ gt := gt_at 67 rfl rfl
set_option maxRecDepth 20000 in
theorem wf_X3_85 : Cond.fieldLink RX3 85 "MicroTasks$Tasks" "woken" "[Z" ∈ gt := gt_at 68 rfl rfl
set_option maxRecDepth 20000 in
theorem wf_X2_25 : Cond.fieldLink RX2 25 "MicroTasks$Tasks" "hand" "I" ∈ gt := gt_at 69 rfl rfl
set_option maxRecDepth 20000 in
theorem wf_X3_92 : Cond.fieldLink RX3 92 "MicroTasks$Tasks" "hand" "I" ∈ gt := gt_at 70 rfl rfl
set_option maxRecDepth 20000 in
theorem wf_X2_41 : Cond.fieldLink RX2 41 "MicroTasks$Tasks" "handovers" "I" ∈ gt := gt_at 71 rfl rfl
set_option maxRecDepth 20000 in
theorem wf_X3_108 : Cond.fieldLink RX3 108 "MicroTasks$Tasks" "handovers" "I" ∈ gt := gt_at 72 rfl rfl
set_option maxRecDepth 20000 in
theorem wf_X2_29 : Cond.fieldLink RX2 29 "MicroTasks$Tasks" "taskSaid" "Z" ∈ gt := gt_at 73 rfl rfl
set_option maxRecDepth 20000 in
theorem wa_boolean : Cond.arrayClass .boolean ∈ gt := gt_at 89 rfl rfl
set_option maxRecDepth 20000 in
theorem wc_X3_33 : Cond.classLink RX3 33 RX1 ∈ gt := gt_at 90 rfl rfl
set_option maxRecDepth 20000 in
theorem wn_X1 : Cond.instantiable RX1 3 ∈ gt := gt_at 91 rfl rfl
set_option maxRecDepth 20000 in
theorem wm_X3_35 : Cond.methodLink RX3 35 yX1_init ∈ gt := gt_at 92 rfl rfl
set_option maxRecDepth 20000 in
theorem wi_X1_init : Cond.instanceMethod yX1_init ∈ gt := gt_at 93 rfl rfl
set_option maxRecDepth 20000 in
theorem wo_X1_init : Cond.code yX1_init cX1_init 1 none ∈ gt := gt_at 94 rfl rfl
set_option maxRecDepth 20000 in
theorem wm_X1_3 : Cond.methodLink RX1 3 objectInit ∈ gt := gt_at 95 rfl rfl
set_option maxRecDepth 20000 in
theorem wf_X1_9 : Cond.fieldLink RX1 9 "MicroTasks$Output" "words" "[I" ∈ gt := gt_at 96 rfl rfl
set_option maxRecDepth 20000 in
theorem wf_X3_98 : Cond.fieldLink RX3 98 "MicroTasks$Output" "words" "[I" ∈ gt := gt_at 97 rfl rfl
set_option maxRecDepth 20000 in
theorem wf_X1_15 : Cond.fieldLink RX1 15 "MicroTasks$Output" "kept" "I" ∈ gt := gt_at 98 rfl rfl
set_option maxRecDepth 20000 in
theorem wf_X3_95 : Cond.fieldLink RX3 95 "MicroTasks$Output" "kept" "I" ∈ gt := gt_at 99 rfl rfl
set_option maxRecDepth 20000 in
theorem wf_X1_19 : Cond.fieldLink RX1 19 "MicroTasks$Output" "gone" "I" ∈ gt := gt_at 100 rfl rfl
set_option maxRecDepth 20000 in
theorem wf_X3_105 : Cond.fieldLink RX3 105 "MicroTasks$Output" "gone" "I" ∈ gt := gt_at 101 rfl rfl
set_option maxRecDepth 20000 in
theorem wf_X3_9 : Cond.fieldLink RX3 9 "MicroTasks" "registers" "[I" ∈ gt := gt_at 109 rfl rfl
set_option maxRecDepth 20000 in
theorem wf_X3_13 : Cond.fieldLink RX3 13 "MicroTasks" "constants" "[I" ∈ gt := gt_at 110 rfl rfl
set_option maxRecDepth 20000 in
theorem wf_X3_16 : Cond.fieldLink RX3 16 "MicroTasks" "instructions" "[I" ∈ gt := gt_at 111 rfl rfl
set_option maxRecDepth 20000 in
theorem wf_X3_22 : Cond.fieldLink RX3 22 "MicroTasks" "memory" "LMicroTasks$Memory;" ∈ gt := gt_at 112 rfl rfl
set_option maxRecDepth 20000 in
theorem wf_X3_29 : Cond.fieldLink RX3 29 "MicroTasks" "tasks" "LMicroTasks$Tasks;" ∈ gt := gt_at 113 rfl rfl
set_option maxRecDepth 20000 in
theorem wf_X3_36 : Cond.fieldLink RX3 36 "MicroTasks" "output" "LMicroTasks$Output;" ∈ gt := gt_at 114 rfl rfl
set_option maxRecDepth 20000 in
theorem wf_X3_69 : Cond.fieldLink RX3 69 "MicroTasks" "t" "I" ∈ gt := gt_at 115 rfl rfl
set_option maxRecDepth 20000 in
theorem wf_X3_72 : Cond.fieldLink RX3 72 "MicroTasks" "l" "I" ∈ gt := gt_at 116 rfl rfl
set_option maxRecDepth 20000 in
theorem wf_X3_75 : Cond.fieldLink RX3 75 "MicroTasks" "carry" "I" ∈ gt := gt_at 117 rfl rfl
set_option maxRecDepth 20000 in
theorem wf_X3_48 : Cond.fieldLink RX3 48 "MicroTasks" "input" "I" ∈ gt := gt_at 118 rfl rfl
set_option maxRecDepth 20000 in
theorem wf_X3_99 : Cond.fieldLink RX3 99 "MicroTasks" "cyclesGone" "I" ∈ gt := gt_at 119 rfl rfl
set_option maxRecDepth 20000 in
theorem wf_X3_102 : Cond.fieldLink RX3 102 "MicroTasks" "cyclesWaited" "I" ∈ gt := gt_at 120 rfl rfl
set_option maxRecDepth 20000 in
theorem wm_L_13 : Cond.methodLink RL 13 yX3_store ∈ gt := gt_at 146 rfl rfl
set_option maxRecDepth 20000 in
theorem wi_X3_store : Cond.instanceMethod yX3_store ∈ gt := gt_at 147 rfl rfl
set_option maxRecDepth 20000 in
theorem ws_X3_store : Cond.selects RX3 yX3_store yX3_store ∈ gt := gt_at 148 rfl rfl
set_option maxRecDepth 20000 in
theorem wo_X3_store : Cond.code yX3_store cX3_store 3 (some .boolean) ∈ gt := gt_at 149 rfl rfl
set_option maxRecDepth 20000 in
theorem wm_X3_40 : Cond.methodLink RX3 40 yX3_keep ∈ gt := gt_at 150 rfl rfl
set_option maxRecDepth 20000 in
theorem wt_X3_keep : Cond.static yX3_keep ∈ gt := gt_at 151 rfl rfl
set_option maxRecDepth 20000 in
theorem wo_X3_keep : Cond.code yX3_keep cX3_keep 3 (some .boolean) ∈ gt := gt_at 152 rfl rfl
set_option maxRecDepth 20000 in
theorem wm_L_18 : Cond.methodLink RL 18 yX3_constant ∈ gt := gt_at 153 rfl rfl
set_option maxRecDepth 20000 in
theorem wi_X3_constant : Cond.instanceMethod yX3_constant ∈ gt := gt_at 154 rfl rfl
set_option maxRecDepth 20000 in
theorem ws_X3_constant : Cond.selects RX3 yX3_constant yX3_constant ∈ gt := gt_at 155 rfl rfl
set_option maxRecDepth 20000 in
theorem wo_X3_constant : Cond.code yX3_constant cX3_constant 3 (some .boolean) ∈ gt := gt_at 156 rfl rfl
set_option maxRecDepth 20000 in
theorem wk_X3_44 : Cond.constant RX3 44 (65535) ∈ gt := gt_at 157 rfl rfl
set_option maxRecDepth 20000 in
theorem wm_L_22 : Cond.methodLink RL 22 yX3_poke ∈ gt := gt_at 158 rfl rfl
set_option maxRecDepth 20000 in
theorem wi_X3_poke : Cond.instanceMethod yX3_poke ∈ gt := gt_at 159 rfl rfl
set_option maxRecDepth 20000 in
theorem ws_X3_poke : Cond.selects RX3 yX3_poke yX3_poke ∈ gt := gt_at 160 rfl rfl
set_option maxRecDepth 20000 in
theorem wo_X3_poke : Cond.code yX3_poke cX3_poke 3 (some .boolean) ∈ gt := gt_at 161 rfl rfl
set_option maxRecDepth 20000 in
theorem wm_L_26 : Cond.methodLink RL 26 yX3_set ∈ gt := gt_at 162 rfl rfl
set_option maxRecDepth 20000 in
theorem wi_X3_set : Cond.instanceMethod yX3_set ∈ gt := gt_at 163 rfl rfl
set_option maxRecDepth 20000 in
theorem ws_X3_set : Cond.selects RX3 yX3_set yX3_set ∈ gt := gt_at 164 rfl rfl
set_option maxRecDepth 20000 in
theorem wo_X3_set : Cond.code yX3_set cX3_set 3 (some .boolean) ∈ gt := gt_at 165 rfl rfl
set_option maxRecDepth 20000 in
theorem wm_L_30 : Cond.methodLink RL 30 yX3_port ∈ gt := gt_at 166 rfl rfl
set_option maxRecDepth 20000 in
theorem wi_X3_port : Cond.instanceMethod yX3_port ∈ gt := gt_at 167 rfl rfl
set_option maxRecDepth 20000 in
theorem ws_X3_port : Cond.selects RX3 yX3_port yX3_port ∈ gt := gt_at 168 rfl rfl
set_option maxRecDepth 20000 in
theorem wo_X3_port : Cond.code yX3_port cX3_port 2 none ∈ gt := gt_at 169 rfl rfl
set_option maxRecDepth 20000 in
theorem wm_L_35 : Cond.methodLink RL 35 yX3_wake ∈ gt := gt_at 170 rfl rfl
set_option maxRecDepth 20000 in
theorem wi_X3_wake : Cond.instanceMethod yX3_wake ∈ gt := gt_at 171 rfl rfl
set_option maxRecDepth 20000 in
theorem ws_X3_wake : Cond.selects RX3 yX3_wake yX3_wake ∈ gt := gt_at 172 rfl rfl
set_option maxRecDepth 20000 in
theorem wo_X3_wake : Cond.code yX3_wake cX3_wake 2 (some .boolean) ∈ gt := gt_at 173 rfl rfl
set_option maxRecDepth 20000 in
theorem wm_X3_52 : Cond.methodLink RX3 52 yX3_isTask ∈ gt := gt_at 174 rfl rfl
set_option maxRecDepth 20000 in
theorem wt_X3_isTask : Cond.static yX3_isTask ∈ gt := gt_at 175 rfl rfl
set_option maxRecDepth 20000 in
theorem wo_X3_isTask : Cond.code yX3_isTask cX3_isTask 1 (some .boolean) ∈ gt := gt_at 176 rfl rfl
set_option maxRecDepth 20000 in
theorem wm_X3_56 : Cond.methodLink RX3 56 yX2_rouse ∈ gt := gt_at 177 rfl rfl
set_option maxRecDepth 20000 in
theorem wi_X2_rouse : Cond.instanceMethod yX2_rouse ∈ gt := gt_at 178 rfl rfl
set_option maxRecDepth 20000 in
theorem ws_X2_rouse : Cond.selects RX2 yX2_rouse yX2_rouse ∈ gt := gt_at 179 rfl rfl
set_option maxRecDepth 20000 in
theorem wo_X2_rouse : Cond.code yX2_rouse cX2_rouse 3 (some .boolean) ∈ gt := gt_at 180 rfl rfl
set_option maxRecDepth 20000 in
theorem wm_L_40 : Cond.methodLink RL 40 yX3_start ∈ gt := gt_at 181 rfl rfl
set_option maxRecDepth 20000 in
theorem wi_X3_start : Cond.instanceMethod yX3_start ∈ gt := gt_at 182 rfl rfl
set_option maxRecDepth 20000 in
theorem ws_X3_start : Cond.selects RX3 yX3_start yX3_start ∈ gt := gt_at 183 rfl rfl
set_option maxRecDepth 20000 in
theorem wo_X3_start : Cond.code yX3_start cX3_start 3 (some .boolean) ∈ gt := gt_at 184 rfl rfl
set_option maxRecDepth 20000 in
theorem wm_L_44 : Cond.methodLink RL 44 yX3_run ∈ gt := gt_at 185 rfl rfl
set_option maxRecDepth 20000 in
theorem wi_X3_run : Cond.instanceMethod yX3_run ∈ gt := gt_at 186 rfl rfl
set_option maxRecDepth 20000 in
theorem ws_X3_run : Cond.selects RX3 yX3_run yX3_run ∈ gt := gt_at 187 rfl rfl
set_option maxRecDepth 20000 in
theorem wo_X3_run : Cond.code yX3_run cX3_run 4 (some .int) ∈ gt := gt_at 188 rfl rfl
set_option maxRecDepth 20000 in
theorem wm_X3_65 : Cond.methodLink RX3 65 yX3_cycle ∈ gt := gt_at 189 rfl rfl
set_option maxRecDepth 20000 in
theorem wi_X3_cycle : Cond.instanceMethod yX3_cycle ∈ gt := gt_at 191 rfl rfl
set_option maxRecDepth 20000 in
theorem wo_X3_cycle : Cond.code yX3_cycle cX3_cycle 3 (some .boolean) ∈ gt := gt_at 192 rfl rfl
set_option maxRecDepth 20000 in
theorem wm_X3_111 : Cond.methodLink RX3 111 yX3_mustWait ∈ gt := gt_at 193 rfl rfl
set_option maxRecDepth 20000 in
theorem wi_X3_mustWait : Cond.instanceMethod yX3_mustWait ∈ gt := gt_at 195 rfl rfl
set_option maxRecDepth 20000 in
theorem wo_X3_mustWait : Cond.code yX3_mustWait cX3_mustWait 4 (some .boolean) ∈ gt := gt_at 196 rfl rfl
set_option maxRecDepth 20000 in
theorem wm_X3_124 : Cond.methodLink RX3 124 yX3_bsOf ∈ gt := gt_at 197 rfl rfl
set_option maxRecDepth 20000 in
theorem wt_X3_bsOf : Cond.static yX3_bsOf ∈ gt := gt_at 198 rfl rfl
set_option maxRecDepth 20000 in
theorem wo_X3_bsOf : Cond.code yX3_bsOf cX3_bsOf 1 (some .int) ∈ gt := gt_at 199 rfl rfl
set_option maxRecDepth 20000 in
theorem wm_X3_128 : Cond.methodLink RX3 128 yX3_hasConstant ∈ gt := gt_at 200 rfl rfl
set_option maxRecDepth 20000 in
theorem wt_X3_hasConstant : Cond.static yX3_hasConstant ∈ gt := gt_at 201 rfl rfl
set_option maxRecDepth 20000 in
theorem wo_X3_hasConstant : Cond.code yX3_hasConstant cX3_hasConstant 1 (some .boolean) ∈ gt := gt_at 202 rfl rfl
set_option maxRecDepth 20000 in
theorem wm_X3_131 : Cond.methodLink RX3 131 yX3_f1Of ∈ gt := gt_at 203 rfl rfl
set_option maxRecDepth 20000 in
theorem wt_X3_f1Of : Cond.static yX3_f1Of ∈ gt := gt_at 204 rfl rfl
set_option maxRecDepth 20000 in
theorem wo_X3_f1Of : Cond.code yX3_f1Of cX3_f1Of 1 (some .int) ∈ gt := gt_at 205 rfl rfl
set_option maxRecDepth 20000 in
theorem wm_X3_134 : Cond.methodLink RX3 134 yX3_f2Of ∈ gt := gt_at 206 rfl rfl
set_option maxRecDepth 20000 in
theorem wt_X3_f2Of : Cond.static yX3_f2Of ∈ gt := gt_at 207 rfl rfl
set_option maxRecDepth 20000 in
theorem wo_X3_f2Of : Cond.code yX3_f2Of cX3_f2Of 1 (some .int) ∈ gt := gt_at 208 rfl rfl
set_option maxRecDepth 20000 in
theorem wm_X3_114 : Cond.methodLink RX3 114 yX3_perform ∈ gt := gt_at 209 rfl rfl
set_option maxRecDepth 20000 in
theorem wi_X3_perform : Cond.instanceMethod yX3_perform ∈ gt := gt_at 211 rfl rfl
set_option maxRecDepth 20000 in
theorem wo_X3_perform : Cond.code yX3_perform cX3_perform 9 none ∈ gt := gt_at 212 rfl rfl
set_option maxRecDepth 20000 in
theorem wm_X3_137 : Cond.methodLink RX3 137 yX3_alufOf ∈ gt := gt_at 213 rfl rfl
set_option maxRecDepth 20000 in
theorem wt_X3_alufOf : Cond.static yX3_alufOf ∈ gt := gt_at 214 rfl rfl
set_option maxRecDepth 20000 in
theorem wo_X3_alufOf : Cond.code yX3_alufOf cX3_alufOf 1 (some .int) ∈ gt := gt_at 215 rfl rfl
set_option maxRecDepth 20000 in
theorem wm_X3_140 : Cond.methodLink RX3 140 yX3_shiftedL ∈ gt := gt_at 216 rfl rfl
set_option maxRecDepth 20000 in
theorem wi_X3_shiftedL : Cond.instanceMethod yX3_shiftedL ∈ gt := gt_at 218 rfl rfl
set_option maxRecDepth 20000 in
theorem wo_X3_shiftedL : Cond.code yX3_shiftedL cX3_shiftedL 2 (some .int) ∈ gt := gt_at 219 rfl rfl
set_option maxRecDepth 20000 in
theorem wm_X3_143 : Cond.methodLink RX3 143 yX3_busOf ∈ gt := gt_at 220 rfl rfl
set_option maxRecDepth 20000 in
theorem wi_X3_busOf : Cond.instanceMethod yX3_busOf ∈ gt := gt_at 222 rfl rfl
set_option maxRecDepth 20000 in
theorem wo_X3_busOf : Cond.code yX3_busOf cX3_busOf 4 (some .int) ∈ gt := gt_at 223 rfl rfl
set_option maxRecDepth 20000 in
theorem wm_X3_154 : Cond.methodLink RX3 154 yX3_rselOf ∈ gt := gt_at 224 rfl rfl
set_option maxRecDepth 20000 in
theorem wt_X3_rselOf : Cond.static yX3_rselOf ∈ gt := gt_at 225 rfl rfl
set_option maxRecDepth 20000 in
theorem wo_X3_rselOf : Cond.code yX3_rselOf cX3_rselOf 1 (some .int) ∈ gt := gt_at 226 rfl rfl
set_option maxRecDepth 20000 in
theorem wm_X3_185 : Cond.methodLink RX3 185 yX0_read ∈ gt := gt_at 227 rfl rfl
set_option maxRecDepth 20000 in
theorem wi_X0_read : Cond.instanceMethod yX0_read ∈ gt := gt_at 228 rfl rfl
set_option maxRecDepth 20000 in
theorem ws_X0_read : Cond.selects RX0 yX0_read yX0_read ∈ gt := gt_at 229 rfl rfl
set_option maxRecDepth 20000 in
theorem wo_X0_read : Cond.code yX0_read cX0_read 1 (some .int) ∈ gt := gt_at 230 rfl rfl
set_option maxRecDepth 20000 in
theorem wm_X3_146 : Cond.methodLink RX3 146 yX3_sumOf ∈ gt := gt_at 231 rfl rfl
set_option maxRecDepth 20000 in
theorem wi_X3_sumOf : Cond.instanceMethod yX3_sumOf ∈ gt := gt_at 233 rfl rfl
set_option maxRecDepth 20000 in
theorem wo_X3_sumOf : Cond.code yX3_sumOf cX3_sumOf 4 (some .int) ∈ gt := gt_at 234 rfl rfl
set_option maxRecDepth 20000 in
theorem wm_X3_150 : Cond.methodLink RX3 150 yX3_changeOf ∈ gt := gt_at 235 rfl rfl
set_option maxRecDepth 20000 in
theorem wi_X3_changeOf : Cond.instanceMethod yX3_changeOf ∈ gt := gt_at 237 rfl rfl
set_option maxRecDepth 20000 in
theorem wo_X3_changeOf : Cond.code yX3_changeOf cX3_changeOf 4 (some .int) ∈ gt := gt_at 238 rfl rfl
set_option maxRecDepth 20000 in
theorem wm_X3_157 : Cond.methodLink RX3 157 yX3_loadsT ∈ gt := gt_at 239 rfl rfl
set_option maxRecDepth 20000 in
theorem wt_X3_loadsT : Cond.static yX3_loadsT ∈ gt := gt_at 240 rfl rfl
set_option maxRecDepth 20000 in
theorem wo_X3_loadsT : Cond.code yX3_loadsT cX3_loadsT 1 (some .boolean) ∈ gt := gt_at 241 rfl rfl
set_option maxRecDepth 20000 in
theorem wm_X3_160 : Cond.methodLink RX3 160 yX3_givesAluToT ∈ gt := gt_at 242 rfl rfl
set_option maxRecDepth 20000 in
theorem wt_X3_givesAluToT : Cond.static yX3_givesAluToT ∈ gt := gt_at 243 rfl rfl
set_option maxRecDepth 20000 in
theorem wo_X3_givesAluToT : Cond.code yX3_givesAluToT cX3_givesAluToT 1 (some .boolean) ∈ gt := gt_at 244 rfl rfl
set_option maxRecDepth 20000 in
theorem wm_X3_163 : Cond.methodLink RX3 163 yX3_loadsL ∈ gt := gt_at 245 rfl rfl
set_option maxRecDepth 20000 in
theorem wt_X3_loadsL : Cond.static yX3_loadsL ∈ gt := gt_at 246 rfl rfl
set_option maxRecDepth 20000 in
theorem wo_X3_loadsL : Cond.code yX3_loadsL cX3_loadsL 1 (some .boolean) ∈ gt := gt_at 247 rfl rfl
set_option maxRecDepth 20000 in
theorem wm_X3_166 : Cond.methodLink RX3 166 yX3_useMemory ∈ gt := gt_at 248 rfl rfl
set_option maxRecDepth 20000 in
theorem wi_X3_useMemory : Cond.instanceMethod yX3_useMemory ∈ gt := gt_at 250 rfl rfl
set_option maxRecDepth 20000 in
theorem wo_X3_useMemory : Cond.code yX3_useMemory cX3_useMemory 4 none ∈ gt := gt_at 251 rfl rfl
set_option maxRecDepth 20000 in
theorem wm_X3_179 : Cond.methodLink RX3 179 yX0_write ∈ gt := gt_at 252 rfl rfl
set_option maxRecDepth 20000 in
theorem wi_X0_write : Cond.instanceMethod yX0_write ∈ gt := gt_at 253 rfl rfl
set_option maxRecDepth 20000 in
theorem ws_X0_write : Cond.selects RX0 yX0_write yX0_write ∈ gt := gt_at 254 rfl rfl
set_option maxRecDepth 20000 in
theorem wo_X0_write : Cond.code yX0_write cX0_write 2 none ∈ gt := gt_at 255 rfl rfl
set_option maxRecDepth 20000 in
theorem wm_X3_182 : Cond.methodLink RX3 182 yX0_begin ∈ gt := gt_at 256 rfl rfl
set_option maxRecDepth 20000 in
theorem wi_X0_begin : Cond.instanceMethod yX0_begin ∈ gt := gt_at 257 rfl rfl
set_option maxRecDepth 20000 in
theorem ws_X0_begin : Cond.selects RX0 yX0_begin yX0_begin ∈ gt := gt_at 258 rfl rfl
set_option maxRecDepth 20000 in
theorem wo_X0_begin : Cond.code yX0_begin cX0_begin 2 none ∈ gt := gt_at 259 rfl rfl
set_option maxRecDepth 20000 in
theorem wm_X3_170 : Cond.methodLink RX3 170 yX1_send ∈ gt := gt_at 260 rfl rfl
set_option maxRecDepth 20000 in
theorem wi_X1_send : Cond.instanceMethod yX1_send ∈ gt := gt_at 261 rfl rfl
set_option maxRecDepth 20000 in
theorem ws_X1_send : Cond.selects RX1 yX1_send yX1_send ∈ gt := gt_at 262 rfl rfl
set_option maxRecDepth 20000 in
theorem wo_X1_send : Cond.code yX1_send cX1_send 2 none ∈ gt := gt_at 263 rfl rfl
set_option maxRecDepth 20000 in
theorem wm_X3_173 : Cond.methodLink RX3 173 yX3_nextOf ∈ gt := gt_at 264 rfl rfl
set_option maxRecDepth 20000 in
theorem wt_X3_nextOf : Cond.static yX3_nextOf ∈ gt := gt_at 265 rfl rfl
set_option maxRecDepth 20000 in
theorem wo_X3_nextOf : Cond.code yX3_nextOf cX3_nextOf 1 (some .int) ∈ gt := gt_at 266 rfl rfl
set_option maxRecDepth 20000 in
theorem wm_X3_176 : Cond.methodLink RX3 176 yX2_goOn ∈ gt := gt_at 267 rfl rfl
set_option maxRecDepth 20000 in
theorem wi_X2_goOn : Cond.instanceMethod yX2_goOn ∈ gt := gt_at 268 rfl rfl
set_option maxRecDepth 20000 in
theorem ws_X2_goOn : Cond.selects RX2 yX2_goOn yX2_goOn ∈ gt := gt_at 269 rfl rfl
set_option maxRecDepth 20000 in
theorem wo_X2_goOn : Cond.code yX2_goOn cX2_goOn 4 none ∈ gt := gt_at 270 rfl rfl
set_option maxRecDepth 20000 in
theorem wm_X2_33 : Cond.methodLink RX2 33 yX2_greatestWoken ∈ gt := gt_at 271 rfl rfl
set_option maxRecDepth 20000 in
theorem wi_X2_greatestWoken : Cond.instanceMethod yX2_greatestWoken ∈ gt := gt_at 273 rfl rfl
set_option maxRecDepth 20000 in
theorem wo_X2_greatestWoken : Cond.code yX2_greatestWoken cX2_greatestWoken 2 (some .int) ∈ gt := gt_at 274 rfl rfl
set_option maxRecDepth 20000 in
theorem wm_X2_37 : Cond.methodLink RX2 37 yX2_giveTo ∈ gt := gt_at 275 rfl rfl
set_option maxRecDepth 20000 in
theorem wi_X2_giveTo : Cond.instanceMethod yX2_giveTo ∈ gt := gt_at 277 rfl rfl
set_option maxRecDepth 20000 in
theorem wo_X2_giveTo : Cond.code yX2_giveTo cX2_giveTo 2 none ∈ gt := gt_at 278 rfl rfl
set_option maxRecDepth 20000 in
theorem wm_X3_118 : Cond.methodLink RX3 118 yX0_rest ∈ gt := gt_at 279 rfl rfl
set_option maxRecDepth 20000 in
theorem wi_X0_rest : Cond.instanceMethod yX0_rest ∈ gt := gt_at 280 rfl rfl
set_option maxRecDepth 20000 in
theorem ws_X0_rest : Cond.selects RX0 yX0_rest yX0_rest ∈ gt := gt_at 281 rfl rfl
set_option maxRecDepth 20000 in
theorem wo_X0_rest : Cond.code yX0_rest cX0_rest 1 none ∈ gt := gt_at 282 rfl rfl
set_option maxRecDepth 20000 in
theorem wm_L_49 : Cond.methodLink RL 49 yX3_register ∈ gt := gt_at 283 rfl rfl
set_option maxRecDepth 20000 in
theorem wi_X3_register : Cond.instanceMethod yX3_register ∈ gt := gt_at 284 rfl rfl
set_option maxRecDepth 20000 in
theorem ws_X3_register : Cond.selects RX3 yX3_register yX3_register ∈ gt := gt_at 285 rfl rfl
set_option maxRecDepth 20000 in
theorem wo_X3_register : Cond.code yX3_register cX3_register 2 (some .int) ∈ gt := gt_at 286 rfl rfl
set_option maxRecDepth 20000 in
theorem wm_X3_81 : Cond.methodLink RX3 81 yX3_ask ∈ gt := gt_at 287 rfl rfl
set_option maxRecDepth 20000 in
theorem wt_X3_ask : Cond.static yX3_ask ∈ gt := gt_at 288 rfl rfl
set_option maxRecDepth 20000 in
theorem wo_X3_ask : Cond.code yX3_ask cX3_ask 2 (some .int) ∈ gt := gt_at 289 rfl rfl
set_option maxRecDepth 20000 in
theorem wm_L_53 : Cond.methodLink RL 53 yX3_peek ∈ gt := gt_at 290 rfl rfl
set_option maxRecDepth 20000 in
theorem wi_X3_peek : Cond.instanceMethod yX3_peek ∈ gt := gt_at 291 rfl rfl
set_option maxRecDepth 20000 in
theorem ws_X3_peek : Cond.selects RX3 yX3_peek yX3_peek ∈ gt := gt_at 292 rfl rfl
set_option maxRecDepth 20000 in
theorem wo_X3_peek : Cond.code yX3_peek cX3_peek 2 (some .int) ∈ gt := gt_at 293 rfl rfl
set_option maxRecDepth 20000 in
theorem wm_L_57 : Cond.methodLink RL 57 yX3_task ∈ gt := gt_at 294 rfl rfl
set_option maxRecDepth 20000 in
theorem wi_X3_task : Cond.instanceMethod yX3_task ∈ gt := gt_at 295 rfl rfl
set_option maxRecDepth 20000 in
theorem ws_X3_task : Cond.selects RX3 yX3_task yX3_task ∈ gt := gt_at 296 rfl rfl
set_option maxRecDepth 20000 in
theorem wo_X3_task : Cond.code yX3_task cX3_task 3 (some .int) ∈ gt := gt_at 297 rfl rfl
set_option maxRecDepth 20000 in
theorem wm_L_62 : Cond.methodLink RL 62 yX3_now ∈ gt := gt_at 298 rfl rfl
set_option maxRecDepth 20000 in
theorem wi_X3_now : Cond.instanceMethod yX3_now ∈ gt := gt_at 299 rfl rfl
set_option maxRecDepth 20000 in
theorem ws_X3_now : Cond.selects RX3 yX3_now yX3_now ∈ gt := gt_at 300 rfl rfl
set_option maxRecDepth 20000 in
theorem wo_X3_now : Cond.code yX3_now cX3_now 1 (some .int) ∈ gt := gt_at 301 rfl rfl
set_option maxRecDepth 20000 in
theorem wm_L_67 : Cond.methodLink RL 67 yX3_out ∈ gt := gt_at 302 rfl rfl
set_option maxRecDepth 20000 in
theorem wi_X3_out : Cond.instanceMethod yX3_out ∈ gt := gt_at 303 rfl rfl
set_option maxRecDepth 20000 in
theorem ws_X3_out : Cond.selects RX3 yX3_out yX3_out ∈ gt := gt_at 304 rfl rfl
set_option maxRecDepth 20000 in
theorem wo_X3_out : Cond.code yX3_out cX3_out 2 (some .int) ∈ gt := gt_at 305 rfl rfl
set_option maxRecDepth 20000 in
theorem wm_L_71 : Cond.methodLink RL 71 yX3_count ∈ gt := gt_at 306 rfl rfl
set_option maxRecDepth 20000 in
theorem wi_X3_count : Cond.instanceMethod yX3_count ∈ gt := gt_at 307 rfl rfl
set_option maxRecDepth 20000 in
theorem ws_X3_count : Cond.selects RX3 yX3_count yX3_count ∈ gt := gt_at 308 rfl rfl
set_option maxRecDepth 20000 in
theorem wo_X3_count : Cond.code yX3_count cX3_count 2 (some .int) ∈ gt := gt_at 309 rfl rfl
set_option maxRecDepth 20000 in
theorem wc_L_10 : Cond.classLink RL 10 RX4 ∈ gt := gt_at 310 rfl rfl
set_option maxRecDepth 20000 in
theorem wn_X4 : Cond.instantiable RX4 28 ∈ gt := gt_at 311 rfl rfl
set_option maxRecDepth 20000 in
theorem wm_L_12 : Cond.methodLink RL 12 yX4_init ∈ gt := gt_at 312 rfl rfl
set_option maxRecDepth 20000 in
theorem wi_X4_init : Cond.instanceMethod yX4_init ∈ gt := gt_at 313 rfl rfl
set_option maxRecDepth 20000 in
theorem wo_X4_init : Cond.code yX4_init cX4_init 1 none ∈ gt := gt_at 314 rfl rfl
set_option maxRecDepth 20000 in
theorem wm_X4_1 : Cond.methodLink RX4 1 objectInit ∈ gt := gt_at 315 rfl rfl
set_option maxRecDepth 20000 in
theorem wf_X4_7 : Cond.fieldLink RX4 7 "MicroTasksModel" "instructions" "[I" ∈ gt := gt_at 316 rfl rfl
set_option maxRecDepth 20000 in
theorem wf_X4_13 : Cond.fieldLink RX4 13 "MicroTasksModel" "constants" "[I" ∈ gt := gt_at 317 rfl rfl
set_option maxRecDepth 20000 in
theorem wf_X4_16 : Cond.fieldLink RX4 16 "MicroTasksModel" "memory" "[I" ∈ gt := gt_at 318 rfl rfl
set_option maxRecDepth 20000 in
theorem wf_X4_19 : Cond.fieldLink RX4 19 "MicroTasksModel" "registers" "[I" ∈ gt := gt_at 319 rfl rfl
set_option maxRecDepth 20000 in
theorem wf_X4_87 : Cond.fieldLink RX4 87 "MicroTasksModel" "t" "I" ∈ gt := gt_at 320 rfl rfl
set_option maxRecDepth 20000 in
theorem wf_X4_66 : Cond.fieldLink RX4 66 "MicroTasksModel" "l" "I" ∈ gt := gt_at 321 rfl rfl
set_option maxRecDepth 20000 in
theorem wf_X4_98 : Cond.fieldLink RX4 98 "MicroTasksModel" "carry" "I" ∈ gt := gt_at 322 rfl rfl
set_option maxRecDepth 20000 in
theorem wf_X4_75 : Cond.fieldLink RX4 75 "MicroTasksModel" "mar" "I" ∈ gt := gt_at 323 rfl rfl
set_option maxRecDepth 20000 in
theorem wf_X4_47 : Cond.fieldLink RX4 47 "MicroTasksModel" "input" "I" ∈ gt := gt_at 324 rfl rfl
set_option maxRecDepth 20000 in
theorem wf_X4_22 : Cond.fieldLink RX4 22 "MicroTasksModel" "places" "[I" ∈ gt := gt_at 325 rfl rfl
set_option maxRecDepth 20000 in
theorem wf_X4_25 : Cond.fieldLink RX4 25 "MicroTasksModel" "changes" "[I" ∈ gt := gt_at 326 rfl rfl
set_option maxRecDepth 20000 in
theorem wf_X4_28 : Cond.fieldLink RX4 28 "MicroTasksModel" "lines" "[Z" ∈ gt := gt_at 327 rfl rfl
set_option maxRecDepth 20000 in
theorem wf_X4_32 : Cond.fieldLink RX4 32 "MicroTasksModel" "done" "[I" ∈ gt := gt_at 328 rfl rfl
set_option maxRecDepth 20000 in
theorem wf_X4_72 : Cond.fieldLink RX4 72 "MicroTasksModel" "hand" "I" ∈ gt := gt_at 329 rfl rfl
set_option maxRecDepth 20000 in
theorem wf_X4_121 : Cond.fieldLink RX4 121 "MicroTasksModel" "gives" "Z" ∈ gt := gt_at 330 rfl rfl
set_option maxRecDepth 20000 in
theorem wf_X4_56 : Cond.fieldLink RX4 56 "MicroTasksModel" "cycles" "I" ∈ gt := gt_at 331 rfl rfl
set_option maxRecDepth 20000 in
theorem wf_X4_131 : Cond.fieldLink RX4 131 "MicroTasksModel" "waited" "I" ∈ gt := gt_at 332 rfl rfl
set_option maxRecDepth 20000 in
theorem wf_X4_125 : Cond.fieldLink RX4 125 "MicroTasksModel" "switched" "I" ∈ gt := gt_at 333 rfl rfl
set_option maxRecDepth 20000 in
theorem wf_X4_35 : Cond.fieldLink RX4 35 "MicroTasksModel" "began" "I" ∈ gt := gt_at 334 rfl rfl
set_option maxRecDepth 20000 in
theorem wf_X4_118 : Cond.fieldLink RX4 118 "MicroTasksModel" "outs" "I" ∈ gt := gt_at 335 rfl rfl
set_option maxRecDepth 20000 in
theorem wf_X4_39 : Cond.fieldLink RX4 39 "MicroTasksModel" "out" "[I" ∈ gt := gt_at 336 rfl rfl
set_option maxRecDepth 20000 in
theorem wf_X4_69 : Cond.fieldLink RX4 69 "MicroTasksModel" "rsel" "I" ∈ gt := gt_at 337 rfl rfl
set_option maxRecDepth 20000 in
theorem wf_X4_84 : Cond.fieldLink RX4 84 "MicroTasksModel" "aluf" "I" ∈ gt := gt_at 338 rfl rfl
set_option maxRecDepth 20000 in
theorem wf_X4_59 : Cond.fieldLink RX4 59 "MicroTasksModel" "bs" "I" ∈ gt := gt_at 339 rfl rfl
set_option maxRecDepth 20000 in
theorem wf_X4_50 : Cond.fieldLink RX4 50 "MicroTasksModel" "f1" "I" ∈ gt := gt_at 340 rfl rfl
set_option maxRecDepth 20000 in
theorem wf_X4_53 : Cond.fieldLink RX4 53 "MicroTasksModel" "f2" "I" ∈ gt := gt_at 341 rfl rfl
set_option maxRecDepth 20000 in
theorem wf_X4_78 : Cond.fieldLink RX4 78 "MicroTasksModel" "sum" "I" ∈ gt := gt_at 342 rfl rfl
set_option maxRecDepth 20000 in
theorem wf_X4_81 : Cond.fieldLink RX4 81 "MicroTasksModel" "sumCarry" "I" ∈ gt := gt_at 343 rfl rfl
set_option maxRecDepth 20000 in
theorem wm_L_17 : Cond.methodLink RL 17 yX4_store ∈ gt := gt_at 401 rfl rfl
set_option maxRecDepth 20000 in
theorem wi_X4_store : Cond.instanceMethod yX4_store ∈ gt := gt_at 402 rfl rfl
set_option maxRecDepth 20000 in
theorem ws_X4_store : Cond.selects RX4 yX4_store yX4_store ∈ gt := gt_at 403 rfl rfl
set_option maxRecDepth 20000 in
theorem wo_X4_store : Cond.code yX4_store cX4_store 3 (some .boolean) ∈ gt := gt_at 404 rfl rfl
set_option maxRecDepth 20000 in
theorem wm_X4_42 : Cond.methodLink RX4 42 yX4_within ∈ gt := gt_at 405 rfl rfl
set_option maxRecDepth 20000 in
theorem wt_X4_within : Cond.static yX4_within ∈ gt := gt_at 406 rfl rfl
set_option maxRecDepth 20000 in
theorem wo_X4_within : Cond.code yX4_within cX4_within 2 (some .boolean) ∈ gt := gt_at 407 rfl rfl
set_option maxRecDepth 20000 in
theorem wm_L_21 : Cond.methodLink RL 21 yX4_constant ∈ gt := gt_at 408 rfl rfl
set_option maxRecDepth 20000 in
theorem wi_X4_constant : Cond.instanceMethod yX4_constant ∈ gt := gt_at 409 rfl rfl
set_option maxRecDepth 20000 in
theorem ws_X4_constant : Cond.selects RX4 yX4_constant yX4_constant ∈ gt := gt_at 410 rfl rfl
set_option maxRecDepth 20000 in
theorem wo_X4_constant : Cond.code yX4_constant cX4_constant 3 (some .boolean) ∈ gt := gt_at 411 rfl rfl
set_option maxRecDepth 20000 in
theorem wk_X4_46 : Cond.constant RX4 46 (65535) ∈ gt := gt_at 412 rfl rfl
set_option maxRecDepth 20000 in
theorem wm_L_25 : Cond.methodLink RL 25 yX4_poke ∈ gt := gt_at 413 rfl rfl
set_option maxRecDepth 20000 in
theorem wi_X4_poke : Cond.instanceMethod yX4_poke ∈ gt := gt_at 414 rfl rfl
set_option maxRecDepth 20000 in
theorem ws_X4_poke : Cond.selects RX4 yX4_poke yX4_poke ∈ gt := gt_at 415 rfl rfl
set_option maxRecDepth 20000 in
theorem wo_X4_poke : Cond.code yX4_poke cX4_poke 3 (some .boolean) ∈ gt := gt_at 416 rfl rfl
set_option maxRecDepth 20000 in
theorem wm_L_29 : Cond.methodLink RL 29 yX4_set ∈ gt := gt_at 417 rfl rfl
set_option maxRecDepth 20000 in
theorem wi_X4_set : Cond.instanceMethod yX4_set ∈ gt := gt_at 418 rfl rfl
set_option maxRecDepth 20000 in
theorem ws_X4_set : Cond.selects RX4 yX4_set yX4_set ∈ gt := gt_at 419 rfl rfl
set_option maxRecDepth 20000 in
theorem wo_X4_set : Cond.code yX4_set cX4_set 3 (some .boolean) ∈ gt := gt_at 420 rfl rfl
set_option maxRecDepth 20000 in
theorem wm_L_34 : Cond.methodLink RL 34 yX4_port ∈ gt := gt_at 421 rfl rfl
set_option maxRecDepth 20000 in
theorem wi_X4_port : Cond.instanceMethod yX4_port ∈ gt := gt_at 422 rfl rfl
set_option maxRecDepth 20000 in
theorem ws_X4_port : Cond.selects RX4 yX4_port yX4_port ∈ gt := gt_at 423 rfl rfl
set_option maxRecDepth 20000 in
theorem wo_X4_port : Cond.code yX4_port cX4_port 2 none ∈ gt := gt_at 424 rfl rfl
set_option maxRecDepth 20000 in
theorem wm_L_39 : Cond.methodLink RL 39 yX4_wake ∈ gt := gt_at 425 rfl rfl
set_option maxRecDepth 20000 in
theorem wi_X4_wake : Cond.instanceMethod yX4_wake ∈ gt := gt_at 426 rfl rfl
set_option maxRecDepth 20000 in
theorem ws_X4_wake : Cond.selects RX4 yX4_wake yX4_wake ∈ gt := gt_at 427 rfl rfl
set_option maxRecDepth 20000 in
theorem wo_X4_wake : Cond.code yX4_wake cX4_wake 3 (some .boolean) ∈ gt := gt_at 428 rfl rfl
set_option maxRecDepth 20000 in
theorem wm_L_43 : Cond.methodLink RL 43 yX4_start ∈ gt := gt_at 429 rfl rfl
set_option maxRecDepth 20000 in
theorem wi_X4_start : Cond.instanceMethod yX4_start ∈ gt := gt_at 430 rfl rfl
set_option maxRecDepth 20000 in
theorem ws_X4_start : Cond.selects RX4 yX4_start yX4_start ∈ gt := gt_at 431 rfl rfl
set_option maxRecDepth 20000 in
theorem wo_X4_start : Cond.code yX4_start cX4_start 3 (some .boolean) ∈ gt := gt_at 432 rfl rfl
set_option maxRecDepth 20000 in
theorem wm_L_48 : Cond.methodLink RL 48 yX4_run ∈ gt := gt_at 433 rfl rfl
set_option maxRecDepth 20000 in
theorem wi_X4_run : Cond.instanceMethod yX4_run ∈ gt := gt_at 434 rfl rfl
set_option maxRecDepth 20000 in
theorem ws_X4_run : Cond.selects RX4 yX4_run yX4_run ∈ gt := gt_at 435 rfl rfl
set_option maxRecDepth 20000 in
theorem wo_X4_run : Cond.code yX4_run cX4_run 5 (some .int) ∈ gt := gt_at 436 rfl rfl
set_option maxRecDepth 20000 in
theorem wm_X4_128 : Cond.methodLink RX4 128 yX4_waits ∈ gt := gt_at 437 rfl rfl
set_option maxRecDepth 20000 in
theorem wi_X4_waits : Cond.instanceMethod yX4_waits ∈ gt := gt_at 439 rfl rfl
set_option maxRecDepth 20000 in
theorem wo_X4_waits : Cond.code yX4_waits cX4_waits 2 (some .boolean) ∈ gt := gt_at 440 rfl rfl
set_option maxRecDepth 20000 in
theorem wm_X4_62 : Cond.methodLink RX4 62 yX4_hasConstant ∈ gt := gt_at 441 rfl rfl
set_option maxRecDepth 20000 in
theorem wi_X4_hasConstant : Cond.instanceMethod yX4_hasConstant ∈ gt := gt_at 443 rfl rfl
set_option maxRecDepth 20000 in
theorem wo_X4_hasConstant : Cond.code yX4_hasConstant cX4_hasConstant 1 (some .boolean) ∈ gt := gt_at 444 rfl rfl
set_option maxRecDepth 20000 in
theorem wm_X4_134 : Cond.methodLink RX4 134 yX4_act ∈ gt := gt_at 445 rfl rfl
set_option maxRecDepth 20000 in
theorem wi_X4_act : Cond.instanceMethod yX4_act ∈ gt := gt_at 447 rfl rfl
set_option maxRecDepth 20000 in
theorem wo_X4_act : Cond.code yX4_act cX4_act 5 none ∈ gt := gt_at 448 rfl rfl
set_option maxRecDepth 20000 in
theorem wm_X4_101 : Cond.methodLink RX4 101 yX4_shifted ∈ gt := gt_at 449 rfl rfl
set_option maxRecDepth 20000 in
theorem wi_X4_shifted : Cond.instanceMethod yX4_shifted ∈ gt := gt_at 451 rfl rfl
set_option maxRecDepth 20000 in
theorem wo_X4_shifted : Cond.code yX4_shifted cX4_shifted 1 (some .int) ∈ gt := gt_at 452 rfl rfl
set_option maxRecDepth 20000 in
theorem wm_X4_105 : Cond.methodLink RX4 105 yX4_bus ∈ gt := gt_at 453 rfl rfl
set_option maxRecDepth 20000 in
theorem wi_X4_bus : Cond.instanceMethod yX4_bus ∈ gt := gt_at 455 rfl rfl
set_option maxRecDepth 20000 in
theorem wo_X4_bus : Cond.code yX4_bus cX4_bus 1 (some .int) ∈ gt := gt_at 456 rfl rfl
set_option maxRecDepth 20000 in
theorem wm_X4_108 : Cond.methodLink RX4 108 yX4_reckon ∈ gt := gt_at 457 rfl rfl
set_option maxRecDepth 20000 in
theorem wi_X4_reckon : Cond.instanceMethod yX4_reckon ∈ gt := gt_at 459 rfl rfl
set_option maxRecDepth 20000 in
theorem wo_X4_reckon : Cond.code yX4_reckon cX4_reckon 2 none ∈ gt := gt_at 460 rfl rfl
set_option maxRecDepth 20000 in
theorem wm_X4_90 : Cond.methodLink RX4 90 yX4_add ∈ gt := gt_at 461 rfl rfl
set_option maxRecDepth 20000 in
theorem wi_X4_add : Cond.instanceMethod yX4_add ∈ gt := gt_at 463 rfl rfl
set_option maxRecDepth 20000 in
theorem wo_X4_add : Cond.code yX4_add cX4_add 2 none ∈ gt := gt_at 464 rfl rfl
set_option maxRecDepth 20000 in
theorem wm_X4_94 : Cond.methodLink RX4 94 yX4_take ∈ gt := gt_at 465 rfl rfl
set_option maxRecDepth 20000 in
theorem wi_X4_take : Cond.instanceMethod yX4_take ∈ gt := gt_at 467 rfl rfl
set_option maxRecDepth 20000 in
theorem wo_X4_take : Cond.code yX4_take cX4_take 3 none ∈ gt := gt_at 468 rfl rfl
set_option maxRecDepth 20000 in
theorem wm_X4_111 : Cond.methodLink RX4 111 yX4_change ∈ gt := gt_at 469 rfl rfl
set_option maxRecDepth 20000 in
theorem wi_X4_change : Cond.instanceMethod yX4_change ∈ gt := gt_at 471 rfl rfl
set_option maxRecDepth 20000 in
theorem wo_X4_change : Cond.code yX4_change cX4_change 3 (some .int) ∈ gt := gt_at 472 rfl rfl
set_option maxRecDepth 20000 in
theorem wm_X4_115 : Cond.methodLink RX4 115 yX4_isOfAlu ∈ gt := gt_at 473 rfl rfl
set_option maxRecDepth 20000 in
theorem wi_X4_isOfAlu : Cond.instanceMethod yX4_isOfAlu ∈ gt := gt_at 475 rfl rfl
set_option maxRecDepth 20000 in
theorem wo_X4_isOfAlu : Cond.code yX4_isOfAlu cX4_isOfAlu 1 (some .boolean) ∈ gt := gt_at 476 rfl rfl
set_option maxRecDepth 20000 in
theorem wm_X4_137 : Cond.methodLink RX4 137 yX4_give ∈ gt := gt_at 477 rfl rfl
set_option maxRecDepth 20000 in
theorem wi_X4_give : Cond.instanceMethod yX4_give ∈ gt := gt_at 479 rfl rfl
set_option maxRecDepth 20000 in
theorem wo_X4_give : Cond.code yX4_give cX4_give 4 none ∈ gt := gt_at 480 rfl rfl
set_option maxRecDepth 20000 in
theorem wm_L_52 : Cond.methodLink RL 52 yX4_register ∈ gt := gt_at 481 rfl rfl
set_option maxRecDepth 20000 in
theorem wi_X4_register : Cond.instanceMethod yX4_register ∈ gt := gt_at 482 rfl rfl
set_option maxRecDepth 20000 in
theorem ws_X4_register : Cond.selects RX4 yX4_register yX4_register ∈ gt := gt_at 483 rfl rfl
set_option maxRecDepth 20000 in
theorem wo_X4_register : Cond.code yX4_register cX4_register 2 (some .int) ∈ gt := gt_at 484 rfl rfl
set_option maxRecDepth 20000 in
theorem wm_L_56 : Cond.methodLink RL 56 yX4_peek ∈ gt := gt_at 485 rfl rfl
set_option maxRecDepth 20000 in
theorem wi_X4_peek : Cond.instanceMethod yX4_peek ∈ gt := gt_at 486 rfl rfl
set_option maxRecDepth 20000 in
theorem ws_X4_peek : Cond.selects RX4 yX4_peek yX4_peek ∈ gt := gt_at 487 rfl rfl
set_option maxRecDepth 20000 in
theorem wo_X4_peek : Cond.code yX4_peek cX4_peek 2 (some .int) ∈ gt := gt_at 488 rfl rfl
set_option maxRecDepth 20000 in
theorem wm_L_61 : Cond.methodLink RL 61 yX4_task ∈ gt := gt_at 489 rfl rfl
set_option maxRecDepth 20000 in
theorem wi_X4_task : Cond.instanceMethod yX4_task ∈ gt := gt_at 490 rfl rfl
set_option maxRecDepth 20000 in
theorem ws_X4_task : Cond.selects RX4 yX4_task yX4_task ∈ gt := gt_at 491 rfl rfl
set_option maxRecDepth 20000 in
theorem wo_X4_task : Cond.code yX4_task cX4_task 3 (some .int) ∈ gt := gt_at 492 rfl rfl
set_option maxRecDepth 20000 in
theorem wm_L_66 : Cond.methodLink RL 66 yX4_now ∈ gt := gt_at 493 rfl rfl
set_option maxRecDepth 20000 in
theorem wi_X4_now : Cond.instanceMethod yX4_now ∈ gt := gt_at 494 rfl rfl
set_option maxRecDepth 20000 in
theorem ws_X4_now : Cond.selects RX4 yX4_now yX4_now ∈ gt := gt_at 495 rfl rfl
set_option maxRecDepth 20000 in
theorem wo_X4_now : Cond.code yX4_now cX4_now 1 (some .int) ∈ gt := gt_at 496 rfl rfl
set_option maxRecDepth 20000 in
theorem wm_L_70 : Cond.methodLink RL 70 yX4_out ∈ gt := gt_at 497 rfl rfl
set_option maxRecDepth 20000 in
theorem wi_X4_out : Cond.instanceMethod yX4_out ∈ gt := gt_at 498 rfl rfl
set_option maxRecDepth 20000 in
theorem ws_X4_out : Cond.selects RX4 yX4_out yX4_out ∈ gt := gt_at 499 rfl rfl
set_option maxRecDepth 20000 in
theorem wo_X4_out : Cond.code yX4_out cX4_out 2 (some .int) ∈ gt := gt_at 500 rfl rfl
set_option maxRecDepth 20000 in
theorem wm_L_74 : Cond.methodLink RL 74 yX4_count ∈ gt := gt_at 501 rfl rfl
set_option maxRecDepth 20000 in
theorem wi_X4_count : Cond.instanceMethod yX4_count ∈ gt := gt_at 502 rfl rfl
set_option maxRecDepth 20000 in
theorem ws_X4_count : Cond.selects RX4 yX4_count yX4_count ∈ gt := gt_at 503 rfl rfl
set_option maxRecDepth 20000 in
theorem wo_X4_count : Cond.code yX4_count cX4_count 2 (some .int) ∈ gt := gt_at 504 rfl rfl
set_option maxRecDepth 20000 in
theorem ilX0 : ∀ w ∈ u_ws RX0 TX0 3, w ∈ gt := gt_of [47, 49, 51] rfl rfl
set_option maxRecDepth 20000 in
theorem ilX1 : ∀ w ∈ u_ws RX1 TX1 3, w ∈ gt := gt_of [102, 104, 106] rfl rfl
set_option maxRecDepth 20000 in
theorem ilX2 : ∀ w ∈ u_ws RX2 TX2 7, w ∈ gt := gt_of [74, 76, 78, 80, 82, 84, 86] rfl rfl
set_option maxRecDepth 20000 in
theorem ilX3 : ∀ w ∈ u_ws RX3 TX3 12, w ∈ gt := gt_of [121, 123, 125, 127, 129, 131, 133, 135, 137, 139, 141, 143] rfl rfl
set_option maxRecDepth 20000 in
theorem ilX4 : ∀ w ∈ u_ws RX4 TX4 28, w ∈ gt := gt_of [344, 346, 348, 350, 352, 354, 356, 358, 360, 362, 364, 366, 368, 370, 372, 374, 376, 378, 380, 382, 384, 386, 388, 390, 392, 394, 396, 398] rfl rfl
abbrev w_X0_begin : List Cond := Cond.code yX0_begin cX0_begin 2 none :: gt
abbrev w_X0_init : List Cond := Cond.code yX0_init cX0_init 1 none :: gt
abbrev w_X0_read : List Cond := Cond.code yX0_read cX0_read 1 (some .int) :: gt
abbrev w_X0_rest : List Cond := Cond.code yX0_rest cX0_rest 1 none :: gt
abbrev w_X0_write : List Cond := Cond.code yX0_write cX0_write 2 none :: gt
abbrev w_X1_init : List Cond := Cond.code yX1_init cX1_init 1 none :: gt
abbrev w_X1_send : List Cond := Cond.code yX1_send cX1_send 2 none :: gt
abbrev w_X2_giveTo : List Cond := Cond.code yX2_giveTo cX2_giveTo 2 none :: gt
abbrev w_X2_goOn : List Cond := Cond.code yX2_goOn cX2_goOn 4 none :: gt
abbrev w_X2_greatestWoken : List Cond := Cond.code yX2_greatestWoken cX2_greatestWoken 2 (some .int) :: gt
abbrev w_X2_init : List Cond := Cond.code yX2_init cX2_init 1 none :: gt
abbrev w_X2_rouse : List Cond := Cond.code yX2_rouse cX2_rouse 3 (some .boolean) :: gt
abbrev w_X3_alufOf : List Cond := Cond.code yX3_alufOf cX3_alufOf 1 (some .int) :: gt
abbrev w_X3_ask : List Cond := Cond.code yX3_ask cX3_ask 2 (some .int) :: gt
abbrev w_X3_bsOf : List Cond := Cond.code yX3_bsOf cX3_bsOf 1 (some .int) :: gt
abbrev w_X3_busOf : List Cond := Cond.code yX3_busOf cX3_busOf 4 (some .int) :: gt
abbrev w_X3_changeOf : List Cond := Cond.code yX3_changeOf cX3_changeOf 4 (some .int) :: gt
abbrev w_X3_constant : List Cond := Cond.code yX3_constant cX3_constant 3 (some .boolean) :: gt
abbrev w_X3_count : List Cond := Cond.code yX3_count cX3_count 2 (some .int) :: gt
abbrev w_X3_cycle : List Cond := Cond.code yX3_cycle cX3_cycle 3 (some .boolean) :: gt
abbrev w_X3_f1Of : List Cond := Cond.code yX3_f1Of cX3_f1Of 1 (some .int) :: gt
abbrev w_X3_f2Of : List Cond := Cond.code yX3_f2Of cX3_f2Of 1 (some .int) :: gt
abbrev w_X3_givesAluToT : List Cond := Cond.code yX3_givesAluToT cX3_givesAluToT 1 (some .boolean) :: gt
abbrev w_X3_hasConstant : List Cond := Cond.code yX3_hasConstant cX3_hasConstant 1 (some .boolean) :: gt
abbrev w_X3_init : List Cond := Cond.code yX3_init cX3_init 1 none :: gt
abbrev w_X3_isTask : List Cond := Cond.code yX3_isTask cX3_isTask 1 (some .boolean) :: gt
abbrev w_X3_keep : List Cond := Cond.code yX3_keep cX3_keep 3 (some .boolean) :: gt
abbrev w_X3_loadsL : List Cond := Cond.code yX3_loadsL cX3_loadsL 1 (some .boolean) :: gt
abbrev w_X3_loadsT : List Cond := Cond.code yX3_loadsT cX3_loadsT 1 (some .boolean) :: gt
abbrev w_X3_mustWait : List Cond := Cond.code yX3_mustWait cX3_mustWait 4 (some .boolean) :: gt
abbrev w_X3_nextOf : List Cond := Cond.code yX3_nextOf cX3_nextOf 1 (some .int) :: gt
abbrev w_X3_now : List Cond := Cond.code yX3_now cX3_now 1 (some .int) :: gt
abbrev w_X3_out : List Cond := Cond.code yX3_out cX3_out 2 (some .int) :: gt
abbrev w_X3_peek : List Cond := Cond.code yX3_peek cX3_peek 2 (some .int) :: gt
abbrev w_X3_perform : List Cond := Cond.code yX3_perform cX3_perform 9 none :: gt
abbrev w_X3_poke : List Cond := Cond.code yX3_poke cX3_poke 3 (some .boolean) :: gt
abbrev w_X3_port : List Cond := Cond.code yX3_port cX3_port 2 none :: gt
abbrev w_X3_register : List Cond := Cond.code yX3_register cX3_register 2 (some .int) :: gt
abbrev w_X3_rselOf : List Cond := Cond.code yX3_rselOf cX3_rselOf 1 (some .int) :: gt
abbrev w_X3_run : List Cond := Cond.code yX3_run cX3_run 4 (some .int) :: gt
abbrev w_X3_set : List Cond := Cond.code yX3_set cX3_set 3 (some .boolean) :: gt
abbrev w_X3_shiftedL : List Cond := Cond.code yX3_shiftedL cX3_shiftedL 2 (some .int) :: gt
abbrev w_X3_start : List Cond := Cond.code yX3_start cX3_start 3 (some .boolean) :: gt
abbrev w_X3_store : List Cond := Cond.code yX3_store cX3_store 3 (some .boolean) :: gt
abbrev w_X3_sumOf : List Cond := Cond.code yX3_sumOf cX3_sumOf 4 (some .int) :: gt
abbrev w_X3_task : List Cond := Cond.code yX3_task cX3_task 3 (some .int) :: gt
abbrev w_X3_useMemory : List Cond := Cond.code yX3_useMemory cX3_useMemory 4 none :: gt
abbrev w_X3_wake : List Cond := Cond.code yX3_wake cX3_wake 2 (some .boolean) :: gt
abbrev w_X4_act : List Cond := Cond.code yX4_act cX4_act 5 none :: gt
abbrev w_X4_add : List Cond := Cond.code yX4_add cX4_add 2 none :: gt
abbrev w_X4_bus : List Cond := Cond.code yX4_bus cX4_bus 1 (some .int) :: gt
abbrev w_X4_change : List Cond := Cond.code yX4_change cX4_change 3 (some .int) :: gt
abbrev w_X4_constant : List Cond := Cond.code yX4_constant cX4_constant 3 (some .boolean) :: gt
abbrev w_X4_count : List Cond := Cond.code yX4_count cX4_count 2 (some .int) :: gt
abbrev w_X4_give : List Cond := Cond.code yX4_give cX4_give 4 none :: gt
abbrev w_X4_hasConstant : List Cond := Cond.code yX4_hasConstant cX4_hasConstant 1 (some .boolean) :: gt
abbrev w_X4_init : List Cond := Cond.code yX4_init cX4_init 1 none :: gt
abbrev w_X4_isOfAlu : List Cond := Cond.code yX4_isOfAlu cX4_isOfAlu 1 (some .boolean) :: gt
abbrev w_X4_now : List Cond := Cond.code yX4_now cX4_now 1 (some .int) :: gt
abbrev w_X4_out : List Cond := Cond.code yX4_out cX4_out 2 (some .int) :: gt
abbrev w_X4_peek : List Cond := Cond.code yX4_peek cX4_peek 2 (some .int) :: gt
abbrev w_X4_poke : List Cond := Cond.code yX4_poke cX4_poke 3 (some .boolean) :: gt
abbrev w_X4_port : List Cond := Cond.code yX4_port cX4_port 2 none :: gt
abbrev w_X4_reckon : List Cond := Cond.code yX4_reckon cX4_reckon 2 none :: gt
abbrev w_X4_register : List Cond := Cond.code yX4_register cX4_register 2 (some .int) :: gt
abbrev w_X4_run : List Cond := Cond.code yX4_run cX4_run 5 (some .int) :: gt
abbrev w_X4_set : List Cond := Cond.code yX4_set cX4_set 3 (some .boolean) :: gt
abbrev w_X4_shifted : List Cond := Cond.code yX4_shifted cX4_shifted 1 (some .int) :: gt
abbrev w_X4_start : List Cond := Cond.code yX4_start cX4_start 3 (some .boolean) :: gt
abbrev w_X4_store : List Cond := Cond.code yX4_store cX4_store 3 (some .boolean) :: gt
abbrev w_X4_take : List Cond := Cond.code yX4_take cX4_take 3 none :: gt
abbrev w_X4_task : List Cond := Cond.code yX4_task cX4_task 3 (some .int) :: gt
abbrev w_X4_waits : List Cond := Cond.code yX4_waits cX4_waits 2 (some .boolean) :: gt
abbrev w_X4_wake : List Cond := Cond.code yX4_wake cX4_wake 3 (some .boolean) :: gt
abbrev w_X4_within : List Cond := Cond.code yX4_within cX4_within 2 (some .boolean) :: gt
end
end
section
section
theorem dX0_init_0 : decode cX0_init 0 = .ok (.aload_n 0, 1) := by decide +kernel
theorem dX0_init_1 : decode cX0_init 1 = .ok (.invokespecial 3, 3) := by decide +kernel
theorem dX0_init_4 : decode cX0_init 4 = .ok (.aload_n 0, 1) := by decide +kernel
theorem dX0_init_5 : decode cX0_init 5 = .ok (.sipush 1024, 3) := by decide +kernel
theorem dX0_init_8 : decode cX0_init 8 = .ok (.newarray .int, 2) := by decide +kernel
theorem dX0_init_10 : decode cX0_init 10 = .ok (.putfield 9, 3) := by decide +kernel
theorem dX0_init_13 : decode cX0_init 13 = .ok (.aload_n 0, 1) := by decide +kernel
theorem dX0_init_14 : decode cX0_init 14 = .ok (.iconst 5, 1) := by decide +kernel
theorem dX0_init_15 : decode cX0_init 15 = .ok (.putfield 15, 3) := by decide +kernel
theorem dX0_init_18 : decode cX0_init 18 = .ok (.return_, 1) := by decide +kernel
theorem dX0_read_0 : decode cX0_read 0 = .ok (.aload_n 0, 1) := by decide +kernel
theorem dX0_read_1 : decode cX0_read 1 = .ok (.getfield 9, 3) := by decide +kernel
theorem dX0_read_4 : decode cX0_read 4 = .ok (.aload_n 0, 1) := by decide +kernel
theorem dX0_read_5 : decode cX0_read 5 = .ok (.getfield 19, 3) := by decide +kernel
theorem dX0_read_8 : decode cX0_read 8 = .ok (.sipush 1023, 3) := by decide +kernel
theorem dX0_read_11 : decode cX0_read 11 = .ok (.iand, 1) := by decide +kernel
theorem dX0_read_12 : decode cX0_read 12 = .ok (.iaload, 1) := by decide +kernel
theorem dX0_read_13 : decode cX0_read 13 = .ok (.ireturn, 1) := by decide +kernel
theorem dX0_write_0 : decode cX0_write 0 = .ok (.aload_n 0, 1) := by decide +kernel
theorem dX0_write_1 : decode cX0_write 1 = .ok (.getfield 9, 3) := by decide +kernel
theorem dX0_write_4 : decode cX0_write 4 = .ok (.aload_n 0, 1) := by decide +kernel
theorem dX0_write_5 : decode cX0_write 5 = .ok (.getfield 19, 3) := by decide +kernel
theorem dX0_write_8 : decode cX0_write 8 = .ok (.sipush 1023, 3) := by decide +kernel
theorem dX0_write_11 : decode cX0_write 11 = .ok (.iand, 1) := by decide +kernel
theorem dX0_write_12 : decode cX0_write 12 = .ok (.iload_n 1, 1) := by decide +kernel
theorem dX0_write_13 : decode cX0_write 13 = .ok (.iastore, 1) := by decide +kernel
theorem dX0_write_14 : decode cX0_write 14 = .ok (.return_, 1) := by decide +kernel
theorem dX0_begin_0 : decode cX0_begin 0 = .ok (.aload_n 0, 1) := by decide +kernel
theorem dX0_begin_1 : decode cX0_begin 1 = .ok (.iload_n 1, 1) := by decide +kernel
theorem dX0_begin_2 : decode cX0_begin 2 = .ok (.putfield 19, 3) := by decide +kernel
theorem dX0_begin_5 : decode cX0_begin 5 = .ok (.aload_n 0, 1) := by decide +kernel
theorem dX0_begin_6 : decode cX0_begin 6 = .ok (.iconst 0, 1) := by decide +kernel
theorem dX0_begin_7 : decode cX0_begin 7 = .ok (.putfield 15, 3) := by decide +kernel
theorem dX0_begin_10 : decode cX0_begin 10 = .ok (.return_, 1) := by decide +kernel
theorem dX0_rest_0 : decode cX0_rest 0 = .ok (.aload_n 0, 1) := by decide +kernel
theorem dX0_rest_1 : decode cX0_rest 1 = .ok (.getfield 15, 3) := by decide +kernel
theorem dX0_rest_4 : decode cX0_rest 4 = .ok (.iconst 5, 1) := by decide +kernel
theorem dX0_rest_5 : decode cX0_rest 5 = .ok (.if_icmp .ge 13, 3) := by decide +kernel
theorem dX0_rest_8 : decode cX0_rest 8 = .ok (.aload_n 0, 1) := by decide +kernel
theorem dX0_rest_9 : decode cX0_rest 9 = .ok (.dup, 1) := by decide +kernel
theorem dX0_rest_10 : decode cX0_rest 10 = .ok (.getfield 15, 3) := by decide +kernel
theorem dX0_rest_13 : decode cX0_rest 13 = .ok (.iconst 1, 1) := by decide +kernel
theorem dX0_rest_14 : decode cX0_rest 14 = .ok (.iadd, 1) := by decide +kernel
theorem dX0_rest_15 : decode cX0_rest 15 = .ok (.putfield 15, 3) := by decide +kernel
theorem dX0_rest_18 : decode cX0_rest 18 = .ok (.return_, 1) := by decide +kernel
theorem dX1_init_0 : decode cX1_init 0 = .ok (.aload_n 0, 1) := by decide +kernel
theorem dX1_init_1 : decode cX1_init 1 = .ok (.invokespecial 3, 3) := by decide +kernel
theorem dX1_init_4 : decode cX1_init 4 = .ok (.aload_n 0, 1) := by decide +kernel
theorem dX1_init_5 : decode cX1_init 5 = .ok (.sipush 500, 3) := by decide +kernel
theorem dX1_init_8 : decode cX1_init 8 = .ok (.newarray .int, 2) := by decide +kernel
theorem dX1_init_10 : decode cX1_init 10 = .ok (.putfield 9, 3) := by decide +kernel
theorem dX1_init_13 : decode cX1_init 13 = .ok (.return_, 1) := by decide +kernel
theorem dX1_send_0 : decode cX1_send 0 = .ok (.aload_n 0, 1) := by decide +kernel
theorem dX1_send_1 : decode cX1_send 1 = .ok (.getfield 15, 3) := by decide +kernel
theorem dX1_send_4 : decode cX1_send 4 = .ok (.sipush 500, 3) := by decide +kernel
theorem dX1_send_7 : decode cX1_send 7 = .ok (.if_icmp .ge 23, 3) := by decide +kernel
theorem dX1_send_10 : decode cX1_send 10 = .ok (.aload_n 0, 1) := by decide +kernel
theorem dX1_send_11 : decode cX1_send 11 = .ok (.getfield 9, 3) := by decide +kernel
theorem dX1_send_14 : decode cX1_send 14 = .ok (.aload_n 0, 1) := by decide +kernel
theorem dX1_send_15 : decode cX1_send 15 = .ok (.getfield 15, 3) := by decide +kernel
theorem dX1_send_18 : decode cX1_send 18 = .ok (.iload_n 1, 1) := by decide +kernel
theorem dX1_send_19 : decode cX1_send 19 = .ok (.iastore, 1) := by decide +kernel
theorem dX1_send_20 : decode cX1_send 20 = .ok (.aload_n 0, 1) := by decide +kernel
theorem dX1_send_21 : decode cX1_send 21 = .ok (.dup, 1) := by decide +kernel
theorem dX1_send_22 : decode cX1_send 22 = .ok (.getfield 15, 3) := by decide +kernel
theorem dX1_send_25 : decode cX1_send 25 = .ok (.iconst 1, 1) := by decide +kernel
theorem dX1_send_26 : decode cX1_send 26 = .ok (.iadd, 1) := by decide +kernel
theorem dX1_send_27 : decode cX1_send 27 = .ok (.putfield 15, 3) := by decide +kernel
theorem dX1_send_30 : decode cX1_send 30 = .ok (.aload_n 0, 1) := by decide +kernel
theorem dX1_send_31 : decode cX1_send 31 = .ok (.dup, 1) := by decide +kernel
theorem dX1_send_32 : decode cX1_send 32 = .ok (.getfield 19, 3) := by decide +kernel
theorem dX1_send_35 : decode cX1_send 35 = .ok (.iconst 1, 1) := by decide +kernel
theorem dX1_send_36 : decode cX1_send 36 = .ok (.iadd, 1) := by decide +kernel
theorem dX1_send_37 : decode cX1_send 37 = .ok (.putfield 19, 3) := by decide +kernel
theorem dX1_send_40 : decode cX1_send 40 = .ok (.return_, 1) := by decide +kernel
theorem dX2_init_0 : decode cX2_init 0 = .ok (.aload_n 0, 1) := by decide +kernel
theorem dX2_init_1 : decode cX2_init 1 = .ok (.invokespecial 3, 3) := by decide +kernel
theorem dX2_init_4 : decode cX2_init 4 = .ok (.aload_n 0, 1) := by decide +kernel
theorem dX2_init_5 : decode cX2_init 5 = .ok (.bipush 16, 2) := by decide +kernel
theorem dX2_init_7 : decode cX2_init 7 = .ok (.newarray .int, 2) := by decide +kernel
theorem dX2_init_9 : decode cX2_init 9 = .ok (.putfield 9, 3) := by decide +kernel
theorem dX2_init_12 : decode cX2_init 12 = .ok (.aload_n 0, 1) := by decide +kernel
theorem dX2_init_13 : decode cX2_init 13 = .ok (.bipush 16, 2) := by decide +kernel
theorem dX2_init_15 : decode cX2_init 15 = .ok (.newarray .int, 2) := by decide +kernel
theorem dX2_init_17 : decode cX2_init 17 = .ok (.putfield 15, 3) := by decide +kernel
theorem dX2_init_20 : decode cX2_init 20 = .ok (.aload_n 0, 1) := by decide +kernel
theorem dX2_init_21 : decode cX2_init 21 = .ok (.bipush 16, 2) := by decide +kernel
theorem dX2_init_23 : decode cX2_init 23 = .ok (.newarray .int, 2) := by decide +kernel
theorem dX2_init_25 : decode cX2_init 25 = .ok (.putfield 18, 3) := by decide +kernel
theorem dX2_init_28 : decode cX2_init 28 = .ok (.aload_n 0, 1) := by decide +kernel
theorem dX2_init_29 : decode cX2_init 29 = .ok (.bipush 16, 2) := by decide +kernel
theorem dX2_init_31 : decode cX2_init 31 = .ok (.newarray .boolean, 2) := by decide +kernel
theorem dX2_init_33 : decode cX2_init 33 = .ok (.putfield 21, 3) := by decide +kernel
theorem dX2_init_36 : decode cX2_init 36 = .ok (.aload_n 0, 1) := by decide +kernel
theorem dX2_init_37 : decode cX2_init 37 = .ok (.getfield 21, 3) := by decide +kernel
theorem dX2_init_40 : decode cX2_init 40 = .ok (.iconst 0, 1) := by decide +kernel
theorem dX2_init_41 : decode cX2_init 41 = .ok (.iconst 1, 1) := by decide +kernel
theorem dX2_init_42 : decode cX2_init 42 = .ok (.bastore, 1) := by decide +kernel
theorem dX2_init_43 : decode cX2_init 43 = .ok (.return_, 1) := by decide +kernel
theorem dX2_rouse_0 : decode cX2_rouse 0 = .ok (.aload_n 0, 1) := by decide +kernel
theorem dX2_rouse_1 : decode cX2_rouse 1 = .ok (.getfield 21, 3) := by decide +kernel
theorem dX2_rouse_4 : decode cX2_rouse 4 = .ok (.iload_n 1, 1) := by decide +kernel
theorem dX2_rouse_5 : decode cX2_rouse 5 = .ok (.baload, 1) := by decide +kernel
theorem dX2_rouse_6 : decode cX2_rouse 6 = .ok (.istore_n 2, 1) := by decide +kernel
theorem dX2_rouse_7 : decode cX2_rouse 7 = .ok (.aload_n 0, 1) := by decide +kernel
theorem dX2_rouse_8 : decode cX2_rouse 8 = .ok (.getfield 21, 3) := by decide +kernel
theorem dX2_rouse_11 : decode cX2_rouse 11 = .ok (.iload_n 1, 1) := by decide +kernel
theorem dX2_rouse_12 : decode cX2_rouse 12 = .ok (.iconst 1, 1) := by decide +kernel
theorem dX2_rouse_13 : decode cX2_rouse 13 = .ok (.bastore, 1) := by decide +kernel
theorem dX2_rouse_14 : decode cX2_rouse 14 = .ok (.iload_n 2, 1) := by decide +kernel
theorem dX2_rouse_15 : decode cX2_rouse 15 = .ok (.ireturn, 1) := by decide +kernel
theorem dX2_goOn_0 : decode cX2_goOn 0 = .ok (.aload_n 0, 1) := by decide +kernel
theorem dX2_goOn_1 : decode cX2_goOn 1 = .ok (.getfield 9, 3) := by decide +kernel
theorem dX2_goOn_4 : decode cX2_goOn 4 = .ok (.aload_n 0, 1) := by decide +kernel
theorem dX2_goOn_5 : decode cX2_goOn 5 = .ok (.getfield 25, 3) := by decide +kernel
theorem dX2_goOn_8 : decode cX2_goOn 8 = .ok (.iload_n 1, 1) := by decide +kernel
theorem dX2_goOn_9 : decode cX2_goOn 9 = .ok (.aload_n 0, 1) := by decide +kernel
theorem dX2_goOn_10 : decode cX2_goOn 10 = .ok (.getfield 15, 3) := by decide +kernel
theorem dX2_goOn_13 : decode cX2_goOn 13 = .ok (.aload_n 0, 1) := by decide +kernel
theorem dX2_goOn_14 : decode cX2_goOn 14 = .ok (.getfield 25, 3) := by decide +kernel
theorem dX2_goOn_17 : decode cX2_goOn 17 = .ok (.iaload, 1) := by decide +kernel
theorem dX2_goOn_18 : decode cX2_goOn 18 = .ok (.ior, 1) := by decide +kernel
theorem dX2_goOn_19 : decode cX2_goOn 19 = .ok (.iastore, 1) := by decide +kernel
theorem dX2_goOn_20 : decode cX2_goOn 20 = .ok (.aload_n 0, 1) := by decide +kernel
theorem dX2_goOn_21 : decode cX2_goOn 21 = .ok (.getfield 15, 3) := by decide +kernel
theorem dX2_goOn_24 : decode cX2_goOn 24 = .ok (.aload_n 0, 1) := by decide +kernel
theorem dX2_goOn_25 : decode cX2_goOn 25 = .ok (.getfield 25, 3) := by decide +kernel
theorem dX2_goOn_28 : decode cX2_goOn 28 = .ok (.iload_n 2, 1) := by decide +kernel
theorem dX2_goOn_29 : decode cX2_goOn 29 = .ok (.iastore, 1) := by decide +kernel
theorem dX2_goOn_30 : decode cX2_goOn 30 = .ok (.aload_n 0, 1) := by decide +kernel
theorem dX2_goOn_31 : decode cX2_goOn 31 = .ok (.getfield 18, 3) := by decide +kernel
theorem dX2_goOn_34 : decode cX2_goOn 34 = .ok (.aload_n 0, 1) := by decide +kernel
theorem dX2_goOn_35 : decode cX2_goOn 35 = .ok (.getfield 25, 3) := by decide +kernel
theorem dX2_goOn_38 : decode cX2_goOn 38 = .ok (.dup2, 1) := by decide +kernel
theorem dX2_goOn_39 : decode cX2_goOn 39 = .ok (.iaload, 1) := by decide +kernel
theorem dX2_goOn_40 : decode cX2_goOn 40 = .ok (.iconst 1, 1) := by decide +kernel
theorem dX2_goOn_41 : decode cX2_goOn 41 = .ok (.iadd, 1) := by decide +kernel
theorem dX2_goOn_42 : decode cX2_goOn 42 = .ok (.iastore, 1) := by decide +kernel
theorem dX2_goOn_43 : decode cX2_goOn 43 = .ok (.iload_n 3, 1) := by decide +kernel
theorem dX2_goOn_44 : decode cX2_goOn 44 = .ok (.iconst 3, 1) := by decide +kernel
theorem dX2_goOn_45 : decode cX2_goOn 45 = .ok (.if_icmp .ne 20, 3) := by decide +kernel
theorem dX2_goOn_48 : decode cX2_goOn 48 = .ok (.aload_n 0, 1) := by decide +kernel
theorem dX2_goOn_49 : decode cX2_goOn 49 = .ok (.getfield 25, 3) := by decide +kernel
theorem dX2_goOn_52 : decode cX2_goOn 52 = .ok (.ifCond .eq 13, 3) := by decide +kernel
theorem dX2_goOn_55 : decode cX2_goOn 55 = .ok (.aload_n 0, 1) := by decide +kernel
theorem dX2_goOn_56 : decode cX2_goOn 56 = .ok (.getfield 21, 3) := by decide +kernel
theorem dX2_goOn_59 : decode cX2_goOn 59 = .ok (.aload_n 0, 1) := by decide +kernel
theorem dX2_goOn_60 : decode cX2_goOn 60 = .ok (.getfield 25, 3) := by decide +kernel
theorem dX2_goOn_63 : decode cX2_goOn 63 = .ok (.iconst 0, 1) := by decide +kernel
theorem dX2_goOn_64 : decode cX2_goOn 64 = .ok (.bastore, 1) := by decide +kernel
theorem dX2_goOn_65 : decode cX2_goOn 65 = .ok (.aload_n 0, 1) := by decide +kernel
theorem dX2_goOn_66 : decode cX2_goOn 66 = .ok (.getfield 29, 3) := by decide +kernel
theorem dX2_goOn_69 : decode cX2_goOn 69 = .ok (.ifCond .eq 11, 3) := by decide +kernel
theorem dX2_goOn_72 : decode cX2_goOn 72 = .ok (.aload_n 0, 1) := by decide +kernel
theorem dX2_goOn_73 : decode cX2_goOn 73 = .ok (.aload_n 0, 1) := by decide +kernel
theorem dX2_goOn_74 : decode cX2_goOn 74 = .ok (.invokevirtual 33, 3) := by decide +kernel
theorem dX2_goOn_77 : decode cX2_goOn 77 = .ok (.invokevirtual 37, 3) := by decide +kernel
theorem dX2_goOn_80 : decode cX2_goOn 80 = .ok (.aload_n 0, 1) := by decide +kernel
theorem dX2_goOn_81 : decode cX2_goOn 81 = .ok (.iload_n 3, 1) := by decide +kernel
theorem dX2_goOn_82 : decode cX2_goOn 82 = .ok (.iconst 2, 1) := by decide +kernel
theorem dX2_goOn_83 : decode cX2_goOn 83 = .ok (.if_icmp .ne 7, 3) := by decide +kernel
theorem dX2_goOn_86 : decode cX2_goOn 86 = .ok (.iconst 1, 1) := by decide +kernel
theorem dX2_goOn_87 : decode cX2_goOn 87 = .ok (.goto 4, 3) := by decide +kernel
theorem dX2_goOn_90 : decode cX2_goOn 90 = .ok (.iconst 0, 1) := by decide +kernel
theorem dX2_goOn_91 : decode cX2_goOn 91 = .ok (.putfield 29, 3) := by decide +kernel
theorem dX2_goOn_94 : decode cX2_goOn 94 = .ok (.return_, 1) := by decide +kernel
theorem dX2_giveTo_0 : decode cX2_giveTo 0 = .ok (.iload_n 1, 1) := by decide +kernel
theorem dX2_giveTo_1 : decode cX2_giveTo 1 = .ok (.aload_n 0, 1) := by decide +kernel
theorem dX2_giveTo_2 : decode cX2_giveTo 2 = .ok (.getfield 25, 3) := by decide +kernel
theorem dX2_giveTo_5 : decode cX2_giveTo 5 = .ok (.if_icmp .eq 18, 3) := by decide +kernel
theorem dX2_giveTo_8 : decode cX2_giveTo 8 = .ok (.aload_n 0, 1) := by decide +kernel
theorem dX2_giveTo_9 : decode cX2_giveTo 9 = .ok (.iload_n 1, 1) := by decide +kernel
theorem dX2_giveTo_10 : decode cX2_giveTo 10 = .ok (.putfield 25, 3) := by decide +kernel
theorem dX2_giveTo_13 : decode cX2_giveTo 13 = .ok (.aload_n 0, 1) := by decide +kernel
theorem dX2_giveTo_14 : decode cX2_giveTo 14 = .ok (.dup, 1) := by decide +kernel
theorem dX2_giveTo_15 : decode cX2_giveTo 15 = .ok (.getfield 41, 3) := by decide +kernel
theorem dX2_giveTo_18 : decode cX2_giveTo 18 = .ok (.iconst 1, 1) := by decide +kernel
theorem dX2_giveTo_19 : decode cX2_giveTo 19 = .ok (.iadd, 1) := by decide +kernel
theorem dX2_giveTo_20 : decode cX2_giveTo 20 = .ok (.putfield 41, 3) := by decide +kernel
theorem dX2_giveTo_23 : decode cX2_giveTo 23 = .ok (.return_, 1) := by decide +kernel
theorem dX2_greatestWoken_0 : decode cX2_greatestWoken 0 = .ok (.bipush 15, 2) := by decide +kernel
theorem dX2_greatestWoken_2 : decode cX2_greatestWoken 2 = .ok (.istore_n 1, 1) := by decide +kernel
theorem dX2_greatestWoken_3 : decode cX2_greatestWoken 3 = .ok (.iload_n 1, 1) := by decide +kernel
theorem dX2_greatestWoken_4 : decode cX2_greatestWoken 4 = .ok (.ifCond .le 20, 3) := by decide +kernel
theorem dX2_greatestWoken_7 : decode cX2_greatestWoken 7 = .ok (.aload_n 0, 1) := by decide +kernel
theorem dX2_greatestWoken_8 : decode cX2_greatestWoken 8 = .ok (.getfield 21, 3) := by decide +kernel
theorem dX2_greatestWoken_11 : decode cX2_greatestWoken 11 = .ok (.iload_n 1, 1) := by decide +kernel
theorem dX2_greatestWoken_12 : decode cX2_greatestWoken 12 = .ok (.baload, 1) := by decide +kernel
theorem dX2_greatestWoken_13 : decode cX2_greatestWoken 13 = .ok (.ifCond .eq 5, 3) := by decide +kernel
theorem dX2_greatestWoken_16 : decode cX2_greatestWoken 16 = .ok (.iload_n 1, 1) := by decide +kernel
theorem dX2_greatestWoken_17 : decode cX2_greatestWoken 17 = .ok (.ireturn, 1) := by decide +kernel
theorem dX2_greatestWoken_18 : decode cX2_greatestWoken 18 = .ok (.iinc 1 (-1), 3) := by decide +kernel
theorem dX2_greatestWoken_21 : decode cX2_greatestWoken 21 = .ok (.goto (-18), 3) := by decide +kernel
theorem dX2_greatestWoken_24 : decode cX2_greatestWoken 24 = .ok (.iconst 0, 1) := by decide +kernel
theorem dX2_greatestWoken_25 : decode cX2_greatestWoken 25 = .ok (.ireturn, 1) := by decide +kernel
theorem dX3_init_0 : decode cX3_init 0 = .ok (.aload_n 0, 1) := by decide +kernel
theorem dX3_init_1 : decode cX3_init 1 = .ok (.invokespecial 3, 3) := by decide +kernel
theorem dX3_init_4 : decode cX3_init 4 = .ok (.aload_n 0, 1) := by decide +kernel
theorem dX3_init_5 : decode cX3_init 5 = .ok (.bipush 32, 2) := by decide +kernel
theorem dX3_init_7 : decode cX3_init 7 = .ok (.newarray .int, 2) := by decide +kernel
theorem dX3_init_9 : decode cX3_init 9 = .ok (.putfield 9, 3) := by decide +kernel
theorem dX3_init_12 : decode cX3_init 12 = .ok (.aload_n 0, 1) := by decide +kernel
theorem dX3_init_13 : decode cX3_init 13 = .ok (.sipush 256, 3) := by decide +kernel
theorem dX3_init_16 : decode cX3_init 16 = .ok (.newarray .int, 2) := by decide +kernel
theorem dX3_init_18 : decode cX3_init 18 = .ok (.putfield 13, 3) := by decide +kernel
theorem dX3_init_21 : decode cX3_init 21 = .ok (.aload_n 0, 1) := by decide +kernel
theorem dX3_init_22 : decode cX3_init 22 = .ok (.sipush 1024, 3) := by decide +kernel
theorem dX3_init_25 : decode cX3_init 25 = .ok (.newarray .int, 2) := by decide +kernel
theorem dX3_init_27 : decode cX3_init 27 = .ok (.putfield 16, 3) := by decide +kernel
theorem dX3_init_30 : decode cX3_init 30 = .ok (.aload_n 0, 1) := by decide +kernel
theorem dX3_init_31 : decode cX3_init 31 = .ok (.new 19, 3) := by decide +kernel
theorem dX3_init_34 : decode cX3_init 34 = .ok (.dup, 1) := by decide +kernel
theorem dX3_init_35 : decode cX3_init 35 = .ok (.invokespecial 21, 3) := by decide +kernel
theorem dX3_init_38 : decode cX3_init 38 = .ok (.putfield 22, 3) := by decide +kernel
theorem dX3_init_41 : decode cX3_init 41 = .ok (.aload_n 0, 1) := by decide +kernel
theorem dX3_init_42 : decode cX3_init 42 = .ok (.new 26, 3) := by decide +kernel
theorem dX3_init_45 : decode cX3_init 45 = .ok (.dup, 1) := by decide +kernel
theorem dX3_init_46 : decode cX3_init 46 = .ok (.invokespecial 28, 3) := by decide +kernel
theorem dX3_init_49 : decode cX3_init 49 = .ok (.putfield 29, 3) := by decide +kernel
theorem dX3_init_52 : decode cX3_init 52 = .ok (.aload_n 0, 1) := by decide +kernel
theorem dX3_init_53 : decode cX3_init 53 = .ok (.new 33, 3) := by decide +kernel
theorem dX3_init_56 : decode cX3_init 56 = .ok (.dup, 1) := by decide +kernel
theorem dX3_init_57 : decode cX3_init 57 = .ok (.invokespecial 35, 3) := by decide +kernel
theorem dX3_init_60 : decode cX3_init 60 = .ok (.putfield 36, 3) := by decide +kernel
theorem dX3_init_63 : decode cX3_init 63 = .ok (.return_, 1) := by decide +kernel
theorem dX3_store_0 : decode cX3_store 0 = .ok (.aload_n 0, 1) := by decide +kernel
theorem dX3_store_1 : decode cX3_store 1 = .ok (.getfield 16, 3) := by decide +kernel
theorem dX3_store_4 : decode cX3_store 4 = .ok (.iload_n 1, 1) := by decide +kernel
theorem dX3_store_5 : decode cX3_store 5 = .ok (.iload_n 2, 1) := by decide +kernel
theorem dX3_store_6 : decode cX3_store 6 = .ok (.invokestatic 40, 3) := by decide +kernel
theorem dX3_store_9 : decode cX3_store 9 = .ok (.ireturn, 1) := by decide +kernel
theorem dX3_constant_0 : decode cX3_constant 0 = .ok (.aload_n 0, 1) := by decide +kernel
theorem dX3_constant_1 : decode cX3_constant 1 = .ok (.getfield 13, 3) := by decide +kernel
theorem dX3_constant_4 : decode cX3_constant 4 = .ok (.iload_n 1, 1) := by decide +kernel
theorem dX3_constant_5 : decode cX3_constant 5 = .ok (.iload_n 2, 1) := by decide +kernel
theorem dX3_constant_6 : decode cX3_constant 6 = .ok (.ldc 44, 2) := by decide +kernel
theorem dX3_constant_8 : decode cX3_constant 8 = .ok (.iand, 1) := by decide +kernel
theorem dX3_constant_9 : decode cX3_constant 9 = .ok (.invokestatic 40, 3) := by decide +kernel
theorem dX3_constant_12 : decode cX3_constant 12 = .ok (.ireturn, 1) := by decide +kernel
theorem dX3_poke_0 : decode cX3_poke 0 = .ok (.aload_n 0, 1) := by decide +kernel
theorem dX3_poke_1 : decode cX3_poke 1 = .ok (.getfield 22, 3) := by decide +kernel
theorem dX3_poke_4 : decode cX3_poke 4 = .ok (.getfield 45, 3) := by decide +kernel
theorem dX3_poke_7 : decode cX3_poke 7 = .ok (.iload_n 1, 1) := by decide +kernel
theorem dX3_poke_8 : decode cX3_poke 8 = .ok (.iload_n 2, 1) := by decide +kernel
theorem dX3_poke_9 : decode cX3_poke 9 = .ok (.ldc 44, 2) := by decide +kernel
theorem dX3_poke_11 : decode cX3_poke 11 = .ok (.iand, 1) := by decide +kernel
theorem dX3_poke_12 : decode cX3_poke 12 = .ok (.invokestatic 40, 3) := by decide +kernel
theorem dX3_poke_15 : decode cX3_poke 15 = .ok (.ireturn, 1) := by decide +kernel
theorem dX3_set_0 : decode cX3_set 0 = .ok (.aload_n 0, 1) := by decide +kernel
theorem dX3_set_1 : decode cX3_set 1 = .ok (.getfield 9, 3) := by decide +kernel
theorem dX3_set_4 : decode cX3_set 4 = .ok (.iload_n 1, 1) := by decide +kernel
theorem dX3_set_5 : decode cX3_set 5 = .ok (.iload_n 2, 1) := by decide +kernel
theorem dX3_set_6 : decode cX3_set 6 = .ok (.ldc 44, 2) := by decide +kernel
theorem dX3_set_8 : decode cX3_set 8 = .ok (.iand, 1) := by decide +kernel
theorem dX3_set_9 : decode cX3_set 9 = .ok (.invokestatic 40, 3) := by decide +kernel
theorem dX3_set_12 : decode cX3_set 12 = .ok (.ireturn, 1) := by decide +kernel
theorem dX3_port_0 : decode cX3_port 0 = .ok (.aload_n 0, 1) := by decide +kernel
theorem dX3_port_1 : decode cX3_port 1 = .ok (.iload_n 1, 1) := by decide +kernel
theorem dX3_port_2 : decode cX3_port 2 = .ok (.ldc 44, 2) := by decide +kernel
theorem dX3_port_4 : decode cX3_port 4 = .ok (.iand, 1) := by decide +kernel
theorem dX3_port_5 : decode cX3_port 5 = .ok (.putfield 48, 3) := by decide +kernel
theorem dX3_port_8 : decode cX3_port 8 = .ok (.return_, 1) := by decide +kernel
theorem dX3_wake_0 : decode cX3_wake 0 = .ok (.iload_n 1, 1) := by decide +kernel
theorem dX3_wake_1 : decode cX3_wake 1 = .ok (.invokestatic 52, 3) := by decide +kernel
theorem dX3_wake_4 : decode cX3_wake 4 = .ok (.ifCond .eq 18, 3) := by decide +kernel
theorem dX3_wake_7 : decode cX3_wake 7 = .ok (.aload_n 0, 1) := by decide +kernel
theorem dX3_wake_8 : decode cX3_wake 8 = .ok (.getfield 29, 3) := by decide +kernel
theorem dX3_wake_11 : decode cX3_wake 11 = .ok (.iload_n 1, 1) := by decide +kernel
theorem dX3_wake_12 : decode cX3_wake 12 = .ok (.invokevirtual 56, 3) := by decide +kernel
theorem dX3_wake_15 : decode cX3_wake 15 = .ok (.ifCond .eq 7, 3) := by decide +kernel
theorem dX3_wake_18 : decode cX3_wake 18 = .ok (.iconst 1, 1) := by decide +kernel
theorem dX3_wake_19 : decode cX3_wake 19 = .ok (.goto 4, 3) := by decide +kernel
theorem dX3_wake_22 : decode cX3_wake 22 = .ok (.iconst 0, 1) := by decide +kernel
theorem dX3_wake_23 : decode cX3_wake 23 = .ok (.ireturn, 1) := by decide +kernel
theorem dX3_start_0 : decode cX3_start 0 = .ok (.iload_n 1, 1) := by decide +kernel
theorem dX3_start_1 : decode cX3_start 1 = .ok (.invokestatic 52, 3) := by decide +kernel
theorem dX3_start_4 : decode cX3_start 4 = .ok (.ifCond .eq 14, 3) := by decide +kernel
theorem dX3_start_7 : decode cX3_start 7 = .ok (.iload_n 2, 1) := by decide +kernel
theorem dX3_start_8 : decode cX3_start 8 = .ok (.ifCond .lt 10, 3) := by decide +kernel
theorem dX3_start_11 : decode cX3_start 11 = .ok (.iload_n 2, 1) := by decide +kernel
theorem dX3_start_12 : decode cX3_start 12 = .ok (.sipush 1024, 3) := by decide +kernel
theorem dX3_start_15 : decode cX3_start 15 = .ok (.if_icmp .lt 5, 3) := by decide +kernel
theorem dX3_start_18 : decode cX3_start 18 = .ok (.iconst 0, 1) := by decide +kernel
theorem dX3_start_19 : decode cX3_start 19 = .ok (.ireturn, 1) := by decide +kernel
theorem dX3_start_20 : decode cX3_start 20 = .ok (.aload_n 0, 1) := by decide +kernel
theorem dX3_start_21 : decode cX3_start 21 = .ok (.getfield 29, 3) := by decide +kernel
theorem dX3_start_24 : decode cX3_start 24 = .ok (.getfield 59, 3) := by decide +kernel
theorem dX3_start_27 : decode cX3_start 27 = .ok (.iload_n 1, 1) := by decide +kernel
theorem dX3_start_28 : decode cX3_start 28 = .ok (.iload_n 2, 1) := by decide +kernel
theorem dX3_start_29 : decode cX3_start 29 = .ok (.iastore, 1) := by decide +kernel
theorem dX3_start_30 : decode cX3_start 30 = .ok (.aload_n 0, 1) := by decide +kernel
theorem dX3_start_31 : decode cX3_start 31 = .ok (.getfield 29, 3) := by decide +kernel
theorem dX3_start_34 : decode cX3_start 34 = .ok (.getfield 62, 3) := by decide +kernel
theorem dX3_start_37 : decode cX3_start 37 = .ok (.iload_n 1, 1) := by decide +kernel
theorem dX3_start_38 : decode cX3_start 38 = .ok (.iconst 0, 1) := by decide +kernel
theorem dX3_start_39 : decode cX3_start 39 = .ok (.iastore, 1) := by decide +kernel
theorem dX3_start_40 : decode cX3_start 40 = .ok (.iconst 1, 1) := by decide +kernel
theorem dX3_start_41 : decode cX3_start 41 = .ok (.ireturn, 1) := by decide +kernel
theorem dX3_run_0 : decode cX3_run 0 = .ok (.iload_n 1, 1) := by decide +kernel
theorem dX3_run_1 : decode cX3_run 1 = .ok (.iconst 1, 1) := by decide +kernel
theorem dX3_run_2 : decode cX3_run 2 = .ok (.if_icmp .lt 10, 3) := by decide +kernel
theorem dX3_run_5 : decode cX3_run 5 = .ok (.iload_n 1, 1) := by decide +kernel
theorem dX3_run_6 : decode cX3_run 6 = .ok (.sipush 5000, 3) := by decide +kernel
theorem dX3_run_9 : decode cX3_run 9 = .ok (.if_icmp .le 5, 3) := by decide +kernel
theorem dX3_run_12 : decode cX3_run 12 = .ok (.iconst (-1), 1) := by decide +kernel
theorem dX3_run_13 : decode cX3_run 13 = .ok (.ireturn, 1) := by decide +kernel
theorem dX3_run_14 : decode cX3_run 14 = .ok (.iconst 0, 1) := by decide +kernel
theorem dX3_run_15 : decode cX3_run 15 = .ok (.istore_n 2, 1) := by decide +kernel
theorem dX3_run_16 : decode cX3_run 16 = .ok (.iconst 0, 1) := by decide +kernel
theorem dX3_run_17 : decode cX3_run 17 = .ok (.istore_n 3, 1) := by decide +kernel
theorem dX3_run_18 : decode cX3_run 18 = .ok (.iload_n 3, 1) := by decide +kernel
theorem dX3_run_19 : decode cX3_run 19 = .ok (.iload_n 1, 1) := by decide +kernel
theorem dX3_run_20 : decode cX3_run 20 = .ok (.if_icmp .ge 19, 3) := by decide +kernel
theorem dX3_run_23 : decode cX3_run 23 = .ok (.aload_n 0, 1) := by decide +kernel
theorem dX3_run_24 : decode cX3_run 24 = .ok (.invokevirtual 65, 3) := by decide +kernel
theorem dX3_run_27 : decode cX3_run 27 = .ok (.ifCond .eq 6, 3) := by decide +kernel
theorem dX3_run_30 : decode cX3_run 30 = .ok (.iinc 2 1, 3) := by decide +kernel
theorem dX3_run_33 : decode cX3_run 33 = .ok (.iinc 3 1, 3) := by decide +kernel
theorem dX3_run_36 : decode cX3_run 36 = .ok (.goto (-18), 3) := by decide +kernel
theorem dX3_run_39 : decode cX3_run 39 = .ok (.iload_n 2, 1) := by decide +kernel
theorem dX3_run_40 : decode cX3_run 40 = .ok (.ireturn, 1) := by decide +kernel
theorem dX3_register_0 : decode cX3_register 0 = .ok (.iload_n 1, 1) := by decide +kernel
theorem dX3_register_1 : decode cX3_register 1 = .ok (.tableswitch 54 32 35 #[31, 36, 41, 46], 31) := by decide +kernel
theorem dX3_register_32 : decode cX3_register 32 = .ok (.aload_n 0, 1) := by decide +kernel
theorem dX3_register_33 : decode cX3_register 33 = .ok (.getfield 69, 3) := by decide +kernel
theorem dX3_register_36 : decode cX3_register 36 = .ok (.ireturn, 1) := by decide +kernel
theorem dX3_register_37 : decode cX3_register 37 = .ok (.aload_n 0, 1) := by decide +kernel
theorem dX3_register_38 : decode cX3_register 38 = .ok (.getfield 72, 3) := by decide +kernel
theorem dX3_register_41 : decode cX3_register 41 = .ok (.ireturn, 1) := by decide +kernel
theorem dX3_register_42 : decode cX3_register 42 = .ok (.aload_n 0, 1) := by decide +kernel
theorem dX3_register_43 : decode cX3_register 43 = .ok (.getfield 75, 3) := by decide +kernel
theorem dX3_register_46 : decode cX3_register 46 = .ok (.ireturn, 1) := by decide +kernel
theorem dX3_register_47 : decode cX3_register 47 = .ok (.aload_n 0, 1) := by decide +kernel
theorem dX3_register_48 : decode cX3_register 48 = .ok (.getfield 22, 3) := by decide +kernel
theorem dX3_register_51 : decode cX3_register 51 = .ok (.getfield 78, 3) := by decide +kernel
theorem dX3_register_54 : decode cX3_register 54 = .ok (.ireturn, 1) := by decide +kernel
theorem dX3_register_55 : decode cX3_register 55 = .ok (.aload_n 0, 1) := by decide +kernel
theorem dX3_register_56 : decode cX3_register 56 = .ok (.getfield 9, 3) := by decide +kernel
theorem dX3_register_59 : decode cX3_register 59 = .ok (.iload_n 1, 1) := by decide +kernel
theorem dX3_register_60 : decode cX3_register 60 = .ok (.invokestatic 81, 3) := by decide +kernel
theorem dX3_register_63 : decode cX3_register 63 = .ok (.ireturn, 1) := by decide +kernel
theorem dX3_peek_0 : decode cX3_peek 0 = .ok (.aload_n 0, 1) := by decide +kernel
theorem dX3_peek_1 : decode cX3_peek 1 = .ok (.getfield 22, 3) := by decide +kernel
theorem dX3_peek_4 : decode cX3_peek 4 = .ok (.getfield 45, 3) := by decide +kernel
theorem dX3_peek_7 : decode cX3_peek 7 = .ok (.iload_n 1, 1) := by decide +kernel
theorem dX3_peek_8 : decode cX3_peek 8 = .ok (.invokestatic 81, 3) := by decide +kernel
theorem dX3_peek_11 : decode cX3_peek 11 = .ok (.ireturn, 1) := by decide +kernel
theorem dX3_task_0 : decode cX3_task 0 = .ok (.iload_n 1, 1) := by decide +kernel
theorem dX3_task_1 : decode cX3_task 1 = .ok (.invokestatic 52, 3) := by decide +kernel
theorem dX3_task_4 : decode cX3_task 4 = .ok (.ifCond .ne 5, 3) := by decide +kernel
theorem dX3_task_7 : decode cX3_task 7 = .ok (.iconst (-1), 1) := by decide +kernel
theorem dX3_task_8 : decode cX3_task 8 = .ok (.ireturn, 1) := by decide +kernel
theorem dX3_task_9 : decode cX3_task 9 = .ok (.iload_n 2, 1) := by decide +kernel
theorem dX3_task_10 : decode cX3_task 10 = .ok (.tableswitch 78 0 3 #[30, 40, 50, 68], 30) := by decide +kernel
theorem dX3_task_40 : decode cX3_task 40 = .ok (.aload_n 0, 1) := by decide +kernel
theorem dX3_task_41 : decode cX3_task 41 = .ok (.getfield 29, 3) := by decide +kernel
theorem dX3_task_44 : decode cX3_task 44 = .ok (.getfield 59, 3) := by decide +kernel
theorem dX3_task_47 : decode cX3_task 47 = .ok (.iload_n 1, 1) := by decide +kernel
theorem dX3_task_48 : decode cX3_task 48 = .ok (.iaload, 1) := by decide +kernel
theorem dX3_task_49 : decode cX3_task 49 = .ok (.ireturn, 1) := by decide +kernel
theorem dX3_task_50 : decode cX3_task 50 = .ok (.aload_n 0, 1) := by decide +kernel
theorem dX3_task_51 : decode cX3_task 51 = .ok (.getfield 29, 3) := by decide +kernel
theorem dX3_task_54 : decode cX3_task 54 = .ok (.getfield 62, 3) := by decide +kernel
theorem dX3_task_57 : decode cX3_task 57 = .ok (.iload_n 1, 1) := by decide +kernel
theorem dX3_task_58 : decode cX3_task 58 = .ok (.iaload, 1) := by decide +kernel
theorem dX3_task_59 : decode cX3_task 59 = .ok (.ireturn, 1) := by decide +kernel
theorem dX3_task_60 : decode cX3_task 60 = .ok (.aload_n 0, 1) := by decide +kernel
theorem dX3_task_61 : decode cX3_task 61 = .ok (.getfield 29, 3) := by decide +kernel
theorem dX3_task_64 : decode cX3_task 64 = .ok (.getfield 85, 3) := by decide +kernel
theorem dX3_task_67 : decode cX3_task 67 = .ok (.iload_n 1, 1) := by decide +kernel
theorem dX3_task_68 : decode cX3_task 68 = .ok (.baload, 1) := by decide +kernel
theorem dX3_task_69 : decode cX3_task 69 = .ok (.ifCond .eq 7, 3) := by decide +kernel
theorem dX3_task_72 : decode cX3_task 72 = .ok (.iconst 1, 1) := by decide +kernel
theorem dX3_task_73 : decode cX3_task 73 = .ok (.goto 4, 3) := by decide +kernel
theorem dX3_task_76 : decode cX3_task 76 = .ok (.iconst 0, 1) := by decide +kernel
theorem dX3_task_77 : decode cX3_task 77 = .ok (.ireturn, 1) := by decide +kernel
theorem dX3_task_78 : decode cX3_task 78 = .ok (.aload_n 0, 1) := by decide +kernel
theorem dX3_task_79 : decode cX3_task 79 = .ok (.getfield 29, 3) := by decide +kernel
theorem dX3_task_82 : decode cX3_task 82 = .ok (.getfield 89, 3) := by decide +kernel
theorem dX3_task_85 : decode cX3_task 85 = .ok (.iload_n 1, 1) := by decide +kernel
theorem dX3_task_86 : decode cX3_task 86 = .ok (.iaload, 1) := by decide +kernel
theorem dX3_task_87 : decode cX3_task 87 = .ok (.ireturn, 1) := by decide +kernel
theorem dX3_task_88 : decode cX3_task 88 = .ok (.iconst (-1), 1) := by decide +kernel
theorem dX3_task_89 : decode cX3_task 89 = .ok (.ireturn, 1) := by decide +kernel
theorem dX3_now_0 : decode cX3_now 0 = .ok (.aload_n 0, 1) := by decide +kernel
theorem dX3_now_1 : decode cX3_now 1 = .ok (.getfield 29, 3) := by decide +kernel
theorem dX3_now_4 : decode cX3_now 4 = .ok (.getfield 92, 3) := by decide +kernel
theorem dX3_now_7 : decode cX3_now 7 = .ok (.ireturn, 1) := by decide +kernel
theorem dX3_out_0 : decode cX3_out 0 = .ok (.iload_n 1, 1) := by decide +kernel
theorem dX3_out_1 : decode cX3_out 1 = .ok (.aload_n 0, 1) := by decide +kernel
theorem dX3_out_2 : decode cX3_out 2 = .ok (.getfield 36, 3) := by decide +kernel
theorem dX3_out_5 : decode cX3_out 5 = .ok (.getfield 95, 3) := by decide +kernel
theorem dX3_out_8 : decode cX3_out 8 = .ok (.if_icmp .ge 17, 3) := by decide +kernel
theorem dX3_out_11 : decode cX3_out 11 = .ok (.aload_n 0, 1) := by decide +kernel
theorem dX3_out_12 : decode cX3_out 12 = .ok (.getfield 36, 3) := by decide +kernel
theorem dX3_out_15 : decode cX3_out 15 = .ok (.getfield 98, 3) := by decide +kernel
theorem dX3_out_18 : decode cX3_out 18 = .ok (.iload_n 1, 1) := by decide +kernel
theorem dX3_out_19 : decode cX3_out 19 = .ok (.invokestatic 81, 3) := by decide +kernel
theorem dX3_out_22 : decode cX3_out 22 = .ok (.goto 4, 3) := by decide +kernel
theorem dX3_out_25 : decode cX3_out 25 = .ok (.iconst (-1), 1) := by decide +kernel
theorem dX3_out_26 : decode cX3_out 26 = .ok (.ireturn, 1) := by decide +kernel
theorem dX3_count_0 : decode cX3_count 0 = .ok (.iload_n 1, 1) := by decide +kernel
theorem dX3_count_1 : decode cX3_count 1 = .ok (.tableswitch 57 0 3 #[31, 36, 41, 49], 31) := by decide +kernel
theorem dX3_count_32 : decode cX3_count 32 = .ok (.aload_n 0, 1) := by decide +kernel
theorem dX3_count_33 : decode cX3_count 33 = .ok (.getfield 99, 3) := by decide +kernel
theorem dX3_count_36 : decode cX3_count 36 = .ok (.ireturn, 1) := by decide +kernel
theorem dX3_count_37 : decode cX3_count 37 = .ok (.aload_n 0, 1) := by decide +kernel
theorem dX3_count_38 : decode cX3_count 38 = .ok (.getfield 102, 3) := by decide +kernel
theorem dX3_count_41 : decode cX3_count 41 = .ok (.ireturn, 1) := by decide +kernel
theorem dX3_count_42 : decode cX3_count 42 = .ok (.aload_n 0, 1) := by decide +kernel
theorem dX3_count_43 : decode cX3_count 43 = .ok (.getfield 36, 3) := by decide +kernel
theorem dX3_count_46 : decode cX3_count 46 = .ok (.getfield 105, 3) := by decide +kernel
theorem dX3_count_49 : decode cX3_count 49 = .ok (.ireturn, 1) := by decide +kernel
theorem dX3_count_50 : decode cX3_count 50 = .ok (.aload_n 0, 1) := by decide +kernel
theorem dX3_count_51 : decode cX3_count 51 = .ok (.getfield 29, 3) := by decide +kernel
theorem dX3_count_54 : decode cX3_count 54 = .ok (.getfield 108, 3) := by decide +kernel
theorem dX3_count_57 : decode cX3_count 57 = .ok (.ireturn, 1) := by decide +kernel
theorem dX3_count_58 : decode cX3_count 58 = .ok (.iconst (-1), 1) := by decide +kernel
theorem dX3_count_59 : decode cX3_count 59 = .ok (.ireturn, 1) := by decide +kernel
theorem dX3_isTask_0 : decode cX3_isTask 0 = .ok (.iload_n 0, 1) := by decide +kernel
theorem dX3_isTask_1 : decode cX3_isTask 1 = .ok (.ifCond .lt 13, 3) := by decide +kernel
theorem dX3_isTask_4 : decode cX3_isTask 4 = .ok (.iload_n 0, 1) := by decide +kernel
theorem dX3_isTask_5 : decode cX3_isTask 5 = .ok (.bipush 16, 2) := by decide +kernel
theorem dX3_isTask_7 : decode cX3_isTask 7 = .ok (.if_icmp .ge 7, 3) := by decide +kernel
theorem dX3_isTask_10 : decode cX3_isTask 10 = .ok (.iconst 1, 1) := by decide +kernel
theorem dX3_isTask_11 : decode cX3_isTask 11 = .ok (.goto 4, 3) := by decide +kernel
theorem dX3_isTask_14 : decode cX3_isTask 14 = .ok (.iconst 0, 1) := by decide +kernel
theorem dX3_isTask_15 : decode cX3_isTask 15 = .ok (.ireturn, 1) := by decide +kernel
theorem dX3_keep_0 : decode cX3_keep 0 = .ok (.iload_n 1, 1) := by decide +kernel
theorem dX3_keep_1 : decode cX3_keep 1 = .ok (.ifCond .lt 9, 3) := by decide +kernel
theorem dX3_keep_4 : decode cX3_keep 4 = .ok (.iload_n 1, 1) := by decide +kernel
theorem dX3_keep_5 : decode cX3_keep 5 = .ok (.aload_n 0, 1) := by decide +kernel
theorem dX3_keep_6 : decode cX3_keep 6 = .ok (.arraylength, 1) := by decide +kernel
theorem dX3_keep_7 : decode cX3_keep 7 = .ok (.if_icmp .lt 5, 3) := by decide +kernel
theorem dX3_keep_10 : decode cX3_keep 10 = .ok (.iconst 0, 1) := by decide +kernel
theorem dX3_keep_11 : decode cX3_keep 11 = .ok (.ireturn, 1) := by decide +kernel
theorem dX3_keep_12 : decode cX3_keep 12 = .ok (.aload_n 0, 1) := by decide +kernel
theorem dX3_keep_13 : decode cX3_keep 13 = .ok (.iload_n 1, 1) := by decide +kernel
theorem dX3_keep_14 : decode cX3_keep 14 = .ok (.iload_n 2, 1) := by decide +kernel
theorem dX3_keep_15 : decode cX3_keep 15 = .ok (.iastore, 1) := by decide +kernel
theorem dX3_keep_16 : decode cX3_keep 16 = .ok (.iconst 1, 1) := by decide +kernel
theorem dX3_keep_17 : decode cX3_keep 17 = .ok (.ireturn, 1) := by decide +kernel
theorem dX3_ask_0 : decode cX3_ask 0 = .ok (.iload_n 1, 1) := by decide +kernel
theorem dX3_ask_1 : decode cX3_ask 1 = .ok (.ifCond .lt 15, 3) := by decide +kernel
theorem dX3_ask_4 : decode cX3_ask 4 = .ok (.iload_n 1, 1) := by decide +kernel
theorem dX3_ask_5 : decode cX3_ask 5 = .ok (.aload_n 0, 1) := by decide +kernel
theorem dX3_ask_6 : decode cX3_ask 6 = .ok (.arraylength, 1) := by decide +kernel
theorem dX3_ask_7 : decode cX3_ask 7 = .ok (.if_icmp .ge 9, 3) := by decide +kernel
theorem dX3_ask_10 : decode cX3_ask 10 = .ok (.aload_n 0, 1) := by decide +kernel
theorem dX3_ask_11 : decode cX3_ask 11 = .ok (.iload_n 1, 1) := by decide +kernel
theorem dX3_ask_12 : decode cX3_ask 12 = .ok (.iaload, 1) := by decide +kernel
theorem dX3_ask_13 : decode cX3_ask 13 = .ok (.goto 4, 3) := by decide +kernel
theorem dX3_ask_16 : decode cX3_ask 16 = .ok (.iconst (-1), 1) := by decide +kernel
theorem dX3_ask_17 : decode cX3_ask 17 = .ok (.ireturn, 1) := by decide +kernel
theorem dX3_cycle_0 : decode cX3_cycle 0 = .ok (.aload_n 0, 1) := by decide +kernel
theorem dX3_cycle_1 : decode cX3_cycle 1 = .ok (.getfield 16, 3) := by decide +kernel
theorem dX3_cycle_4 : decode cX3_cycle 4 = .ok (.aload_n 0, 1) := by decide +kernel
theorem dX3_cycle_5 : decode cX3_cycle 5 = .ok (.getfield 29, 3) := by decide +kernel
theorem dX3_cycle_8 : decode cX3_cycle 8 = .ok (.getfield 59, 3) := by decide +kernel
theorem dX3_cycle_11 : decode cX3_cycle 11 = .ok (.aload_n 0, 1) := by decide +kernel
theorem dX3_cycle_12 : decode cX3_cycle 12 = .ok (.getfield 29, 3) := by decide +kernel
theorem dX3_cycle_15 : decode cX3_cycle 15 = .ok (.getfield 92, 3) := by decide +kernel
theorem dX3_cycle_18 : decode cX3_cycle 18 = .ok (.iaload, 1) := by decide +kernel
theorem dX3_cycle_19 : decode cX3_cycle 19 = .ok (.iaload, 1) := by decide +kernel
theorem dX3_cycle_20 : decode cX3_cycle 20 = .ok (.istore_n 1, 1) := by decide +kernel
theorem dX3_cycle_21 : decode cX3_cycle 21 = .ok (.aload_n 0, 1) := by decide +kernel
theorem dX3_cycle_22 : decode cX3_cycle 22 = .ok (.iload_n 1, 1) := by decide +kernel
theorem dX3_cycle_23 : decode cX3_cycle 23 = .ok (.invokevirtual 111, 3) := by decide +kernel
theorem dX3_cycle_26 : decode cX3_cycle 26 = .ok (.ifCond .ne 7, 3) := by decide +kernel
theorem dX3_cycle_29 : decode cX3_cycle 29 = .ok (.iconst 1, 1) := by decide +kernel
theorem dX3_cycle_30 : decode cX3_cycle 30 = .ok (.goto 4, 3) := by decide +kernel
theorem dX3_cycle_33 : decode cX3_cycle 33 = .ok (.iconst 0, 1) := by decide +kernel
theorem dX3_cycle_34 : decode cX3_cycle 34 = .ok (.istore_n 2, 1) := by decide +kernel
theorem dX3_cycle_35 : decode cX3_cycle 35 = .ok (.iload_n 2, 1) := by decide +kernel
theorem dX3_cycle_36 : decode cX3_cycle 36 = .ok (.ifCond .eq 11, 3) := by decide +kernel
theorem dX3_cycle_39 : decode cX3_cycle 39 = .ok (.aload_n 0, 1) := by decide +kernel
theorem dX3_cycle_40 : decode cX3_cycle 40 = .ok (.iload_n 1, 1) := by decide +kernel
theorem dX3_cycle_41 : decode cX3_cycle 41 = .ok (.invokevirtual 114, 3) := by decide +kernel
theorem dX3_cycle_44 : decode cX3_cycle 44 = .ok (.goto 13, 3) := by decide +kernel
theorem dX3_cycle_47 : decode cX3_cycle 47 = .ok (.aload_n 0, 1) := by decide +kernel
theorem dX3_cycle_48 : decode cX3_cycle 48 = .ok (.dup, 1) := by decide +kernel
theorem dX3_cycle_49 : decode cX3_cycle 49 = .ok (.getfield 102, 3) := by decide +kernel
theorem dX3_cycle_52 : decode cX3_cycle 52 = .ok (.iconst 1, 1) := by decide +kernel
theorem dX3_cycle_53 : decode cX3_cycle 53 = .ok (.iadd, 1) := by decide +kernel
theorem dX3_cycle_54 : decode cX3_cycle 54 = .ok (.putfield 102, 3) := by decide +kernel
theorem dX3_cycle_57 : decode cX3_cycle 57 = .ok (.aload_n 0, 1) := by decide +kernel
theorem dX3_cycle_58 : decode cX3_cycle 58 = .ok (.getfield 22, 3) := by decide +kernel
theorem dX3_cycle_61 : decode cX3_cycle 61 = .ok (.invokevirtual 118, 3) := by decide +kernel
theorem dX3_cycle_64 : decode cX3_cycle 64 = .ok (.aload_n 0, 1) := by decide +kernel
theorem dX3_cycle_65 : decode cX3_cycle 65 = .ok (.dup, 1) := by decide +kernel
theorem dX3_cycle_66 : decode cX3_cycle 66 = .ok (.getfield 99, 3) := by decide +kernel
theorem dX3_cycle_69 : decode cX3_cycle 69 = .ok (.iconst 1, 1) := by decide +kernel
theorem dX3_cycle_70 : decode cX3_cycle 70 = .ok (.iadd, 1) := by decide +kernel
theorem dX3_cycle_71 : decode cX3_cycle 71 = .ok (.putfield 99, 3) := by decide +kernel
theorem dX3_cycle_74 : decode cX3_cycle 74 = .ok (.iload_n 2, 1) := by decide +kernel
theorem dX3_cycle_75 : decode cX3_cycle 75 = .ok (.ireturn, 1) := by decide +kernel
theorem dX3_mustWait_0 : decode cX3_mustWait 0 = .ok (.aload_n 0, 1) := by decide +kernel
theorem dX3_mustWait_1 : decode cX3_mustWait 1 = .ok (.getfield 22, 3) := by decide +kernel
theorem dX3_mustWait_4 : decode cX3_mustWait 4 = .ok (.getfield 121, 3) := by decide +kernel
theorem dX3_mustWait_7 : decode cX3_mustWait 7 = .ok (.istore_n 2, 1) := by decide +kernel
theorem dX3_mustWait_8 : decode cX3_mustWait 8 = .ok (.iload_n 1, 1) := by decide +kernel
theorem dX3_mustWait_9 : decode cX3_mustWait 9 = .ok (.invokestatic 124, 3) := by decide +kernel
theorem dX3_mustWait_12 : decode cX3_mustWait 12 = .ok (.iconst 5, 1) := by decide +kernel
theorem dX3_mustWait_13 : decode cX3_mustWait 13 = .ok (.if_icmp .ne 14, 3) := by decide +kernel
theorem dX3_mustWait_16 : decode cX3_mustWait 16 = .ok (.iload_n 1, 1) := by decide +kernel
theorem dX3_mustWait_17 : decode cX3_mustWait 17 = .ok (.invokestatic 128, 3) := by decide +kernel
theorem dX3_mustWait_20 : decode cX3_mustWait 20 = .ok (.ifCond .ne 7, 3) := by decide +kernel
theorem dX3_mustWait_23 : decode cX3_mustWait 23 = .ok (.iconst 1, 1) := by decide +kernel
theorem dX3_mustWait_24 : decode cX3_mustWait 24 = .ok (.goto 4, 3) := by decide +kernel
theorem dX3_mustWait_27 : decode cX3_mustWait 27 = .ok (.iconst 0, 1) := by decide +kernel
theorem dX3_mustWait_28 : decode cX3_mustWait 28 = .ok (.istore_n 3, 1) := by decide +kernel
theorem dX3_mustWait_29 : decode cX3_mustWait 29 = .ok (.iload_n 1, 1) := by decide +kernel
theorem dX3_mustWait_30 : decode cX3_mustWait 30 = .ok (.invokestatic 131, 3) := by decide +kernel
theorem dX3_mustWait_33 : decode cX3_mustWait 33 = .ok (.iconst 1, 1) := by decide +kernel
theorem dX3_mustWait_34 : decode cX3_mustWait 34 = .ok (.if_icmp .ne 8, 3) := by decide +kernel
theorem dX3_mustWait_37 : decode cX3_mustWait 37 = .ok (.iload_n 2, 1) := by decide +kernel
theorem dX3_mustWait_38 : decode cX3_mustWait 38 = .ok (.iconst 5, 1) := by decide +kernel
theorem dX3_mustWait_39 : decode cX3_mustWait 39 = .ok (.if_icmp .lt 26, 3) := by decide +kernel
theorem dX3_mustWait_42 : decode cX3_mustWait 42 = .ok (.iload_n 3, 1) := by decide +kernel
theorem dX3_mustWait_43 : decode cX3_mustWait 43 = .ok (.ifCond .eq 8, 3) := by decide +kernel
theorem dX3_mustWait_46 : decode cX3_mustWait 46 = .ok (.iload_n 2, 1) := by decide +kernel
theorem dX3_mustWait_47 : decode cX3_mustWait 47 = .ok (.iconst 4, 1) := by decide +kernel
theorem dX3_mustWait_48 : decode cX3_mustWait 48 = .ok (.if_icmp .lt 17, 3) := by decide +kernel
theorem dX3_mustWait_51 : decode cX3_mustWait 51 = .ok (.iload_n 1, 1) := by decide +kernel
theorem dX3_mustWait_52 : decode cX3_mustWait 52 = .ok (.invokestatic 134, 3) := by decide +kernel
theorem dX3_mustWait_55 : decode cX3_mustWait 55 = .ok (.bipush 6, 2) := by decide +kernel
theorem dX3_mustWait_57 : decode cX3_mustWait 57 = .ok (.if_icmp .ne 12, 3) := by decide +kernel
theorem dX3_mustWait_60 : decode cX3_mustWait 60 = .ok (.iload_n 2, 1) := by decide +kernel
theorem dX3_mustWait_61 : decode cX3_mustWait 61 = .ok (.iconst 2, 1) := by decide +kernel
theorem dX3_mustWait_62 : decode cX3_mustWait 62 = .ok (.if_icmp .ge 7, 3) := by decide +kernel
theorem dX3_mustWait_65 : decode cX3_mustWait 65 = .ok (.iconst 1, 1) := by decide +kernel
theorem dX3_mustWait_66 : decode cX3_mustWait 66 = .ok (.goto 4, 3) := by decide +kernel
theorem dX3_mustWait_69 : decode cX3_mustWait 69 = .ok (.iconst 0, 1) := by decide +kernel
theorem dX3_mustWait_70 : decode cX3_mustWait 70 = .ok (.ireturn, 1) := by decide +kernel
theorem dX3_perform_0 : decode cX3_perform 0 = .ok (.iload_n 1, 1) := by decide +kernel
theorem dX3_perform_1 : decode cX3_perform 1 = .ok (.invokestatic 137, 3) := by decide +kernel
theorem dX3_perform_4 : decode cX3_perform 4 = .ok (.istore_n 2, 1) := by decide +kernel
theorem dX3_perform_5 : decode cX3_perform 5 = .ok (.iload_n 1, 1) := by decide +kernel
theorem dX3_perform_6 : decode cX3_perform 6 = .ok (.invokestatic 131, 3) := by decide +kernel
theorem dX3_perform_9 : decode cX3_perform 9 = .ok (.istore_n 3, 1) := by decide +kernel
theorem dX3_perform_10 : decode cX3_perform 10 = .ok (.aload_n 0, 1) := by decide +kernel
theorem dX3_perform_11 : decode cX3_perform 11 = .ok (.iload_n 3, 1) := by decide +kernel
theorem dX3_perform_12 : decode cX3_perform 12 = .ok (.invokevirtual 140, 3) := by decide +kernel
theorem dX3_perform_15 : decode cX3_perform 15 = .ok (.istore 4, 2) := by decide +kernel
theorem dX3_perform_17 : decode cX3_perform 17 = .ok (.aload_n 0, 1) := by decide +kernel
theorem dX3_perform_18 : decode cX3_perform 18 = .ok (.iload_n 1, 1) := by decide +kernel
theorem dX3_perform_19 : decode cX3_perform 19 = .ok (.invokevirtual 143, 3) := by decide +kernel
theorem dX3_perform_22 : decode cX3_perform 22 = .ok (.istore 5, 2) := by decide +kernel
theorem dX3_perform_24 : decode cX3_perform 24 = .ok (.aload_n 0, 1) := by decide +kernel
theorem dX3_perform_25 : decode cX3_perform 25 = .ok (.iload_n 2, 1) := by decide +kernel
theorem dX3_perform_26 : decode cX3_perform 26 = .ok (.iload 5, 2) := by decide +kernel
theorem dX3_perform_28 : decode cX3_perform 28 = .ok (.invokevirtual 146, 3) := by decide +kernel
theorem dX3_perform_31 : decode cX3_perform 31 = .ok (.istore 6, 2) := by decide +kernel
theorem dX3_perform_33 : decode cX3_perform 33 = .ok (.iload 6, 2) := by decide +kernel
theorem dX3_perform_35 : decode cX3_perform 35 = .ok (.ldc 44, 2) := by decide +kernel
theorem dX3_perform_37 : decode cX3_perform 37 = .ok (.iand, 1) := by decide +kernel
theorem dX3_perform_38 : decode cX3_perform 38 = .ok (.istore 7, 2) := by decide +kernel
theorem dX3_perform_40 : decode cX3_perform 40 = .ok (.aload_n 0, 1) := by decide +kernel
theorem dX3_perform_41 : decode cX3_perform 41 = .ok (.iload_n 1, 1) := by decide +kernel
theorem dX3_perform_42 : decode cX3_perform 42 = .ok (.invokestatic 134, 3) := by decide +kernel
theorem dX3_perform_45 : decode cX3_perform 45 = .ok (.iload 5, 2) := by decide +kernel
theorem dX3_perform_47 : decode cX3_perform 47 = .ok (.iload 4, 2) := by decide +kernel
theorem dX3_perform_49 : decode cX3_perform 49 = .ok (.invokevirtual 150, 3) := by decide +kernel
theorem dX3_perform_52 : decode cX3_perform 52 = .ok (.istore 8, 2) := by decide +kernel
theorem dX3_perform_54 : decode cX3_perform 54 = .ok (.iload_n 1, 1) := by decide +kernel
theorem dX3_perform_55 : decode cX3_perform 55 = .ok (.invokestatic 124, 3) := by decide +kernel
theorem dX3_perform_58 : decode cX3_perform 58 = .ok (.iconst 1, 1) := by decide +kernel
theorem dX3_perform_59 : decode cX3_perform 59 = .ok (.if_icmp .ne 21, 3) := by decide +kernel
theorem dX3_perform_62 : decode cX3_perform 62 = .ok (.iload_n 1, 1) := by decide +kernel
theorem dX3_perform_63 : decode cX3_perform 63 = .ok (.invokestatic 128, 3) := by decide +kernel
theorem dX3_perform_66 : decode cX3_perform 66 = .ok (.ifCond .ne 14, 3) := by decide +kernel
theorem dX3_perform_69 : decode cX3_perform 69 = .ok (.aload_n 0, 1) := by decide +kernel
theorem dX3_perform_70 : decode cX3_perform 70 = .ok (.getfield 9, 3) := by decide +kernel
theorem dX3_perform_73 : decode cX3_perform 73 = .ok (.iload_n 1, 1) := by decide +kernel
theorem dX3_perform_74 : decode cX3_perform 74 = .ok (.invokestatic 154, 3) := by decide +kernel
theorem dX3_perform_77 : decode cX3_perform 77 = .ok (.iload 4, 2) := by decide +kernel
theorem dX3_perform_79 : decode cX3_perform 79 = .ok (.iastore, 1) := by decide +kernel
theorem dX3_perform_80 : decode cX3_perform 80 = .ok (.iload_n 1, 1) := by decide +kernel
theorem dX3_perform_81 : decode cX3_perform 81 = .ok (.invokestatic 157, 3) := by decide +kernel
theorem dX3_perform_84 : decode cX3_perform 84 = .ok (.ifCond .eq 21, 3) := by decide +kernel
theorem dX3_perform_87 : decode cX3_perform 87 = .ok (.aload_n 0, 1) := by decide +kernel
theorem dX3_perform_88 : decode cX3_perform 88 = .ok (.iload_n 2, 1) := by decide +kernel
theorem dX3_perform_89 : decode cX3_perform 89 = .ok (.invokestatic 160, 3) := by decide +kernel
theorem dX3_perform_92 : decode cX3_perform 92 = .ok (.ifCond .eq 8, 3) := by decide +kernel
theorem dX3_perform_95 : decode cX3_perform 95 = .ok (.iload 7, 2) := by decide +kernel
theorem dX3_perform_97 : decode cX3_perform 97 = .ok (.goto 5, 3) := by decide +kernel
theorem dX3_perform_100 : decode cX3_perform 100 = .ok (.iload 5, 2) := by decide +kernel
theorem dX3_perform_102 : decode cX3_perform 102 = .ok (.putfield 69, 3) := by decide +kernel
theorem dX3_perform_105 : decode cX3_perform 105 = .ok (.iload_n 1, 1) := by decide +kernel
theorem dX3_perform_106 : decode cX3_perform 106 = .ok (.invokestatic 163, 3) := by decide +kernel
theorem dX3_perform_109 : decode cX3_perform 109 = .ok (.ifCond .eq 18, 3) := by decide +kernel
theorem dX3_perform_112 : decode cX3_perform 112 = .ok (.aload_n 0, 1) := by decide +kernel
theorem dX3_perform_113 : decode cX3_perform 113 = .ok (.iload 7, 2) := by decide +kernel
theorem dX3_perform_115 : decode cX3_perform 115 = .ok (.putfield 72, 3) := by decide +kernel
theorem dX3_perform_118 : decode cX3_perform 118 = .ok (.aload_n 0, 1) := by decide +kernel
theorem dX3_perform_119 : decode cX3_perform 119 = .ok (.iload 6, 2) := by decide +kernel
theorem dX3_perform_121 : decode cX3_perform 121 = .ok (.bipush 16, 2) := by decide +kernel
theorem dX3_perform_123 : decode cX3_perform 123 = .ok (.ishr, 1) := by decide +kernel
theorem dX3_perform_124 : decode cX3_perform 124 = .ok (.putfield 75, 3) := by decide +kernel
theorem dX3_perform_127 : decode cX3_perform 127 = .ok (.aload_n 0, 1) := by decide +kernel
theorem dX3_perform_128 : decode cX3_perform 128 = .ok (.iload_n 1, 1) := by decide +kernel
theorem dX3_perform_129 : decode cX3_perform 129 = .ok (.iload 5, 2) := by decide +kernel
theorem dX3_perform_131 : decode cX3_perform 131 = .ok (.iload 7, 2) := by decide +kernel
theorem dX3_perform_133 : decode cX3_perform 133 = .ok (.invokevirtual 166, 3) := by decide +kernel
theorem dX3_perform_136 : decode cX3_perform 136 = .ok (.iload_n 3, 1) := by decide +kernel
theorem dX3_perform_137 : decode cX3_perform 137 = .ok (.bipush 8, 2) := by decide +kernel
theorem dX3_perform_139 : decode cX3_perform 139 = .ok (.if_icmp .ne 12, 3) := by decide +kernel
theorem dX3_perform_142 : decode cX3_perform 142 = .ok (.aload_n 0, 1) := by decide +kernel
theorem dX3_perform_143 : decode cX3_perform 143 = .ok (.getfield 36, 3) := by decide +kernel
theorem dX3_perform_146 : decode cX3_perform 146 = .ok (.iload 5, 2) := by decide +kernel
theorem dX3_perform_148 : decode cX3_perform 148 = .ok (.invokevirtual 170, 3) := by decide +kernel
theorem dX3_perform_151 : decode cX3_perform 151 = .ok (.aload_n 0, 1) := by decide +kernel
theorem dX3_perform_152 : decode cX3_perform 152 = .ok (.getfield 29, 3) := by decide +kernel
theorem dX3_perform_155 : decode cX3_perform 155 = .ok (.iload_n 1, 1) := by decide +kernel
theorem dX3_perform_156 : decode cX3_perform 156 = .ok (.invokestatic 173, 3) := by decide +kernel
theorem dX3_perform_159 : decode cX3_perform 159 = .ok (.iload 8, 2) := by decide +kernel
theorem dX3_perform_161 : decode cX3_perform 161 = .ok (.iload_n 3, 1) := by decide +kernel
theorem dX3_perform_162 : decode cX3_perform 162 = .ok (.invokevirtual 176, 3) := by decide +kernel
theorem dX3_perform_165 : decode cX3_perform 165 = .ok (.return_, 1) := by decide +kernel
theorem dX3_useMemory_0 : decode cX3_useMemory 0 = .ok (.iload_n 1, 1) := by decide +kernel
theorem dX3_useMemory_1 : decode cX3_useMemory 1 = .ok (.invokestatic 134, 3) := by decide +kernel
theorem dX3_useMemory_4 : decode cX3_useMemory 4 = .ok (.bipush 6, 2) := by decide +kernel
theorem dX3_useMemory_6 : decode cX3_useMemory 6 = .ok (.if_icmp .ne 11, 3) := by decide +kernel
theorem dX3_useMemory_9 : decode cX3_useMemory 9 = .ok (.aload_n 0, 1) := by decide +kernel
theorem dX3_useMemory_10 : decode cX3_useMemory 10 = .ok (.getfield 22, 3) := by decide +kernel
theorem dX3_useMemory_13 : decode cX3_useMemory 13 = .ok (.iload_n 2, 1) := by decide +kernel
theorem dX3_useMemory_14 : decode cX3_useMemory 14 = .ok (.invokevirtual 179, 3) := by decide +kernel
theorem dX3_useMemory_17 : decode cX3_useMemory 17 = .ok (.iload_n 1, 1) := by decide +kernel
theorem dX3_useMemory_18 : decode cX3_useMemory 18 = .ok (.invokestatic 131, 3) := by decide +kernel
theorem dX3_useMemory_21 : decode cX3_useMemory 21 = .ok (.iconst 1, 1) := by decide +kernel
theorem dX3_useMemory_22 : decode cX3_useMemory 22 = .ok (.if_icmp .ne 11, 3) := by decide +kernel
theorem dX3_useMemory_25 : decode cX3_useMemory 25 = .ok (.aload_n 0, 1) := by decide +kernel
theorem dX3_useMemory_26 : decode cX3_useMemory 26 = .ok (.getfield 22, 3) := by decide +kernel
theorem dX3_useMemory_29 : decode cX3_useMemory 29 = .ok (.iload_n 3, 1) := by decide +kernel
theorem dX3_useMemory_30 : decode cX3_useMemory 30 = .ok (.invokevirtual 182, 3) := by decide +kernel
theorem dX3_useMemory_33 : decode cX3_useMemory 33 = .ok (.return_, 1) := by decide +kernel
theorem dX3_shiftedL_0 : decode cX3_shiftedL 0 = .ok (.iload_n 1, 1) := by decide +kernel
theorem dX3_shiftedL_1 : decode cX3_shiftedL 1 = .ok (.tableswitch 63 4 6 #[27, 37, 44], 27) := by decide +kernel
theorem dX3_shiftedL_28 : decode cX3_shiftedL 28 = .ok (.aload_n 0, 1) := by decide +kernel
theorem dX3_shiftedL_29 : decode cX3_shiftedL 29 = .ok (.getfield 72, 3) := by decide +kernel
theorem dX3_shiftedL_32 : decode cX3_shiftedL 32 = .ok (.iconst 1, 1) := by decide +kernel
theorem dX3_shiftedL_33 : decode cX3_shiftedL 33 = .ok (.ishl, 1) := by decide +kernel
theorem dX3_shiftedL_34 : decode cX3_shiftedL 34 = .ok (.ldc 44, 2) := by decide +kernel
theorem dX3_shiftedL_36 : decode cX3_shiftedL 36 = .ok (.iand, 1) := by decide +kernel
theorem dX3_shiftedL_37 : decode cX3_shiftedL 37 = .ok (.ireturn, 1) := by decide +kernel
theorem dX3_shiftedL_38 : decode cX3_shiftedL 38 = .ok (.aload_n 0, 1) := by decide +kernel
theorem dX3_shiftedL_39 : decode cX3_shiftedL 39 = .ok (.getfield 72, 3) := by decide +kernel
theorem dX3_shiftedL_42 : decode cX3_shiftedL 42 = .ok (.iconst 1, 1) := by decide +kernel
theorem dX3_shiftedL_43 : decode cX3_shiftedL 43 = .ok (.ishr, 1) := by decide +kernel
theorem dX3_shiftedL_44 : decode cX3_shiftedL 44 = .ok (.ireturn, 1) := by decide +kernel
theorem dX3_shiftedL_45 : decode cX3_shiftedL 45 = .ok (.aload_n 0, 1) := by decide +kernel
theorem dX3_shiftedL_46 : decode cX3_shiftedL 46 = .ok (.getfield 72, 3) := by decide +kernel
theorem dX3_shiftedL_49 : decode cX3_shiftedL 49 = .ok (.bipush 8, 2) := by decide +kernel
theorem dX3_shiftedL_51 : decode cX3_shiftedL 51 = .ok (.ishl, 1) := by decide +kernel
theorem dX3_shiftedL_52 : decode cX3_shiftedL 52 = .ok (.aload_n 0, 1) := by decide +kernel
theorem dX3_shiftedL_53 : decode cX3_shiftedL 53 = .ok (.getfield 72, 3) := by decide +kernel
theorem dX3_shiftedL_56 : decode cX3_shiftedL 56 = .ok (.bipush 8, 2) := by decide +kernel
theorem dX3_shiftedL_58 : decode cX3_shiftedL 58 = .ok (.ishr, 1) := by decide +kernel
theorem dX3_shiftedL_59 : decode cX3_shiftedL 59 = .ok (.ior, 1) := by decide +kernel
theorem dX3_shiftedL_60 : decode cX3_shiftedL 60 = .ok (.ldc 44, 2) := by decide +kernel
theorem dX3_shiftedL_62 : decode cX3_shiftedL 62 = .ok (.iand, 1) := by decide +kernel
theorem dX3_shiftedL_63 : decode cX3_shiftedL 63 = .ok (.ireturn, 1) := by decide +kernel
theorem dX3_shiftedL_64 : decode cX3_shiftedL 64 = .ok (.aload_n 0, 1) := by decide +kernel
theorem dX3_shiftedL_65 : decode cX3_shiftedL 65 = .ok (.getfield 72, 3) := by decide +kernel
theorem dX3_shiftedL_68 : decode cX3_shiftedL 68 = .ok (.ireturn, 1) := by decide +kernel
theorem dX3_busOf_0 : decode cX3_busOf 0 = .ok (.iload_n 1, 1) := by decide +kernel
theorem dX3_busOf_1 : decode cX3_busOf 1 = .ok (.invokestatic 154, 3) := by decide +kernel
theorem dX3_busOf_4 : decode cX3_busOf 4 = .ok (.istore_n 2, 1) := by decide +kernel
theorem dX3_busOf_5 : decode cX3_busOf 5 = .ok (.iload_n 1, 1) := by decide +kernel
theorem dX3_busOf_6 : decode cX3_busOf 6 = .ok (.invokestatic 124, 3) := by decide +kernel
theorem dX3_busOf_9 : decode cX3_busOf 9 = .ok (.istore_n 3, 1) := by decide +kernel
theorem dX3_busOf_10 : decode cX3_busOf 10 = .ok (.iload_n 1, 1) := by decide +kernel
theorem dX3_busOf_11 : decode cX3_busOf 11 = .ok (.invokestatic 128, 3) := by decide +kernel
theorem dX3_busOf_14 : decode cX3_busOf 14 = .ok (.ifCond .eq 15, 3) := by decide +kernel
theorem dX3_busOf_17 : decode cX3_busOf 17 = .ok (.aload_n 0, 1) := by decide +kernel
theorem dX3_busOf_18 : decode cX3_busOf 18 = .ok (.getfield 13, 3) := by decide +kernel
theorem dX3_busOf_21 : decode cX3_busOf 21 = .ok (.bipush 8, 2) := by decide +kernel
theorem dX3_busOf_23 : decode cX3_busOf 23 = .ok (.iload_n 2, 1) := by decide +kernel
theorem dX3_busOf_24 : decode cX3_busOf 24 = .ok (.imul, 1) := by decide +kernel
theorem dX3_busOf_25 : decode cX3_busOf 25 = .ok (.iload_n 3, 1) := by decide +kernel
theorem dX3_busOf_26 : decode cX3_busOf 26 = .ok (.iadd, 1) := by decide +kernel
theorem dX3_busOf_27 : decode cX3_busOf 27 = .ok (.iaload, 1) := by decide +kernel
theorem dX3_busOf_28 : decode cX3_busOf 28 = .ok (.ireturn, 1) := by decide +kernel
theorem dX3_busOf_29 : decode cX3_busOf 29 = .ok (.iload_n 3, 1) := by decide +kernel
theorem dX3_busOf_30 : decode cX3_busOf 30 = .ok (.tableswitch 80 0 6 #[42, 49, 51, 54, 59, 67, 75], 42) := by decide +kernel
theorem dX3_busOf_72 : decode cX3_busOf 72 = .ok (.aload_n 0, 1) := by decide +kernel
theorem dX3_busOf_73 : decode cX3_busOf 73 = .ok (.getfield 9, 3) := by decide +kernel
theorem dX3_busOf_76 : decode cX3_busOf 76 = .ok (.iload_n 2, 1) := by decide +kernel
theorem dX3_busOf_77 : decode cX3_busOf 77 = .ok (.iaload, 1) := by decide +kernel
theorem dX3_busOf_78 : decode cX3_busOf 78 = .ok (.ireturn, 1) := by decide +kernel
theorem dX3_busOf_79 : decode cX3_busOf 79 = .ok (.iconst 0, 1) := by decide +kernel
theorem dX3_busOf_80 : decode cX3_busOf 80 = .ok (.ireturn, 1) := by decide +kernel
theorem dX3_busOf_81 : decode cX3_busOf 81 = .ok (.ldc 44, 2) := by decide +kernel
theorem dX3_busOf_83 : decode cX3_busOf 83 = .ok (.ireturn, 1) := by decide +kernel
theorem dX3_busOf_84 : decode cX3_busOf 84 = .ok (.aload_n 0, 1) := by decide +kernel
theorem dX3_busOf_85 : decode cX3_busOf 85 = .ok (.getfield 48, 3) := by decide +kernel
theorem dX3_busOf_88 : decode cX3_busOf 88 = .ok (.ireturn, 1) := by decide +kernel
theorem dX3_busOf_89 : decode cX3_busOf 89 = .ok (.aload_n 0, 1) := by decide +kernel
theorem dX3_busOf_90 : decode cX3_busOf 90 = .ok (.getfield 29, 3) := by decide +kernel
theorem dX3_busOf_93 : decode cX3_busOf 93 = .ok (.getfield 92, 3) := by decide +kernel
theorem dX3_busOf_96 : decode cX3_busOf 96 = .ok (.ireturn, 1) := by decide +kernel
theorem dX3_busOf_97 : decode cX3_busOf 97 = .ok (.aload_n 0, 1) := by decide +kernel
theorem dX3_busOf_98 : decode cX3_busOf 98 = .ok (.getfield 22, 3) := by decide +kernel
theorem dX3_busOf_101 : decode cX3_busOf 101 = .ok (.invokevirtual 185, 3) := by decide +kernel
theorem dX3_busOf_104 : decode cX3_busOf 104 = .ok (.ireturn, 1) := by decide +kernel
theorem dX3_busOf_105 : decode cX3_busOf 105 = .ok (.aload_n 0, 1) := by decide +kernel
theorem dX3_busOf_106 : decode cX3_busOf 106 = .ok (.getfield 72, 3) := by decide +kernel
theorem dX3_busOf_109 : decode cX3_busOf 109 = .ok (.ireturn, 1) := by decide +kernel
theorem dX3_busOf_110 : decode cX3_busOf 110 = .ok (.aload_n 0, 1) := by decide +kernel
theorem dX3_busOf_111 : decode cX3_busOf 111 = .ok (.getfield 22, 3) := by decide +kernel
theorem dX3_busOf_114 : decode cX3_busOf 114 = .ok (.getfield 78, 3) := by decide +kernel
theorem dX3_busOf_117 : decode cX3_busOf 117 = .ok (.ireturn, 1) := by decide +kernel
theorem dX3_sumOf_0 : decode cX3_sumOf 0 = .ok (.aload_n 0, 1) := by decide +kernel
theorem dX3_sumOf_1 : decode cX3_sumOf 1 = .ok (.getfield 69, 3) := by decide +kernel
theorem dX3_sumOf_4 : decode cX3_sumOf 4 = .ok (.iconst (-1), 1) := by decide +kernel
theorem dX3_sumOf_5 : decode cX3_sumOf 5 = .ok (.ixor, 1) := by decide +kernel
theorem dX3_sumOf_6 : decode cX3_sumOf 6 = .ok (.ldc 44, 2) := by decide +kernel
theorem dX3_sumOf_8 : decode cX3_sumOf 8 = .ok (.iand, 1) := by decide +kernel
theorem dX3_sumOf_9 : decode cX3_sumOf 9 = .ok (.istore_n 3, 1) := by decide +kernel
theorem dX3_sumOf_10 : decode cX3_sumOf 10 = .ok (.iload_n 1, 1) := by decide +kernel
theorem dX3_sumOf_11 : decode cX3_sumOf 11 = .ok (.tableswitch 143 0 13 #[69, 71, 76, 83, 90, 97, 101, 106, 113, 119, 123, 132, 83, 139], 69) := by decide +kernel
theorem dX3_sumOf_80 : decode cX3_sumOf 80 = .ok (.iload_n 2, 1) := by decide +kernel
theorem dX3_sumOf_81 : decode cX3_sumOf 81 = .ok (.ireturn, 1) := by decide +kernel
theorem dX3_sumOf_82 : decode cX3_sumOf 82 = .ok (.aload_n 0, 1) := by decide +kernel
theorem dX3_sumOf_83 : decode cX3_sumOf 83 = .ok (.getfield 69, 3) := by decide +kernel
theorem dX3_sumOf_86 : decode cX3_sumOf 86 = .ok (.ireturn, 1) := by decide +kernel
theorem dX3_sumOf_87 : decode cX3_sumOf 87 = .ok (.iload_n 2, 1) := by decide +kernel
theorem dX3_sumOf_88 : decode cX3_sumOf 88 = .ok (.aload_n 0, 1) := by decide +kernel
theorem dX3_sumOf_89 : decode cX3_sumOf 89 = .ok (.getfield 69, 3) := by decide +kernel
theorem dX3_sumOf_92 : decode cX3_sumOf 92 = .ok (.ior, 1) := by decide +kernel
theorem dX3_sumOf_93 : decode cX3_sumOf 93 = .ok (.ireturn, 1) := by decide +kernel
theorem dX3_sumOf_94 : decode cX3_sumOf 94 = .ok (.iload_n 2, 1) := by decide +kernel
theorem dX3_sumOf_95 : decode cX3_sumOf 95 = .ok (.aload_n 0, 1) := by decide +kernel
theorem dX3_sumOf_96 : decode cX3_sumOf 96 = .ok (.getfield 69, 3) := by decide +kernel
theorem dX3_sumOf_99 : decode cX3_sumOf 99 = .ok (.iand, 1) := by decide +kernel
theorem dX3_sumOf_100 : decode cX3_sumOf 100 = .ok (.ireturn, 1) := by decide +kernel
theorem dX3_sumOf_101 : decode cX3_sumOf 101 = .ok (.iload_n 2, 1) := by decide +kernel
theorem dX3_sumOf_102 : decode cX3_sumOf 102 = .ok (.aload_n 0, 1) := by decide +kernel
theorem dX3_sumOf_103 : decode cX3_sumOf 103 = .ok (.getfield 69, 3) := by decide +kernel
theorem dX3_sumOf_106 : decode cX3_sumOf 106 = .ok (.ixor, 1) := by decide +kernel
theorem dX3_sumOf_107 : decode cX3_sumOf 107 = .ok (.ireturn, 1) := by decide +kernel
theorem dX3_sumOf_108 : decode cX3_sumOf 108 = .ok (.iload_n 2, 1) := by decide +kernel
theorem dX3_sumOf_109 : decode cX3_sumOf 109 = .ok (.iconst 1, 1) := by decide +kernel
theorem dX3_sumOf_110 : decode cX3_sumOf 110 = .ok (.iadd, 1) := by decide +kernel
theorem dX3_sumOf_111 : decode cX3_sumOf 111 = .ok (.ireturn, 1) := by decide +kernel
theorem dX3_sumOf_112 : decode cX3_sumOf 112 = .ok (.iload_n 2, 1) := by decide +kernel
theorem dX3_sumOf_113 : decode cX3_sumOf 113 = .ok (.ldc 44, 2) := by decide +kernel
theorem dX3_sumOf_115 : decode cX3_sumOf 115 = .ok (.iadd, 1) := by decide +kernel
theorem dX3_sumOf_116 : decode cX3_sumOf 116 = .ok (.ireturn, 1) := by decide +kernel
theorem dX3_sumOf_117 : decode cX3_sumOf 117 = .ok (.iload_n 2, 1) := by decide +kernel
theorem dX3_sumOf_118 : decode cX3_sumOf 118 = .ok (.aload_n 0, 1) := by decide +kernel
theorem dX3_sumOf_119 : decode cX3_sumOf 119 = .ok (.getfield 69, 3) := by decide +kernel
theorem dX3_sumOf_122 : decode cX3_sumOf 122 = .ok (.iadd, 1) := by decide +kernel
theorem dX3_sumOf_123 : decode cX3_sumOf 123 = .ok (.ireturn, 1) := by decide +kernel
theorem dX3_sumOf_124 : decode cX3_sumOf 124 = .ok (.iload_n 2, 1) := by decide +kernel
theorem dX3_sumOf_125 : decode cX3_sumOf 125 = .ok (.iload_n 3, 1) := by decide +kernel
theorem dX3_sumOf_126 : decode cX3_sumOf 126 = .ok (.iadd, 1) := by decide +kernel
theorem dX3_sumOf_127 : decode cX3_sumOf 127 = .ok (.iconst 1, 1) := by decide +kernel
theorem dX3_sumOf_128 : decode cX3_sumOf 128 = .ok (.iadd, 1) := by decide +kernel
theorem dX3_sumOf_129 : decode cX3_sumOf 129 = .ok (.ireturn, 1) := by decide +kernel
theorem dX3_sumOf_130 : decode cX3_sumOf 130 = .ok (.iload_n 2, 1) := by decide +kernel
theorem dX3_sumOf_131 : decode cX3_sumOf 131 = .ok (.iload_n 3, 1) := by decide +kernel
theorem dX3_sumOf_132 : decode cX3_sumOf 132 = .ok (.iadd, 1) := by decide +kernel
theorem dX3_sumOf_133 : decode cX3_sumOf 133 = .ok (.ireturn, 1) := by decide +kernel
theorem dX3_sumOf_134 : decode cX3_sumOf 134 = .ok (.iload_n 2, 1) := by decide +kernel
theorem dX3_sumOf_135 : decode cX3_sumOf 135 = .ok (.aload_n 0, 1) := by decide +kernel
theorem dX3_sumOf_136 : decode cX3_sumOf 136 = .ok (.getfield 69, 3) := by decide +kernel
theorem dX3_sumOf_139 : decode cX3_sumOf 139 = .ok (.iadd, 1) := by decide +kernel
theorem dX3_sumOf_140 : decode cX3_sumOf 140 = .ok (.iconst 1, 1) := by decide +kernel
theorem dX3_sumOf_141 : decode cX3_sumOf 141 = .ok (.iadd, 1) := by decide +kernel
theorem dX3_sumOf_142 : decode cX3_sumOf 142 = .ok (.ireturn, 1) := by decide +kernel
theorem dX3_sumOf_143 : decode cX3_sumOf 143 = .ok (.iload_n 2, 1) := by decide +kernel
theorem dX3_sumOf_144 : decode cX3_sumOf 144 = .ok (.aload_n 0, 1) := by decide +kernel
theorem dX3_sumOf_145 : decode cX3_sumOf 145 = .ok (.getfield 75, 3) := by decide +kernel
theorem dX3_sumOf_148 : decode cX3_sumOf 148 = .ok (.iadd, 1) := by decide +kernel
theorem dX3_sumOf_149 : decode cX3_sumOf 149 = .ok (.ireturn, 1) := by decide +kernel
theorem dX3_sumOf_150 : decode cX3_sumOf 150 = .ok (.iload_n 2, 1) := by decide +kernel
theorem dX3_sumOf_151 : decode cX3_sumOf 151 = .ok (.iload_n 3, 1) := by decide +kernel
theorem dX3_sumOf_152 : decode cX3_sumOf 152 = .ok (.iand, 1) := by decide +kernel
theorem dX3_sumOf_153 : decode cX3_sumOf 153 = .ok (.ireturn, 1) := by decide +kernel
theorem dX3_sumOf_154 : decode cX3_sumOf 154 = .ok (.iconst 0, 1) := by decide +kernel
theorem dX3_sumOf_155 : decode cX3_sumOf 155 = .ok (.ireturn, 1) := by decide +kernel
theorem dX3_givesAluToT_0 : decode cX3_givesAluToT 0 = .ok (.iload_n 0, 1) := by decide +kernel
theorem dX3_givesAluToT_1 : decode cX3_givesAluToT 1 = .ok (.tableswitch 69 0 12 #[67, 69, 67, 69, 69, 67, 67, 69, 69, 69, 67, 67, 67], 67) := by decide +kernel
theorem dX3_givesAluToT_68 : decode cX3_givesAluToT 68 = .ok (.iconst 1, 1) := by decide +kernel
theorem dX3_givesAluToT_69 : decode cX3_givesAluToT 69 = .ok (.ireturn, 1) := by decide +kernel
theorem dX3_givesAluToT_70 : decode cX3_givesAluToT 70 = .ok (.iconst 0, 1) := by decide +kernel
theorem dX3_givesAluToT_71 : decode cX3_givesAluToT 71 = .ok (.ireturn, 1) := by decide +kernel
theorem dX3_changeOf_0 : decode cX3_changeOf 0 = .ok (.iload_n 1, 1) := by decide +kernel
theorem dX3_changeOf_1 : decode cX3_changeOf 1 = .ok (.tableswitch 90 1 8 #[47, 57, 62, 72, 78, 90, 90, 83], 47) := by decide +kernel
theorem dX3_changeOf_48 : decode cX3_changeOf 48 = .ok (.iload_n 2, 1) := by decide +kernel
theorem dX3_changeOf_49 : decode cX3_changeOf 49 = .ok (.ifCond .ne 7, 3) := by decide +kernel
theorem dX3_changeOf_52 : decode cX3_changeOf 52 = .ok (.iconst 1, 1) := by decide +kernel
theorem dX3_changeOf_53 : decode cX3_changeOf 53 = .ok (.goto 4, 3) := by decide +kernel
theorem dX3_changeOf_56 : decode cX3_changeOf 56 = .ok (.iconst 0, 1) := by decide +kernel
theorem dX3_changeOf_57 : decode cX3_changeOf 57 = .ok (.ireturn, 1) := by decide +kernel
theorem dX3_changeOf_58 : decode cX3_changeOf 58 = .ok (.iload_n 3, 1) := by decide +kernel
theorem dX3_changeOf_59 : decode cX3_changeOf 59 = .ok (.bipush 15, 2) := by decide +kernel
theorem dX3_changeOf_61 : decode cX3_changeOf 61 = .ok (.ishr, 1) := by decide +kernel
theorem dX3_changeOf_62 : decode cX3_changeOf 62 = .ok (.ireturn, 1) := by decide +kernel
theorem dX3_changeOf_63 : decode cX3_changeOf 63 = .ok (.iload_n 3, 1) := by decide +kernel
theorem dX3_changeOf_64 : decode cX3_changeOf 64 = .ok (.ifCond .ne 7, 3) := by decide +kernel
theorem dX3_changeOf_67 : decode cX3_changeOf 67 = .ok (.iconst 1, 1) := by decide +kernel
theorem dX3_changeOf_68 : decode cX3_changeOf 68 = .ok (.goto 4, 3) := by decide +kernel
theorem dX3_changeOf_71 : decode cX3_changeOf 71 = .ok (.iconst 0, 1) := by decide +kernel
theorem dX3_changeOf_72 : decode cX3_changeOf 72 = .ok (.ireturn, 1) := by decide +kernel
theorem dX3_changeOf_73 : decode cX3_changeOf 73 = .ok (.iload_n 2, 1) := by decide +kernel
theorem dX3_changeOf_74 : decode cX3_changeOf 74 = .ok (.sipush 1023, 3) := by decide +kernel
theorem dX3_changeOf_77 : decode cX3_changeOf 77 = .ok (.iand, 1) := by decide +kernel
theorem dX3_changeOf_78 : decode cX3_changeOf 78 = .ok (.ireturn, 1) := by decide +kernel
theorem dX3_changeOf_79 : decode cX3_changeOf 79 = .ok (.aload_n 0, 1) := by decide +kernel
theorem dX3_changeOf_80 : decode cX3_changeOf 80 = .ok (.getfield 75, 3) := by decide +kernel
theorem dX3_changeOf_83 : decode cX3_changeOf 83 = .ok (.ireturn, 1) := by decide +kernel
theorem dX3_changeOf_84 : decode cX3_changeOf 84 = .ok (.aload_n 0, 1) := by decide +kernel
theorem dX3_changeOf_85 : decode cX3_changeOf 85 = .ok (.getfield 48, 3) := by decide +kernel
theorem dX3_changeOf_88 : decode cX3_changeOf 88 = .ok (.iconst 1, 1) := by decide +kernel
theorem dX3_changeOf_89 : decode cX3_changeOf 89 = .ok (.iand, 1) := by decide +kernel
theorem dX3_changeOf_90 : decode cX3_changeOf 90 = .ok (.ireturn, 1) := by decide +kernel
theorem dX3_changeOf_91 : decode cX3_changeOf 91 = .ok (.iconst 0, 1) := by decide +kernel
theorem dX3_changeOf_92 : decode cX3_changeOf 92 = .ok (.ireturn, 1) := by decide +kernel
theorem dX3_rselOf_0 : decode cX3_rselOf 0 = .ok (.iload_n 0, 1) := by decide +kernel
theorem dX3_rselOf_1 : decode cX3_rselOf 1 = .ok (.bipush 27, 2) := by decide +kernel
theorem dX3_rselOf_3 : decode cX3_rselOf 3 = .ok (.iushr, 1) := by decide +kernel
theorem dX3_rselOf_4 : decode cX3_rselOf 4 = .ok (.ireturn, 1) := by decide +kernel
theorem dX3_alufOf_0 : decode cX3_alufOf 0 = .ok (.iload_n 0, 1) := by decide +kernel
theorem dX3_alufOf_1 : decode cX3_alufOf 1 = .ok (.bipush 23, 2) := by decide +kernel
theorem dX3_alufOf_3 : decode cX3_alufOf 3 = .ok (.ishr, 1) := by decide +kernel
theorem dX3_alufOf_4 : decode cX3_alufOf 4 = .ok (.bipush 15, 2) := by decide +kernel
theorem dX3_alufOf_6 : decode cX3_alufOf 6 = .ok (.iand, 1) := by decide +kernel
theorem dX3_alufOf_7 : decode cX3_alufOf 7 = .ok (.ireturn, 1) := by decide +kernel
theorem dX3_bsOf_0 : decode cX3_bsOf 0 = .ok (.iload_n 0, 1) := by decide +kernel
theorem dX3_bsOf_1 : decode cX3_bsOf 1 = .ok (.bipush 20, 2) := by decide +kernel
theorem dX3_bsOf_3 : decode cX3_bsOf 3 = .ok (.ishr, 1) := by decide +kernel
theorem dX3_bsOf_4 : decode cX3_bsOf 4 = .ok (.bipush 7, 2) := by decide +kernel
theorem dX3_bsOf_6 : decode cX3_bsOf 6 = .ok (.iand, 1) := by decide +kernel
theorem dX3_bsOf_7 : decode cX3_bsOf 7 = .ok (.ireturn, 1) := by decide +kernel
theorem dX3_f1Of_0 : decode cX3_f1Of 0 = .ok (.iload_n 0, 1) := by decide +kernel
theorem dX3_f1Of_1 : decode cX3_f1Of 1 = .ok (.bipush 16, 2) := by decide +kernel
theorem dX3_f1Of_3 : decode cX3_f1Of 3 = .ok (.ishr, 1) := by decide +kernel
theorem dX3_f1Of_4 : decode cX3_f1Of 4 = .ok (.bipush 15, 2) := by decide +kernel
theorem dX3_f1Of_6 : decode cX3_f1Of 6 = .ok (.iand, 1) := by decide +kernel
theorem dX3_f1Of_7 : decode cX3_f1Of 7 = .ok (.ireturn, 1) := by decide +kernel
theorem dX3_f2Of_0 : decode cX3_f2Of 0 = .ok (.iload_n 0, 1) := by decide +kernel
theorem dX3_f2Of_1 : decode cX3_f2Of 1 = .ok (.bipush 12, 2) := by decide +kernel
theorem dX3_f2Of_3 : decode cX3_f2Of 3 = .ok (.ishr, 1) := by decide +kernel
theorem dX3_f2Of_4 : decode cX3_f2Of 4 = .ok (.bipush 15, 2) := by decide +kernel
theorem dX3_f2Of_6 : decode cX3_f2Of 6 = .ok (.iand, 1) := by decide +kernel
theorem dX3_f2Of_7 : decode cX3_f2Of 7 = .ok (.ireturn, 1) := by decide +kernel
theorem dX3_loadsT_0 : decode cX3_loadsT 0 = .ok (.iload_n 0, 1) := by decide +kernel
theorem dX3_loadsT_1 : decode cX3_loadsT 1 = .ok (.bipush 11, 2) := by decide +kernel
theorem dX3_loadsT_3 : decode cX3_loadsT 3 = .ok (.ishr, 1) := by decide +kernel
theorem dX3_loadsT_4 : decode cX3_loadsT 4 = .ok (.iconst 1, 1) := by decide +kernel
theorem dX3_loadsT_5 : decode cX3_loadsT 5 = .ok (.iand, 1) := by decide +kernel
theorem dX3_loadsT_6 : decode cX3_loadsT 6 = .ok (.iconst 1, 1) := by decide +kernel
theorem dX3_loadsT_7 : decode cX3_loadsT 7 = .ok (.if_icmp .ne 7, 3) := by decide +kernel
theorem dX3_loadsT_10 : decode cX3_loadsT 10 = .ok (.iconst 1, 1) := by decide +kernel
theorem dX3_loadsT_11 : decode cX3_loadsT 11 = .ok (.goto 4, 3) := by decide +kernel
theorem dX3_loadsT_14 : decode cX3_loadsT 14 = .ok (.iconst 0, 1) := by decide +kernel
theorem dX3_loadsT_15 : decode cX3_loadsT 15 = .ok (.ireturn, 1) := by decide +kernel
theorem dX3_loadsL_0 : decode cX3_loadsL 0 = .ok (.iload_n 0, 1) := by decide +kernel
theorem dX3_loadsL_1 : decode cX3_loadsL 1 = .ok (.bipush 10, 2) := by decide +kernel
theorem dX3_loadsL_3 : decode cX3_loadsL 3 = .ok (.ishr, 1) := by decide +kernel
theorem dX3_loadsL_4 : decode cX3_loadsL 4 = .ok (.iconst 1, 1) := by decide +kernel
theorem dX3_loadsL_5 : decode cX3_loadsL 5 = .ok (.iand, 1) := by decide +kernel
theorem dX3_loadsL_6 : decode cX3_loadsL 6 = .ok (.iconst 1, 1) := by decide +kernel
theorem dX3_loadsL_7 : decode cX3_loadsL 7 = .ok (.if_icmp .ne 7, 3) := by decide +kernel
theorem dX3_loadsL_10 : decode cX3_loadsL 10 = .ok (.iconst 1, 1) := by decide +kernel
theorem dX3_loadsL_11 : decode cX3_loadsL 11 = .ok (.goto 4, 3) := by decide +kernel
theorem dX3_loadsL_14 : decode cX3_loadsL 14 = .ok (.iconst 0, 1) := by decide +kernel
theorem dX3_loadsL_15 : decode cX3_loadsL 15 = .ok (.ireturn, 1) := by decide +kernel
theorem dX3_nextOf_0 : decode cX3_nextOf 0 = .ok (.iload_n 0, 1) := by decide +kernel
theorem dX3_nextOf_1 : decode cX3_nextOf 1 = .ok (.sipush 1023, 3) := by decide +kernel
theorem dX3_nextOf_4 : decode cX3_nextOf 4 = .ok (.iand, 1) := by decide +kernel
theorem dX3_nextOf_5 : decode cX3_nextOf 5 = .ok (.ireturn, 1) := by decide +kernel
theorem dX3_hasConstant_0 : decode cX3_hasConstant 0 = .ok (.iload_n 0, 1) := by decide +kernel
theorem dX3_hasConstant_1 : decode cX3_hasConstant 1 = .ok (.invokestatic 131, 3) := by decide +kernel
theorem dX3_hasConstant_4 : decode cX3_hasConstant 4 = .ok (.bipush 7, 2) := by decide +kernel
theorem dX3_hasConstant_6 : decode cX3_hasConstant 6 = .ok (.if_icmp .eq 12, 3) := by decide +kernel
theorem dX3_hasConstant_9 : decode cX3_hasConstant 9 = .ok (.iload_n 0, 1) := by decide +kernel
theorem dX3_hasConstant_10 : decode cX3_hasConstant 10 = .ok (.invokestatic 134, 3) := by decide +kernel
theorem dX3_hasConstant_13 : decode cX3_hasConstant 13 = .ok (.bipush 7, 2) := by decide +kernel
theorem dX3_hasConstant_15 : decode cX3_hasConstant 15 = .ok (.if_icmp .ne 7, 3) := by decide +kernel
theorem dX3_hasConstant_18 : decode cX3_hasConstant 18 = .ok (.iconst 1, 1) := by decide +kernel
theorem dX3_hasConstant_19 : decode cX3_hasConstant 19 = .ok (.goto 4, 3) := by decide +kernel
theorem dX3_hasConstant_22 : decode cX3_hasConstant 22 = .ok (.iconst 0, 1) := by decide +kernel
theorem dX3_hasConstant_23 : decode cX3_hasConstant 23 = .ok (.ireturn, 1) := by decide +kernel
end
end
section
section
theorem dX4_init_0 : decode cX4_init 0 = .ok (.aload_n 0, 1) := by decide +kernel
theorem dX4_init_1 : decode cX4_init 1 = .ok (.invokespecial 1, 3) := by decide +kernel
theorem dX4_init_4 : decode cX4_init 4 = .ok (.aload_n 0, 1) := by decide +kernel
theorem dX4_init_5 : decode cX4_init 5 = .ok (.sipush 1024, 3) := by decide +kernel
theorem dX4_init_8 : decode cX4_init 8 = .ok (.newarray .int, 2) := by decide +kernel
theorem dX4_init_10 : decode cX4_init 10 = .ok (.putfield 7, 3) := by decide +kernel
theorem dX4_init_13 : decode cX4_init 13 = .ok (.aload_n 0, 1) := by decide +kernel
theorem dX4_init_14 : decode cX4_init 14 = .ok (.sipush 256, 3) := by decide +kernel
theorem dX4_init_17 : decode cX4_init 17 = .ok (.newarray .int, 2) := by decide +kernel
theorem dX4_init_19 : decode cX4_init 19 = .ok (.putfield 13, 3) := by decide +kernel
theorem dX4_init_22 : decode cX4_init 22 = .ok (.aload_n 0, 1) := by decide +kernel
theorem dX4_init_23 : decode cX4_init 23 = .ok (.sipush 1024, 3) := by decide +kernel
theorem dX4_init_26 : decode cX4_init 26 = .ok (.newarray .int, 2) := by decide +kernel
theorem dX4_init_28 : decode cX4_init 28 = .ok (.putfield 16, 3) := by decide +kernel
theorem dX4_init_31 : decode cX4_init 31 = .ok (.aload_n 0, 1) := by decide +kernel
theorem dX4_init_32 : decode cX4_init 32 = .ok (.bipush 32, 2) := by decide +kernel
theorem dX4_init_34 : decode cX4_init 34 = .ok (.newarray .int, 2) := by decide +kernel
theorem dX4_init_36 : decode cX4_init 36 = .ok (.putfield 19, 3) := by decide +kernel
theorem dX4_init_39 : decode cX4_init 39 = .ok (.aload_n 0, 1) := by decide +kernel
theorem dX4_init_40 : decode cX4_init 40 = .ok (.bipush 16, 2) := by decide +kernel
theorem dX4_init_42 : decode cX4_init 42 = .ok (.newarray .int, 2) := by decide +kernel
theorem dX4_init_44 : decode cX4_init 44 = .ok (.putfield 22, 3) := by decide +kernel
theorem dX4_init_47 : decode cX4_init 47 = .ok (.aload_n 0, 1) := by decide +kernel
theorem dX4_init_48 : decode cX4_init 48 = .ok (.bipush 16, 2) := by decide +kernel
theorem dX4_init_50 : decode cX4_init 50 = .ok (.newarray .int, 2) := by decide +kernel
theorem dX4_init_52 : decode cX4_init 52 = .ok (.putfield 25, 3) := by decide +kernel
theorem dX4_init_55 : decode cX4_init 55 = .ok (.aload_n 0, 1) := by decide +kernel
theorem dX4_init_56 : decode cX4_init 56 = .ok (.bipush 16, 2) := by decide +kernel
theorem dX4_init_58 : decode cX4_init 58 = .ok (.newarray .boolean, 2) := by decide +kernel
theorem dX4_init_60 : decode cX4_init 60 = .ok (.putfield 28, 3) := by decide +kernel
theorem dX4_init_63 : decode cX4_init 63 = .ok (.aload_n 0, 1) := by decide +kernel
theorem dX4_init_64 : decode cX4_init 64 = .ok (.bipush 16, 2) := by decide +kernel
theorem dX4_init_66 : decode cX4_init 66 = .ok (.newarray .int, 2) := by decide +kernel
theorem dX4_init_68 : decode cX4_init 68 = .ok (.putfield 32, 3) := by decide +kernel
theorem dX4_init_71 : decode cX4_init 71 = .ok (.aload_n 0, 1) := by decide +kernel
theorem dX4_init_72 : decode cX4_init 72 = .ok (.bipush (-100), 2) := by decide +kernel
theorem dX4_init_74 : decode cX4_init 74 = .ok (.putfield 35, 3) := by decide +kernel
theorem dX4_init_77 : decode cX4_init 77 = .ok (.aload_n 0, 1) := by decide +kernel
theorem dX4_init_78 : decode cX4_init 78 = .ok (.sipush 500, 3) := by decide +kernel
theorem dX4_init_81 : decode cX4_init 81 = .ok (.newarray .int, 2) := by decide +kernel
theorem dX4_init_83 : decode cX4_init 83 = .ok (.putfield 39, 3) := by decide +kernel
theorem dX4_init_86 : decode cX4_init 86 = .ok (.aload_n 0, 1) := by decide +kernel
theorem dX4_init_87 : decode cX4_init 87 = .ok (.getfield 28, 3) := by decide +kernel
theorem dX4_init_90 : decode cX4_init 90 = .ok (.iconst 0, 1) := by decide +kernel
theorem dX4_init_91 : decode cX4_init 91 = .ok (.iconst 1, 1) := by decide +kernel
theorem dX4_init_92 : decode cX4_init 92 = .ok (.bastore, 1) := by decide +kernel
theorem dX4_init_93 : decode cX4_init 93 = .ok (.return_, 1) := by decide +kernel
theorem dX4_within_0 : decode cX4_within 0 = .ok (.iload_n 0, 1) := by decide +kernel
theorem dX4_within_1 : decode cX4_within 1 = .ok (.ifCond .lt 12, 3) := by decide +kernel
theorem dX4_within_4 : decode cX4_within 4 = .ok (.iload_n 0, 1) := by decide +kernel
theorem dX4_within_5 : decode cX4_within 5 = .ok (.iload_n 1, 1) := by decide +kernel
theorem dX4_within_6 : decode cX4_within 6 = .ok (.if_icmp .gt 7, 3) := by decide +kernel
theorem dX4_within_9 : decode cX4_within 9 = .ok (.iconst 1, 1) := by decide +kernel
theorem dX4_within_10 : decode cX4_within 10 = .ok (.goto 4, 3) := by decide +kernel
theorem dX4_within_13 : decode cX4_within 13 = .ok (.iconst 0, 1) := by decide +kernel
theorem dX4_within_14 : decode cX4_within 14 = .ok (.ireturn, 1) := by decide +kernel
theorem dX4_store_0 : decode cX4_store 0 = .ok (.iload_n 1, 1) := by decide +kernel
theorem dX4_store_1 : decode cX4_store 1 = .ok (.sipush 1023, 3) := by decide +kernel
theorem dX4_store_4 : decode cX4_store 4 = .ok (.invokestatic 42, 3) := by decide +kernel
theorem dX4_store_7 : decode cX4_store 7 = .ok (.ifCond .ne 5, 3) := by decide +kernel
theorem dX4_store_10 : decode cX4_store 10 = .ok (.iconst 0, 1) := by decide +kernel
theorem dX4_store_11 : decode cX4_store 11 = .ok (.ireturn, 1) := by decide +kernel
theorem dX4_store_12 : decode cX4_store 12 = .ok (.aload_n 0, 1) := by decide +kernel
theorem dX4_store_13 : decode cX4_store 13 = .ok (.getfield 7, 3) := by decide +kernel
theorem dX4_store_16 : decode cX4_store 16 = .ok (.iload_n 1, 1) := by decide +kernel
theorem dX4_store_17 : decode cX4_store 17 = .ok (.iload_n 2, 1) := by decide +kernel
theorem dX4_store_18 : decode cX4_store 18 = .ok (.iastore, 1) := by decide +kernel
theorem dX4_store_19 : decode cX4_store 19 = .ok (.iconst 1, 1) := by decide +kernel
theorem dX4_store_20 : decode cX4_store 20 = .ok (.ireturn, 1) := by decide +kernel
theorem dX4_constant_0 : decode cX4_constant 0 = .ok (.iload_n 1, 1) := by decide +kernel
theorem dX4_constant_1 : decode cX4_constant 1 = .ok (.sipush 255, 3) := by decide +kernel
theorem dX4_constant_4 : decode cX4_constant 4 = .ok (.invokestatic 42, 3) := by decide +kernel
theorem dX4_constant_7 : decode cX4_constant 7 = .ok (.ifCond .ne 5, 3) := by decide +kernel
theorem dX4_constant_10 : decode cX4_constant 10 = .ok (.iconst 0, 1) := by decide +kernel
theorem dX4_constant_11 : decode cX4_constant 11 = .ok (.ireturn, 1) := by decide +kernel
theorem dX4_constant_12 : decode cX4_constant 12 = .ok (.aload_n 0, 1) := by decide +kernel
theorem dX4_constant_13 : decode cX4_constant 13 = .ok (.getfield 13, 3) := by decide +kernel
theorem dX4_constant_16 : decode cX4_constant 16 = .ok (.iload_n 1, 1) := by decide +kernel
theorem dX4_constant_17 : decode cX4_constant 17 = .ok (.iload_n 2, 1) := by decide +kernel
theorem dX4_constant_18 : decode cX4_constant 18 = .ok (.ldc 46, 2) := by decide +kernel
theorem dX4_constant_20 : decode cX4_constant 20 = .ok (.iand, 1) := by decide +kernel
theorem dX4_constant_21 : decode cX4_constant 21 = .ok (.iastore, 1) := by decide +kernel
theorem dX4_constant_22 : decode cX4_constant 22 = .ok (.iconst 1, 1) := by decide +kernel
theorem dX4_constant_23 : decode cX4_constant 23 = .ok (.ireturn, 1) := by decide +kernel
theorem dX4_poke_0 : decode cX4_poke 0 = .ok (.iload_n 1, 1) := by decide +kernel
theorem dX4_poke_1 : decode cX4_poke 1 = .ok (.sipush 1023, 3) := by decide +kernel
theorem dX4_poke_4 : decode cX4_poke 4 = .ok (.invokestatic 42, 3) := by decide +kernel
theorem dX4_poke_7 : decode cX4_poke 7 = .ok (.ifCond .ne 5, 3) := by decide +kernel
theorem dX4_poke_10 : decode cX4_poke 10 = .ok (.iconst 0, 1) := by decide +kernel
theorem dX4_poke_11 : decode cX4_poke 11 = .ok (.ireturn, 1) := by decide +kernel
theorem dX4_poke_12 : decode cX4_poke 12 = .ok (.aload_n 0, 1) := by decide +kernel
theorem dX4_poke_13 : decode cX4_poke 13 = .ok (.getfield 16, 3) := by decide +kernel
theorem dX4_poke_16 : decode cX4_poke 16 = .ok (.iload_n 1, 1) := by decide +kernel
theorem dX4_poke_17 : decode cX4_poke 17 = .ok (.iload_n 2, 1) := by decide +kernel
theorem dX4_poke_18 : decode cX4_poke 18 = .ok (.ldc 46, 2) := by decide +kernel
theorem dX4_poke_20 : decode cX4_poke 20 = .ok (.iand, 1) := by decide +kernel
theorem dX4_poke_21 : decode cX4_poke 21 = .ok (.iastore, 1) := by decide +kernel
theorem dX4_poke_22 : decode cX4_poke 22 = .ok (.iconst 1, 1) := by decide +kernel
theorem dX4_poke_23 : decode cX4_poke 23 = .ok (.ireturn, 1) := by decide +kernel
theorem dX4_set_0 : decode cX4_set 0 = .ok (.iload_n 1, 1) := by decide +kernel
theorem dX4_set_1 : decode cX4_set 1 = .ok (.bipush 31, 2) := by decide +kernel
theorem dX4_set_3 : decode cX4_set 3 = .ok (.invokestatic 42, 3) := by decide +kernel
theorem dX4_set_6 : decode cX4_set 6 = .ok (.ifCond .ne 5, 3) := by decide +kernel
theorem dX4_set_9 : decode cX4_set 9 = .ok (.iconst 0, 1) := by decide +kernel
theorem dX4_set_10 : decode cX4_set 10 = .ok (.ireturn, 1) := by decide +kernel
theorem dX4_set_11 : decode cX4_set 11 = .ok (.aload_n 0, 1) := by decide +kernel
theorem dX4_set_12 : decode cX4_set 12 = .ok (.getfield 19, 3) := by decide +kernel
theorem dX4_set_15 : decode cX4_set 15 = .ok (.iload_n 1, 1) := by decide +kernel
theorem dX4_set_16 : decode cX4_set 16 = .ok (.iload_n 2, 1) := by decide +kernel
theorem dX4_set_17 : decode cX4_set 17 = .ok (.ldc 46, 2) := by decide +kernel
theorem dX4_set_19 : decode cX4_set 19 = .ok (.iand, 1) := by decide +kernel
theorem dX4_set_20 : decode cX4_set 20 = .ok (.iastore, 1) := by decide +kernel
theorem dX4_set_21 : decode cX4_set 21 = .ok (.iconst 1, 1) := by decide +kernel
theorem dX4_set_22 : decode cX4_set 22 = .ok (.ireturn, 1) := by decide +kernel
theorem dX4_port_0 : decode cX4_port 0 = .ok (.aload_n 0, 1) := by decide +kernel
theorem dX4_port_1 : decode cX4_port 1 = .ok (.iload_n 1, 1) := by decide +kernel
theorem dX4_port_2 : decode cX4_port 2 = .ok (.ldc 46, 2) := by decide +kernel
theorem dX4_port_4 : decode cX4_port 4 = .ok (.iand, 1) := by decide +kernel
theorem dX4_port_5 : decode cX4_port 5 = .ok (.putfield 47, 3) := by decide +kernel
theorem dX4_port_8 : decode cX4_port 8 = .ok (.return_, 1) := by decide +kernel
theorem dX4_wake_0 : decode cX4_wake 0 = .ok (.iload_n 1, 1) := by decide +kernel
theorem dX4_wake_1 : decode cX4_wake 1 = .ok (.bipush 15, 2) := by decide +kernel
theorem dX4_wake_3 : decode cX4_wake 3 = .ok (.invokestatic 42, 3) := by decide +kernel
theorem dX4_wake_6 : decode cX4_wake 6 = .ok (.ifCond .ne 5, 3) := by decide +kernel
theorem dX4_wake_9 : decode cX4_wake 9 = .ok (.iconst 0, 1) := by decide +kernel
theorem dX4_wake_10 : decode cX4_wake 10 = .ok (.ireturn, 1) := by decide +kernel
theorem dX4_wake_11 : decode cX4_wake 11 = .ok (.aload_n 0, 1) := by decide +kernel
theorem dX4_wake_12 : decode cX4_wake 12 = .ok (.getfield 28, 3) := by decide +kernel
theorem dX4_wake_15 : decode cX4_wake 15 = .ok (.iload_n 1, 1) := by decide +kernel
theorem dX4_wake_16 : decode cX4_wake 16 = .ok (.baload, 1) := by decide +kernel
theorem dX4_wake_17 : decode cX4_wake 17 = .ok (.istore_n 2, 1) := by decide +kernel
theorem dX4_wake_18 : decode cX4_wake 18 = .ok (.aload_n 0, 1) := by decide +kernel
theorem dX4_wake_19 : decode cX4_wake 19 = .ok (.getfield 28, 3) := by decide +kernel
theorem dX4_wake_22 : decode cX4_wake 22 = .ok (.iload_n 1, 1) := by decide +kernel
theorem dX4_wake_23 : decode cX4_wake 23 = .ok (.iconst 1, 1) := by decide +kernel
theorem dX4_wake_24 : decode cX4_wake 24 = .ok (.bastore, 1) := by decide +kernel
theorem dX4_wake_25 : decode cX4_wake 25 = .ok (.iload_n 2, 1) := by decide +kernel
theorem dX4_wake_26 : decode cX4_wake 26 = .ok (.ireturn, 1) := by decide +kernel
theorem dX4_start_0 : decode cX4_start 0 = .ok (.iload_n 1, 1) := by decide +kernel
theorem dX4_start_1 : decode cX4_start 1 = .ok (.bipush 15, 2) := by decide +kernel
theorem dX4_start_3 : decode cX4_start 3 = .ok (.invokestatic 42, 3) := by decide +kernel
theorem dX4_start_6 : decode cX4_start 6 = .ok (.ifCond .eq 13, 3) := by decide +kernel
theorem dX4_start_9 : decode cX4_start 9 = .ok (.iload_n 2, 1) := by decide +kernel
theorem dX4_start_10 : decode cX4_start 10 = .ok (.sipush 1023, 3) := by decide +kernel
theorem dX4_start_13 : decode cX4_start 13 = .ok (.invokestatic 42, 3) := by decide +kernel
theorem dX4_start_16 : decode cX4_start 16 = .ok (.ifCond .ne 5, 3) := by decide +kernel
theorem dX4_start_19 : decode cX4_start 19 = .ok (.iconst 0, 1) := by decide +kernel
theorem dX4_start_20 : decode cX4_start 20 = .ok (.ireturn, 1) := by decide +kernel
theorem dX4_start_21 : decode cX4_start 21 = .ok (.aload_n 0, 1) := by decide +kernel
theorem dX4_start_22 : decode cX4_start 22 = .ok (.getfield 22, 3) := by decide +kernel
theorem dX4_start_25 : decode cX4_start 25 = .ok (.iload_n 1, 1) := by decide +kernel
theorem dX4_start_26 : decode cX4_start 26 = .ok (.iload_n 2, 1) := by decide +kernel
theorem dX4_start_27 : decode cX4_start 27 = .ok (.iastore, 1) := by decide +kernel
theorem dX4_start_28 : decode cX4_start 28 = .ok (.aload_n 0, 1) := by decide +kernel
theorem dX4_start_29 : decode cX4_start 29 = .ok (.getfield 25, 3) := by decide +kernel
theorem dX4_start_32 : decode cX4_start 32 = .ok (.iload_n 1, 1) := by decide +kernel
theorem dX4_start_33 : decode cX4_start 33 = .ok (.iconst 0, 1) := by decide +kernel
theorem dX4_start_34 : decode cX4_start 34 = .ok (.iastore, 1) := by decide +kernel
theorem dX4_start_35 : decode cX4_start 35 = .ok (.iconst 1, 1) := by decide +kernel
theorem dX4_start_36 : decode cX4_start 36 = .ok (.ireturn, 1) := by decide +kernel
theorem dX4_hasConstant_0 : decode cX4_hasConstant 0 = .ok (.aload_n 0, 1) := by decide +kernel
theorem dX4_hasConstant_1 : decode cX4_hasConstant 1 = .ok (.getfield 50, 3) := by decide +kernel
theorem dX4_hasConstant_4 : decode cX4_hasConstant 4 = .ok (.bipush 7, 2) := by decide +kernel
theorem dX4_hasConstant_6 : decode cX4_hasConstant 6 = .ok (.if_icmp .eq 12, 3) := by decide +kernel
theorem dX4_hasConstant_9 : decode cX4_hasConstant 9 = .ok (.aload_n 0, 1) := by decide +kernel
theorem dX4_hasConstant_10 : decode cX4_hasConstant 10 = .ok (.getfield 53, 3) := by decide +kernel
theorem dX4_hasConstant_13 : decode cX4_hasConstant 13 = .ok (.bipush 7, 2) := by decide +kernel
theorem dX4_hasConstant_15 : decode cX4_hasConstant 15 = .ok (.if_icmp .ne 7, 3) := by decide +kernel
theorem dX4_hasConstant_18 : decode cX4_hasConstant 18 = .ok (.iconst 1, 1) := by decide +kernel
theorem dX4_hasConstant_19 : decode cX4_hasConstant 19 = .ok (.goto 4, 3) := by decide +kernel
theorem dX4_hasConstant_22 : decode cX4_hasConstant 22 = .ok (.iconst 0, 1) := by decide +kernel
theorem dX4_hasConstant_23 : decode cX4_hasConstant 23 = .ok (.ireturn, 1) := by decide +kernel
theorem dX4_waits_0 : decode cX4_waits 0 = .ok (.aload_n 0, 1) := by decide +kernel
theorem dX4_waits_1 : decode cX4_waits 1 = .ok (.getfield 56, 3) := by decide +kernel
theorem dX4_waits_4 : decode cX4_waits 4 = .ok (.aload_n 0, 1) := by decide +kernel
theorem dX4_waits_5 : decode cX4_waits 5 = .ok (.getfield 35, 3) := by decide +kernel
theorem dX4_waits_8 : decode cX4_waits 8 = .ok (.isub, 1) := by decide +kernel
theorem dX4_waits_9 : decode cX4_waits 9 = .ok (.istore_n 1, 1) := by decide +kernel
theorem dX4_waits_10 : decode cX4_waits 10 = .ok (.aload_n 0, 1) := by decide +kernel
theorem dX4_waits_11 : decode cX4_waits 11 = .ok (.getfield 50, 3) := by decide +kernel
theorem dX4_waits_14 : decode cX4_waits 14 = .ok (.iconst 1, 1) := by decide +kernel
theorem dX4_waits_15 : decode cX4_waits 15 = .ok (.if_icmp .ne 8, 3) := by decide +kernel
theorem dX4_waits_18 : decode cX4_waits 18 = .ok (.iload_n 1, 1) := by decide +kernel
theorem dX4_waits_19 : decode cX4_waits 19 = .ok (.iconst 5, 1) := by decide +kernel
theorem dX4_waits_20 : decode cX4_waits 20 = .ok (.if_icmp .lt 37, 3) := by decide +kernel
theorem dX4_waits_23 : decode cX4_waits 23 = .ok (.aload_n 0, 1) := by decide +kernel
theorem dX4_waits_24 : decode cX4_waits 24 = .ok (.getfield 59, 3) := by decide +kernel
theorem dX4_waits_27 : decode cX4_waits 27 = .ok (.iconst 5, 1) := by decide +kernel
theorem dX4_waits_28 : decode cX4_waits 28 = .ok (.if_icmp .ne 15, 3) := by decide +kernel
theorem dX4_waits_31 : decode cX4_waits 31 = .ok (.aload_n 0, 1) := by decide +kernel
theorem dX4_waits_32 : decode cX4_waits 32 = .ok (.invokevirtual 62, 3) := by decide +kernel
theorem dX4_waits_35 : decode cX4_waits 35 = .ok (.ifCond .ne 8, 3) := by decide +kernel
theorem dX4_waits_38 : decode cX4_waits 38 = .ok (.iload_n 1, 1) := by decide +kernel
theorem dX4_waits_39 : decode cX4_waits 39 = .ok (.iconst 4, 1) := by decide +kernel
theorem dX4_waits_40 : decode cX4_waits 40 = .ok (.if_icmp .lt 17, 3) := by decide +kernel
theorem dX4_waits_43 : decode cX4_waits 43 = .ok (.aload_n 0, 1) := by decide +kernel
theorem dX4_waits_44 : decode cX4_waits 44 = .ok (.getfield 53, 3) := by decide +kernel
theorem dX4_waits_47 : decode cX4_waits 47 = .ok (.bipush 6, 2) := by decide +kernel
theorem dX4_waits_49 : decode cX4_waits 49 = .ok (.if_icmp .ne 12, 3) := by decide +kernel
theorem dX4_waits_52 : decode cX4_waits 52 = .ok (.iload_n 1, 1) := by decide +kernel
theorem dX4_waits_53 : decode cX4_waits 53 = .ok (.iconst 2, 1) := by decide +kernel
theorem dX4_waits_54 : decode cX4_waits 54 = .ok (.if_icmp .ge 7, 3) := by decide +kernel
theorem dX4_waits_57 : decode cX4_waits 57 = .ok (.iconst 1, 1) := by decide +kernel
theorem dX4_waits_58 : decode cX4_waits 58 = .ok (.goto 4, 3) := by decide +kernel
theorem dX4_waits_61 : decode cX4_waits 61 = .ok (.iconst 0, 1) := by decide +kernel
theorem dX4_waits_62 : decode cX4_waits 62 = .ok (.ireturn, 1) := by decide +kernel
theorem dX4_shifted_0 : decode cX4_shifted 0 = .ok (.aload_n 0, 1) := by decide +kernel
theorem dX4_shifted_1 : decode cX4_shifted 1 = .ok (.getfield 50, 3) := by decide +kernel
theorem dX4_shifted_4 : decode cX4_shifted 4 = .ok (.tableswitch 67 4 6 #[28, 38, 45], 28) := by decide +kernel
theorem dX4_shifted_32 : decode cX4_shifted 32 = .ok (.iconst 2, 1) := by decide +kernel
theorem dX4_shifted_33 : decode cX4_shifted 33 = .ok (.aload_n 0, 1) := by decide +kernel
theorem dX4_shifted_34 : decode cX4_shifted 34 = .ok (.getfield 66, 3) := by decide +kernel
theorem dX4_shifted_37 : decode cX4_shifted 37 = .ok (.imul, 1) := by decide +kernel
theorem dX4_shifted_38 : decode cX4_shifted 38 = .ok (.ldc 46, 2) := by decide +kernel
theorem dX4_shifted_40 : decode cX4_shifted 40 = .ok (.iand, 1) := by decide +kernel
theorem dX4_shifted_41 : decode cX4_shifted 41 = .ok (.ireturn, 1) := by decide +kernel
theorem dX4_shifted_42 : decode cX4_shifted 42 = .ok (.aload_n 0, 1) := by decide +kernel
theorem dX4_shifted_43 : decode cX4_shifted 43 = .ok (.getfield 66, 3) := by decide +kernel
theorem dX4_shifted_46 : decode cX4_shifted 46 = .ok (.iconst 2, 1) := by decide +kernel
theorem dX4_shifted_47 : decode cX4_shifted 47 = .ok (.idiv, 1) := by decide +kernel
theorem dX4_shifted_48 : decode cX4_shifted 48 = .ok (.ireturn, 1) := by decide +kernel
theorem dX4_shifted_49 : decode cX4_shifted 49 = .ok (.aload_n 0, 1) := by decide +kernel
theorem dX4_shifted_50 : decode cX4_shifted 50 = .ok (.getfield 66, 3) := by decide +kernel
theorem dX4_shifted_53 : decode cX4_shifted 53 = .ok (.sipush 256, 3) := by decide +kernel
theorem dX4_shifted_56 : decode cX4_shifted 56 = .ok (.irem, 1) := by decide +kernel
theorem dX4_shifted_57 : decode cX4_shifted 57 = .ok (.sipush 256, 3) := by decide +kernel
theorem dX4_shifted_60 : decode cX4_shifted 60 = .ok (.imul, 1) := by decide +kernel
theorem dX4_shifted_61 : decode cX4_shifted 61 = .ok (.aload_n 0, 1) := by decide +kernel
theorem dX4_shifted_62 : decode cX4_shifted 62 = .ok (.getfield 66, 3) := by decide +kernel
theorem dX4_shifted_65 : decode cX4_shifted 65 = .ok (.sipush 256, 3) := by decide +kernel
theorem dX4_shifted_68 : decode cX4_shifted 68 = .ok (.idiv, 1) := by decide +kernel
theorem dX4_shifted_69 : decode cX4_shifted 69 = .ok (.iadd, 1) := by decide +kernel
theorem dX4_shifted_70 : decode cX4_shifted 70 = .ok (.ireturn, 1) := by decide +kernel
theorem dX4_shifted_71 : decode cX4_shifted 71 = .ok (.aload_n 0, 1) := by decide +kernel
theorem dX4_shifted_72 : decode cX4_shifted 72 = .ok (.getfield 66, 3) := by decide +kernel
theorem dX4_shifted_75 : decode cX4_shifted 75 = .ok (.ireturn, 1) := by decide +kernel
theorem dX4_bus_0 : decode cX4_bus 0 = .ok (.aload_n 0, 1) := by decide +kernel
theorem dX4_bus_1 : decode cX4_bus 1 = .ok (.invokevirtual 62, 3) := by decide +kernel
theorem dX4_bus_4 : decode cX4_bus 4 = .ok (.ifCond .eq 21, 3) := by decide +kernel
theorem dX4_bus_7 : decode cX4_bus 7 = .ok (.aload_n 0, 1) := by decide +kernel
theorem dX4_bus_8 : decode cX4_bus 8 = .ok (.getfield 13, 3) := by decide +kernel
theorem dX4_bus_11 : decode cX4_bus 11 = .ok (.bipush 8, 2) := by decide +kernel
theorem dX4_bus_13 : decode cX4_bus 13 = .ok (.aload_n 0, 1) := by decide +kernel
theorem dX4_bus_14 : decode cX4_bus 14 = .ok (.getfield 69, 3) := by decide +kernel
theorem dX4_bus_17 : decode cX4_bus 17 = .ok (.imul, 1) := by decide +kernel
theorem dX4_bus_18 : decode cX4_bus 18 = .ok (.aload_n 0, 1) := by decide +kernel
theorem dX4_bus_19 : decode cX4_bus 19 = .ok (.getfield 59, 3) := by decide +kernel
theorem dX4_bus_22 : decode cX4_bus 22 = .ok (.iadd, 1) := by decide +kernel
theorem dX4_bus_23 : decode cX4_bus 23 = .ok (.iaload, 1) := by decide +kernel
theorem dX4_bus_24 : decode cX4_bus 24 = .ok (.ireturn, 1) := by decide +kernel
theorem dX4_bus_25 : decode cX4_bus 25 = .ok (.aload_n 0, 1) := by decide +kernel
theorem dX4_bus_26 : decode cX4_bus 26 = .ok (.getfield 59, 3) := by decide +kernel
theorem dX4_bus_29 : decode cX4_bus 29 = .ok (.tableswitch 87 0 6 #[43, 53, 55, 58, 63, 68, 82], 43) := by decide +kernel
theorem dX4_bus_72 : decode cX4_bus 72 = .ok (.aload_n 0, 1) := by decide +kernel
theorem dX4_bus_73 : decode cX4_bus 73 = .ok (.getfield 19, 3) := by decide +kernel
theorem dX4_bus_76 : decode cX4_bus 76 = .ok (.aload_n 0, 1) := by decide +kernel
theorem dX4_bus_77 : decode cX4_bus 77 = .ok (.getfield 69, 3) := by decide +kernel
theorem dX4_bus_80 : decode cX4_bus 80 = .ok (.iaload, 1) := by decide +kernel
theorem dX4_bus_81 : decode cX4_bus 81 = .ok (.ireturn, 1) := by decide +kernel
theorem dX4_bus_82 : decode cX4_bus 82 = .ok (.iconst 0, 1) := by decide +kernel
theorem dX4_bus_83 : decode cX4_bus 83 = .ok (.ireturn, 1) := by decide +kernel
theorem dX4_bus_84 : decode cX4_bus 84 = .ok (.ldc 46, 2) := by decide +kernel
theorem dX4_bus_86 : decode cX4_bus 86 = .ok (.ireturn, 1) := by decide +kernel
theorem dX4_bus_87 : decode cX4_bus 87 = .ok (.aload_n 0, 1) := by decide +kernel
theorem dX4_bus_88 : decode cX4_bus 88 = .ok (.getfield 47, 3) := by decide +kernel
theorem dX4_bus_91 : decode cX4_bus 91 = .ok (.ireturn, 1) := by decide +kernel
theorem dX4_bus_92 : decode cX4_bus 92 = .ok (.aload_n 0, 1) := by decide +kernel
theorem dX4_bus_93 : decode cX4_bus 93 = .ok (.getfield 72, 3) := by decide +kernel
theorem dX4_bus_96 : decode cX4_bus 96 = .ok (.ireturn, 1) := by decide +kernel
theorem dX4_bus_97 : decode cX4_bus 97 = .ok (.aload_n 0, 1) := by decide +kernel
theorem dX4_bus_98 : decode cX4_bus 98 = .ok (.getfield 16, 3) := by decide +kernel
theorem dX4_bus_101 : decode cX4_bus 101 = .ok (.aload_n 0, 1) := by decide +kernel
theorem dX4_bus_102 : decode cX4_bus 102 = .ok (.getfield 75, 3) := by decide +kernel
theorem dX4_bus_105 : decode cX4_bus 105 = .ok (.sipush 1024, 3) := by decide +kernel
theorem dX4_bus_108 : decode cX4_bus 108 = .ok (.irem, 1) := by decide +kernel
theorem dX4_bus_109 : decode cX4_bus 109 = .ok (.iaload, 1) := by decide +kernel
theorem dX4_bus_110 : decode cX4_bus 110 = .ok (.ireturn, 1) := by decide +kernel
theorem dX4_bus_111 : decode cX4_bus 111 = .ok (.aload_n 0, 1) := by decide +kernel
theorem dX4_bus_112 : decode cX4_bus 112 = .ok (.getfield 66, 3) := by decide +kernel
theorem dX4_bus_115 : decode cX4_bus 115 = .ok (.ireturn, 1) := by decide +kernel
theorem dX4_bus_116 : decode cX4_bus 116 = .ok (.aload_n 0, 1) := by decide +kernel
theorem dX4_bus_117 : decode cX4_bus 117 = .ok (.getfield 75, 3) := by decide +kernel
theorem dX4_bus_120 : decode cX4_bus 120 = .ok (.ireturn, 1) := by decide +kernel
theorem dX4_add_0 : decode cX4_add 0 = .ok (.aload_n 0, 1) := by decide +kernel
theorem dX4_add_1 : decode cX4_add 1 = .ok (.iload_n 1, 1) := by decide +kernel
theorem dX4_add_2 : decode cX4_add 2 = .ok (.ldc 46, 2) := by decide +kernel
theorem dX4_add_4 : decode cX4_add 4 = .ok (.iand, 1) := by decide +kernel
theorem dX4_add_5 : decode cX4_add 5 = .ok (.putfield 78, 3) := by decide +kernel
theorem dX4_add_8 : decode cX4_add 8 = .ok (.aload_n 0, 1) := by decide +kernel
theorem dX4_add_9 : decode cX4_add 9 = .ok (.iload_n 1, 1) := by decide +kernel
theorem dX4_add_10 : decode cX4_add 10 = .ok (.bipush 16, 2) := by decide +kernel
theorem dX4_add_12 : decode cX4_add 12 = .ok (.ishr, 1) := by decide +kernel
theorem dX4_add_13 : decode cX4_add 13 = .ok (.iconst 1, 1) := by decide +kernel
theorem dX4_add_14 : decode cX4_add 14 = .ok (.iand, 1) := by decide +kernel
theorem dX4_add_15 : decode cX4_add 15 = .ok (.putfield 81, 3) := by decide +kernel
theorem dX4_add_18 : decode cX4_add 18 = .ok (.return_, 1) := by decide +kernel
theorem dX4_take_0 : decode cX4_take 0 = .ok (.aload_n 0, 1) := by decide +kernel
theorem dX4_take_1 : decode cX4_take 1 = .ok (.iload_n 1, 1) := by decide +kernel
theorem dX4_take_2 : decode cX4_take 2 = .ok (.iload_n 2, 1) := by decide +kernel
theorem dX4_take_3 : decode cX4_take 3 = .ok (.isub, 1) := by decide +kernel
theorem dX4_take_4 : decode cX4_take 4 = .ok (.ldc 46, 2) := by decide +kernel
theorem dX4_take_6 : decode cX4_take 6 = .ok (.iand, 1) := by decide +kernel
theorem dX4_take_7 : decode cX4_take 7 = .ok (.putfield 78, 3) := by decide +kernel
theorem dX4_take_10 : decode cX4_take 10 = .ok (.aload_n 0, 1) := by decide +kernel
theorem dX4_take_11 : decode cX4_take 11 = .ok (.iload_n 1, 1) := by decide +kernel
theorem dX4_take_12 : decode cX4_take 12 = .ok (.iload_n 2, 1) := by decide +kernel
theorem dX4_take_13 : decode cX4_take 13 = .ok (.if_icmp .lt 7, 3) := by decide +kernel
theorem dX4_take_16 : decode cX4_take 16 = .ok (.iconst 1, 1) := by decide +kernel
theorem dX4_take_17 : decode cX4_take 17 = .ok (.goto 4, 3) := by decide +kernel
theorem dX4_take_20 : decode cX4_take 20 = .ok (.iconst 0, 1) := by decide +kernel
theorem dX4_take_21 : decode cX4_take 21 = .ok (.putfield 81, 3) := by decide +kernel
theorem dX4_take_24 : decode cX4_take 24 = .ok (.return_, 1) := by decide +kernel
theorem dX4_reckon_0 : decode cX4_reckon 0 = .ok (.aload_n 0, 1) := by decide +kernel
theorem dX4_reckon_1 : decode cX4_reckon 1 = .ok (.iconst 0, 1) := by decide +kernel
theorem dX4_reckon_2 : decode cX4_reckon 2 = .ok (.putfield 81, 3) := by decide +kernel
theorem dX4_reckon_5 : decode cX4_reckon 5 = .ok (.aload_n 0, 1) := by decide +kernel
theorem dX4_reckon_6 : decode cX4_reckon 6 = .ok (.getfield 84, 3) := by decide +kernel
theorem dX4_reckon_9 : decode cX4_reckon 9 = .ok (.tableswitch 231 0 13 #[71, 79, 90, 103, 116, 129, 139, 148, 161, 173, 187, 202, 103, 215], 71) := by decide +kernel
theorem dX4_reckon_80 : decode cX4_reckon 80 = .ok (.aload_n 0, 1) := by decide +kernel
theorem dX4_reckon_81 : decode cX4_reckon 81 = .ok (.iload_n 1, 1) := by decide +kernel
theorem dX4_reckon_82 : decode cX4_reckon 82 = .ok (.putfield 78, 3) := by decide +kernel
theorem dX4_reckon_85 : decode cX4_reckon 85 = .ok (.goto 160, 3) := by decide +kernel
theorem dX4_reckon_88 : decode cX4_reckon 88 = .ok (.aload_n 0, 1) := by decide +kernel
theorem dX4_reckon_89 : decode cX4_reckon 89 = .ok (.aload_n 0, 1) := by decide +kernel
theorem dX4_reckon_90 : decode cX4_reckon 90 = .ok (.getfield 87, 3) := by decide +kernel
theorem dX4_reckon_93 : decode cX4_reckon 93 = .ok (.putfield 78, 3) := by decide +kernel
theorem dX4_reckon_96 : decode cX4_reckon 96 = .ok (.goto 149, 3) := by decide +kernel
theorem dX4_reckon_99 : decode cX4_reckon 99 = .ok (.aload_n 0, 1) := by decide +kernel
theorem dX4_reckon_100 : decode cX4_reckon 100 = .ok (.iload_n 1, 1) := by decide +kernel
theorem dX4_reckon_101 : decode cX4_reckon 101 = .ok (.aload_n 0, 1) := by decide +kernel
theorem dX4_reckon_102 : decode cX4_reckon 102 = .ok (.getfield 87, 3) := by decide +kernel
theorem dX4_reckon_105 : decode cX4_reckon 105 = .ok (.ior, 1) := by decide +kernel
theorem dX4_reckon_106 : decode cX4_reckon 106 = .ok (.putfield 78, 3) := by decide +kernel
theorem dX4_reckon_109 : decode cX4_reckon 109 = .ok (.goto 136, 3) := by decide +kernel
theorem dX4_reckon_112 : decode cX4_reckon 112 = .ok (.aload_n 0, 1) := by decide +kernel
theorem dX4_reckon_113 : decode cX4_reckon 113 = .ok (.iload_n 1, 1) := by decide +kernel
theorem dX4_reckon_114 : decode cX4_reckon 114 = .ok (.aload_n 0, 1) := by decide +kernel
theorem dX4_reckon_115 : decode cX4_reckon 115 = .ok (.getfield 87, 3) := by decide +kernel
theorem dX4_reckon_118 : decode cX4_reckon 118 = .ok (.iand, 1) := by decide +kernel
theorem dX4_reckon_119 : decode cX4_reckon 119 = .ok (.putfield 78, 3) := by decide +kernel
theorem dX4_reckon_122 : decode cX4_reckon 122 = .ok (.goto 123, 3) := by decide +kernel
theorem dX4_reckon_125 : decode cX4_reckon 125 = .ok (.aload_n 0, 1) := by decide +kernel
theorem dX4_reckon_126 : decode cX4_reckon 126 = .ok (.iload_n 1, 1) := by decide +kernel
theorem dX4_reckon_127 : decode cX4_reckon 127 = .ok (.aload_n 0, 1) := by decide +kernel
theorem dX4_reckon_128 : decode cX4_reckon 128 = .ok (.getfield 87, 3) := by decide +kernel
theorem dX4_reckon_131 : decode cX4_reckon 131 = .ok (.ixor, 1) := by decide +kernel
theorem dX4_reckon_132 : decode cX4_reckon 132 = .ok (.putfield 78, 3) := by decide +kernel
theorem dX4_reckon_135 : decode cX4_reckon 135 = .ok (.goto 110, 3) := by decide +kernel
theorem dX4_reckon_138 : decode cX4_reckon 138 = .ok (.aload_n 0, 1) := by decide +kernel
theorem dX4_reckon_139 : decode cX4_reckon 139 = .ok (.iload_n 1, 1) := by decide +kernel
theorem dX4_reckon_140 : decode cX4_reckon 140 = .ok (.iconst 1, 1) := by decide +kernel
theorem dX4_reckon_141 : decode cX4_reckon 141 = .ok (.iadd, 1) := by decide +kernel
theorem dX4_reckon_142 : decode cX4_reckon 142 = .ok (.invokevirtual 90, 3) := by decide +kernel
theorem dX4_reckon_145 : decode cX4_reckon 145 = .ok (.goto 100, 3) := by decide +kernel
theorem dX4_reckon_148 : decode cX4_reckon 148 = .ok (.aload_n 0, 1) := by decide +kernel
theorem dX4_reckon_149 : decode cX4_reckon 149 = .ok (.iload_n 1, 1) := by decide +kernel
theorem dX4_reckon_150 : decode cX4_reckon 150 = .ok (.iconst 1, 1) := by decide +kernel
theorem dX4_reckon_151 : decode cX4_reckon 151 = .ok (.invokevirtual 94, 3) := by decide +kernel
theorem dX4_reckon_154 : decode cX4_reckon 154 = .ok (.goto 91, 3) := by decide +kernel
theorem dX4_reckon_157 : decode cX4_reckon 157 = .ok (.aload_n 0, 1) := by decide +kernel
theorem dX4_reckon_158 : decode cX4_reckon 158 = .ok (.iload_n 1, 1) := by decide +kernel
theorem dX4_reckon_159 : decode cX4_reckon 159 = .ok (.aload_n 0, 1) := by decide +kernel
theorem dX4_reckon_160 : decode cX4_reckon 160 = .ok (.getfield 87, 3) := by decide +kernel
theorem dX4_reckon_163 : decode cX4_reckon 163 = .ok (.iadd, 1) := by decide +kernel
theorem dX4_reckon_164 : decode cX4_reckon 164 = .ok (.invokevirtual 90, 3) := by decide +kernel
theorem dX4_reckon_167 : decode cX4_reckon 167 = .ok (.goto 78, 3) := by decide +kernel
theorem dX4_reckon_170 : decode cX4_reckon 170 = .ok (.aload_n 0, 1) := by decide +kernel
theorem dX4_reckon_171 : decode cX4_reckon 171 = .ok (.iload_n 1, 1) := by decide +kernel
theorem dX4_reckon_172 : decode cX4_reckon 172 = .ok (.aload_n 0, 1) := by decide +kernel
theorem dX4_reckon_173 : decode cX4_reckon 173 = .ok (.getfield 87, 3) := by decide +kernel
theorem dX4_reckon_176 : decode cX4_reckon 176 = .ok (.invokevirtual 94, 3) := by decide +kernel
theorem dX4_reckon_179 : decode cX4_reckon 179 = .ok (.goto 66, 3) := by decide +kernel
theorem dX4_reckon_182 : decode cX4_reckon 182 = .ok (.aload_n 0, 1) := by decide +kernel
theorem dX4_reckon_183 : decode cX4_reckon 183 = .ok (.iload_n 1, 1) := by decide +kernel
theorem dX4_reckon_184 : decode cX4_reckon 184 = .ok (.aload_n 0, 1) := by decide +kernel
theorem dX4_reckon_185 : decode cX4_reckon 185 = .ok (.getfield 87, 3) := by decide +kernel
theorem dX4_reckon_188 : decode cX4_reckon 188 = .ok (.iconst 1, 1) := by decide +kernel
theorem dX4_reckon_189 : decode cX4_reckon 189 = .ok (.iadd, 1) := by decide +kernel
theorem dX4_reckon_190 : decode cX4_reckon 190 = .ok (.invokevirtual 94, 3) := by decide +kernel
theorem dX4_reckon_193 : decode cX4_reckon 193 = .ok (.goto 52, 3) := by decide +kernel
theorem dX4_reckon_196 : decode cX4_reckon 196 = .ok (.aload_n 0, 1) := by decide +kernel
theorem dX4_reckon_197 : decode cX4_reckon 197 = .ok (.iload_n 1, 1) := by decide +kernel
theorem dX4_reckon_198 : decode cX4_reckon 198 = .ok (.aload_n 0, 1) := by decide +kernel
theorem dX4_reckon_199 : decode cX4_reckon 199 = .ok (.getfield 87, 3) := by decide +kernel
theorem dX4_reckon_202 : decode cX4_reckon 202 = .ok (.iadd, 1) := by decide +kernel
theorem dX4_reckon_203 : decode cX4_reckon 203 = .ok (.iconst 1, 1) := by decide +kernel
theorem dX4_reckon_204 : decode cX4_reckon 204 = .ok (.iadd, 1) := by decide +kernel
theorem dX4_reckon_205 : decode cX4_reckon 205 = .ok (.invokevirtual 90, 3) := by decide +kernel
theorem dX4_reckon_208 : decode cX4_reckon 208 = .ok (.goto 37, 3) := by decide +kernel
theorem dX4_reckon_211 : decode cX4_reckon 211 = .ok (.aload_n 0, 1) := by decide +kernel
theorem dX4_reckon_212 : decode cX4_reckon 212 = .ok (.iload_n 1, 1) := by decide +kernel
theorem dX4_reckon_213 : decode cX4_reckon 213 = .ok (.aload_n 0, 1) := by decide +kernel
theorem dX4_reckon_214 : decode cX4_reckon 214 = .ok (.getfield 98, 3) := by decide +kernel
theorem dX4_reckon_217 : decode cX4_reckon 217 = .ok (.iadd, 1) := by decide +kernel
theorem dX4_reckon_218 : decode cX4_reckon 218 = .ok (.invokevirtual 90, 3) := by decide +kernel
theorem dX4_reckon_221 : decode cX4_reckon 221 = .ok (.goto 24, 3) := by decide +kernel
theorem dX4_reckon_224 : decode cX4_reckon 224 = .ok (.aload_n 0, 1) := by decide +kernel
theorem dX4_reckon_225 : decode cX4_reckon 225 = .ok (.iload_n 1, 1) := by decide +kernel
theorem dX4_reckon_226 : decode cX4_reckon 226 = .ok (.ldc 46, 2) := by decide +kernel
theorem dX4_reckon_228 : decode cX4_reckon 228 = .ok (.aload_n 0, 1) := by decide +kernel
theorem dX4_reckon_229 : decode cX4_reckon 229 = .ok (.getfield 87, 3) := by decide +kernel
theorem dX4_reckon_232 : decode cX4_reckon 232 = .ok (.isub, 1) := by decide +kernel
theorem dX4_reckon_233 : decode cX4_reckon 233 = .ok (.iand, 1) := by decide +kernel
theorem dX4_reckon_234 : decode cX4_reckon 234 = .ok (.putfield 78, 3) := by decide +kernel
theorem dX4_reckon_237 : decode cX4_reckon 237 = .ok (.goto 8, 3) := by decide +kernel
theorem dX4_reckon_240 : decode cX4_reckon 240 = .ok (.aload_n 0, 1) := by decide +kernel
theorem dX4_reckon_241 : decode cX4_reckon 241 = .ok (.iconst 0, 1) := by decide +kernel
theorem dX4_reckon_242 : decode cX4_reckon 242 = .ok (.putfield 78, 3) := by decide +kernel
theorem dX4_reckon_245 : decode cX4_reckon 245 = .ok (.return_, 1) := by decide +kernel
theorem dX4_isOfAlu_0 : decode cX4_isOfAlu 0 = .ok (.aload_n 0, 1) := by decide +kernel
theorem dX4_isOfAlu_1 : decode cX4_isOfAlu 1 = .ok (.getfield 84, 3) := by decide +kernel
theorem dX4_isOfAlu_4 : decode cX4_isOfAlu 4 = .ok (.ifCond .eq 46, 3) := by decide +kernel
theorem dX4_isOfAlu_7 : decode cX4_isOfAlu 7 = .ok (.aload_n 0, 1) := by decide +kernel
theorem dX4_isOfAlu_8 : decode cX4_isOfAlu 8 = .ok (.getfield 84, 3) := by decide +kernel
theorem dX4_isOfAlu_11 : decode cX4_isOfAlu 11 = .ok (.iconst 2, 1) := by decide +kernel
theorem dX4_isOfAlu_12 : decode cX4_isOfAlu 12 = .ok (.if_icmp .eq 38, 3) := by decide +kernel
theorem dX4_isOfAlu_15 : decode cX4_isOfAlu 15 = .ok (.aload_n 0, 1) := by decide +kernel
theorem dX4_isOfAlu_16 : decode cX4_isOfAlu 16 = .ok (.getfield 84, 3) := by decide +kernel
theorem dX4_isOfAlu_19 : decode cX4_isOfAlu 19 = .ok (.iconst 5, 1) := by decide +kernel
theorem dX4_isOfAlu_20 : decode cX4_isOfAlu 20 = .ok (.if_icmp .eq 30, 3) := by decide +kernel
theorem dX4_isOfAlu_23 : decode cX4_isOfAlu 23 = .ok (.aload_n 0, 1) := by decide +kernel
theorem dX4_isOfAlu_24 : decode cX4_isOfAlu 24 = .ok (.getfield 84, 3) := by decide +kernel
theorem dX4_isOfAlu_27 : decode cX4_isOfAlu 27 = .ok (.bipush 6, 2) := by decide +kernel
theorem dX4_isOfAlu_29 : decode cX4_isOfAlu 29 = .ok (.if_icmp .eq 21, 3) := by decide +kernel
theorem dX4_isOfAlu_32 : decode cX4_isOfAlu 32 = .ok (.aload_n 0, 1) := by decide +kernel
theorem dX4_isOfAlu_33 : decode cX4_isOfAlu 33 = .ok (.getfield 84, 3) := by decide +kernel
theorem dX4_isOfAlu_36 : decode cX4_isOfAlu 36 = .ok (.bipush 10, 2) := by decide +kernel
theorem dX4_isOfAlu_38 : decode cX4_isOfAlu 38 = .ok (.if_icmp .lt 16, 3) := by decide +kernel
theorem dX4_isOfAlu_41 : decode cX4_isOfAlu 41 = .ok (.aload_n 0, 1) := by decide +kernel
theorem dX4_isOfAlu_42 : decode cX4_isOfAlu 42 = .ok (.getfield 84, 3) := by decide +kernel
theorem dX4_isOfAlu_45 : decode cX4_isOfAlu 45 = .ok (.bipush 12, 2) := by decide +kernel
theorem dX4_isOfAlu_47 : decode cX4_isOfAlu 47 = .ok (.if_icmp .gt 7, 3) := by decide +kernel
theorem dX4_isOfAlu_50 : decode cX4_isOfAlu 50 = .ok (.iconst 1, 1) := by decide +kernel
theorem dX4_isOfAlu_51 : decode cX4_isOfAlu 51 = .ok (.goto 4, 3) := by decide +kernel
theorem dX4_isOfAlu_54 : decode cX4_isOfAlu 54 = .ok (.iconst 0, 1) := by decide +kernel
theorem dX4_isOfAlu_55 : decode cX4_isOfAlu 55 = .ok (.ireturn, 1) := by decide +kernel
theorem dX4_change_0 : decode cX4_change 0 = .ok (.aload_n 0, 1) := by decide +kernel
theorem dX4_change_1 : decode cX4_change 1 = .ok (.getfield 53, 3) := by decide +kernel
theorem dX4_change_4 : decode cX4_change 4 = .ok (.tableswitch 91 1 8 #[48, 58, 63, 73, 79, 91, 91, 84], 48) := by decide +kernel
theorem dX4_change_52 : decode cX4_change 52 = .ok (.iload_n 1, 1) := by decide +kernel
theorem dX4_change_53 : decode cX4_change 53 = .ok (.ifCond .ne 7, 3) := by decide +kernel
theorem dX4_change_56 : decode cX4_change 56 = .ok (.iconst 1, 1) := by decide +kernel
theorem dX4_change_57 : decode cX4_change 57 = .ok (.goto 4, 3) := by decide +kernel
theorem dX4_change_60 : decode cX4_change 60 = .ok (.iconst 0, 1) := by decide +kernel
theorem dX4_change_61 : decode cX4_change 61 = .ok (.ireturn, 1) := by decide +kernel
theorem dX4_change_62 : decode cX4_change 62 = .ok (.iload_n 2, 1) := by decide +kernel
theorem dX4_change_63 : decode cX4_change 63 = .ok (.bipush 15, 2) := by decide +kernel
theorem dX4_change_65 : decode cX4_change 65 = .ok (.ishr, 1) := by decide +kernel
theorem dX4_change_66 : decode cX4_change 66 = .ok (.ireturn, 1) := by decide +kernel
theorem dX4_change_67 : decode cX4_change 67 = .ok (.iload_n 2, 1) := by decide +kernel
theorem dX4_change_68 : decode cX4_change 68 = .ok (.ifCond .ne 7, 3) := by decide +kernel
theorem dX4_change_71 : decode cX4_change 71 = .ok (.iconst 1, 1) := by decide +kernel
theorem dX4_change_72 : decode cX4_change 72 = .ok (.goto 4, 3) := by decide +kernel
theorem dX4_change_75 : decode cX4_change 75 = .ok (.iconst 0, 1) := by decide +kernel
theorem dX4_change_76 : decode cX4_change 76 = .ok (.ireturn, 1) := by decide +kernel
theorem dX4_change_77 : decode cX4_change 77 = .ok (.iload_n 1, 1) := by decide +kernel
theorem dX4_change_78 : decode cX4_change 78 = .ok (.sipush 1024, 3) := by decide +kernel
theorem dX4_change_81 : decode cX4_change 81 = .ok (.irem, 1) := by decide +kernel
theorem dX4_change_82 : decode cX4_change 82 = .ok (.ireturn, 1) := by decide +kernel
theorem dX4_change_83 : decode cX4_change 83 = .ok (.aload_n 0, 1) := by decide +kernel
theorem dX4_change_84 : decode cX4_change 84 = .ok (.getfield 98, 3) := by decide +kernel
theorem dX4_change_87 : decode cX4_change 87 = .ok (.ireturn, 1) := by decide +kernel
theorem dX4_change_88 : decode cX4_change 88 = .ok (.aload_n 0, 1) := by decide +kernel
theorem dX4_change_89 : decode cX4_change 89 = .ok (.getfield 47, 3) := by decide +kernel
theorem dX4_change_92 : decode cX4_change 92 = .ok (.iconst 2, 1) := by decide +kernel
theorem dX4_change_93 : decode cX4_change 93 = .ok (.irem, 1) := by decide +kernel
theorem dX4_change_94 : decode cX4_change 94 = .ok (.ireturn, 1) := by decide +kernel
theorem dX4_change_95 : decode cX4_change 95 = .ok (.iconst 0, 1) := by decide +kernel
theorem dX4_change_96 : decode cX4_change 96 = .ok (.ireturn, 1) := by decide +kernel
theorem dX4_act_0 : decode cX4_act 0 = .ok (.aload_n 0, 1) := by decide +kernel
theorem dX4_act_1 : decode cX4_act 1 = .ok (.invokevirtual 101, 3) := by decide +kernel
theorem dX4_act_4 : decode cX4_act 4 = .ok (.istore_n 2, 1) := by decide +kernel
theorem dX4_act_5 : decode cX4_act 5 = .ok (.aload_n 0, 1) := by decide +kernel
theorem dX4_act_6 : decode cX4_act 6 = .ok (.invokevirtual 105, 3) := by decide +kernel
theorem dX4_act_9 : decode cX4_act 9 = .ok (.istore_n 3, 1) := by decide +kernel
theorem dX4_act_10 : decode cX4_act 10 = .ok (.aload_n 0, 1) := by decide +kernel
theorem dX4_act_11 : decode cX4_act 11 = .ok (.iload_n 3, 1) := by decide +kernel
theorem dX4_act_12 : decode cX4_act 12 = .ok (.invokevirtual 108, 3) := by decide +kernel
theorem dX4_act_15 : decode cX4_act 15 = .ok (.aload_n 0, 1) := by decide +kernel
theorem dX4_act_16 : decode cX4_act 16 = .ok (.iload_n 3, 1) := by decide +kernel
theorem dX4_act_17 : decode cX4_act 17 = .ok (.iload_n 2, 1) := by decide +kernel
theorem dX4_act_18 : decode cX4_act 18 = .ok (.invokevirtual 111, 3) := by decide +kernel
theorem dX4_act_21 : decode cX4_act 21 = .ok (.istore 4, 2) := by decide +kernel
theorem dX4_act_23 : decode cX4_act 23 = .ok (.aload_n 0, 1) := by decide +kernel
theorem dX4_act_24 : decode cX4_act 24 = .ok (.getfield 59, 3) := by decide +kernel
theorem dX4_act_27 : decode cX4_act 27 = .ok (.iconst 1, 1) := by decide +kernel
theorem dX4_act_28 : decode cX4_act 28 = .ok (.if_icmp .ne 20, 3) := by decide +kernel
theorem dX4_act_31 : decode cX4_act 31 = .ok (.aload_n 0, 1) := by decide +kernel
theorem dX4_act_32 : decode cX4_act 32 = .ok (.invokevirtual 62, 3) := by decide +kernel
theorem dX4_act_35 : decode cX4_act 35 = .ok (.ifCond .ne 13, 3) := by decide +kernel
theorem dX4_act_38 : decode cX4_act 38 = .ok (.aload_n 0, 1) := by decide +kernel
theorem dX4_act_39 : decode cX4_act 39 = .ok (.getfield 19, 3) := by decide +kernel
theorem dX4_act_42 : decode cX4_act 42 = .ok (.aload_n 0, 1) := by decide +kernel
theorem dX4_act_43 : decode cX4_act 43 = .ok (.getfield 69, 3) := by decide +kernel
theorem dX4_act_46 : decode cX4_act 46 = .ok (.iload_n 2, 1) := by decide +kernel
theorem dX4_act_47 : decode cX4_act 47 = .ok (.iastore, 1) := by decide +kernel
theorem dX4_act_48 : decode cX4_act 48 = .ok (.aload_n 0, 1) := by decide +kernel
theorem dX4_act_49 : decode cX4_act 49 = .ok (.getfield 53, 3) := by decide +kernel
theorem dX4_act_52 : decode cX4_act 52 = .ok (.bipush 6, 2) := by decide +kernel
theorem dX4_act_54 : decode cX4_act 54 = .ok (.if_icmp .ne 17, 3) := by decide +kernel
theorem dX4_act_57 : decode cX4_act 57 = .ok (.aload_n 0, 1) := by decide +kernel
theorem dX4_act_58 : decode cX4_act 58 = .ok (.getfield 16, 3) := by decide +kernel
theorem dX4_act_61 : decode cX4_act 61 = .ok (.aload_n 0, 1) := by decide +kernel
theorem dX4_act_62 : decode cX4_act 62 = .ok (.getfield 75, 3) := by decide +kernel
theorem dX4_act_65 : decode cX4_act 65 = .ok (.sipush 1024, 3) := by decide +kernel
theorem dX4_act_68 : decode cX4_act 68 = .ok (.irem, 1) := by decide +kernel
theorem dX4_act_69 : decode cX4_act 69 = .ok (.iload_n 3, 1) := by decide +kernel
theorem dX4_act_70 : decode cX4_act 70 = .ok (.iastore, 1) := by decide +kernel
theorem dX4_act_71 : decode cX4_act 71 = .ok (.iload_n 1, 1) := by decide +kernel
theorem dX4_act_72 : decode cX4_act 72 = .ok (.bipush 11, 2) := by decide +kernel
theorem dX4_act_74 : decode cX4_act 74 = .ok (.ishr, 1) := by decide +kernel
theorem dX4_act_75 : decode cX4_act 75 = .ok (.iconst 1, 1) := by decide +kernel
theorem dX4_act_76 : decode cX4_act 76 = .ok (.iand, 1) := by decide +kernel
theorem dX4_act_77 : decode cX4_act 77 = .ok (.iconst 1, 1) := by decide +kernel
theorem dX4_act_78 : decode cX4_act 78 = .ok (.if_icmp .ne 22, 3) := by decide +kernel
theorem dX4_act_81 : decode cX4_act 81 = .ok (.aload_n 0, 1) := by decide +kernel
theorem dX4_act_82 : decode cX4_act 82 = .ok (.aload_n 0, 1) := by decide +kernel
theorem dX4_act_83 : decode cX4_act 83 = .ok (.invokevirtual 115, 3) := by decide +kernel
theorem dX4_act_86 : decode cX4_act 86 = .ok (.ifCond .eq 10, 3) := by decide +kernel
theorem dX4_act_89 : decode cX4_act 89 = .ok (.aload_n 0, 1) := by decide +kernel
theorem dX4_act_90 : decode cX4_act 90 = .ok (.getfield 78, 3) := by decide +kernel
theorem dX4_act_93 : decode cX4_act 93 = .ok (.goto 4, 3) := by decide +kernel
theorem dX4_act_96 : decode cX4_act 96 = .ok (.iload_n 3, 1) := by decide +kernel
theorem dX4_act_97 : decode cX4_act 97 = .ok (.putfield 87, 3) := by decide +kernel
theorem dX4_act_100 : decode cX4_act 100 = .ok (.iload_n 1, 1) := by decide +kernel
theorem dX4_act_101 : decode cX4_act 101 = .ok (.bipush 10, 2) := by decide +kernel
theorem dX4_act_103 : decode cX4_act 103 = .ok (.ishr, 1) := by decide +kernel
theorem dX4_act_104 : decode cX4_act 104 = .ok (.iconst 1, 1) := by decide +kernel
theorem dX4_act_105 : decode cX4_act 105 = .ok (.iand, 1) := by decide +kernel
theorem dX4_act_106 : decode cX4_act 106 = .ok (.iconst 1, 1) := by decide +kernel
theorem dX4_act_107 : decode cX4_act 107 = .ok (.if_icmp .ne 19, 3) := by decide +kernel
theorem dX4_act_110 : decode cX4_act 110 = .ok (.aload_n 0, 1) := by decide +kernel
theorem dX4_act_111 : decode cX4_act 111 = .ok (.aload_n 0, 1) := by decide +kernel
theorem dX4_act_112 : decode cX4_act 112 = .ok (.getfield 78, 3) := by decide +kernel
theorem dX4_act_115 : decode cX4_act 115 = .ok (.putfield 66, 3) := by decide +kernel
theorem dX4_act_118 : decode cX4_act 118 = .ok (.aload_n 0, 1) := by decide +kernel
theorem dX4_act_119 : decode cX4_act 119 = .ok (.aload_n 0, 1) := by decide +kernel
theorem dX4_act_120 : decode cX4_act 120 = .ok (.getfield 81, 3) := by decide +kernel
theorem dX4_act_123 : decode cX4_act 123 = .ok (.putfield 98, 3) := by decide +kernel
theorem dX4_act_126 : decode cX4_act 126 = .ok (.aload_n 0, 1) := by decide +kernel
theorem dX4_act_127 : decode cX4_act 127 = .ok (.getfield 50, 3) := by decide +kernel
theorem dX4_act_130 : decode cX4_act 130 = .ok (.iconst 1, 1) := by decide +kernel
theorem dX4_act_131 : decode cX4_act 131 = .ok (.if_icmp .ne 19, 3) := by decide +kernel
theorem dX4_act_134 : decode cX4_act 134 = .ok (.aload_n 0, 1) := by decide +kernel
theorem dX4_act_135 : decode cX4_act 135 = .ok (.aload_n 0, 1) := by decide +kernel
theorem dX4_act_136 : decode cX4_act 136 = .ok (.getfield 78, 3) := by decide +kernel
theorem dX4_act_139 : decode cX4_act 139 = .ok (.putfield 75, 3) := by decide +kernel
theorem dX4_act_142 : decode cX4_act 142 = .ok (.aload_n 0, 1) := by decide +kernel
theorem dX4_act_143 : decode cX4_act 143 = .ok (.aload_n 0, 1) := by decide +kernel
theorem dX4_act_144 : decode cX4_act 144 = .ok (.getfield 56, 3) := by decide +kernel
theorem dX4_act_147 : decode cX4_act 147 = .ok (.putfield 35, 3) := by decide +kernel
theorem dX4_act_150 : decode cX4_act 150 = .ok (.aload_n 0, 1) := by decide +kernel
theorem dX4_act_151 : decode cX4_act 151 = .ok (.getfield 50, 3) := by decide +kernel
theorem dX4_act_154 : decode cX4_act 154 = .ok (.iconst 3, 1) := by decide +kernel
theorem dX4_act_155 : decode cX4_act 155 = .ok (.if_icmp .ne 20, 3) := by decide +kernel
theorem dX4_act_158 : decode cX4_act 158 = .ok (.aload_n 0, 1) := by decide +kernel
theorem dX4_act_159 : decode cX4_act 159 = .ok (.getfield 72, 3) := by decide +kernel
theorem dX4_act_162 : decode cX4_act 162 = .ok (.ifCond .le 13, 3) := by decide +kernel
theorem dX4_act_165 : decode cX4_act 165 = .ok (.aload_n 0, 1) := by decide +kernel
theorem dX4_act_166 : decode cX4_act 166 = .ok (.getfield 28, 3) := by decide +kernel
theorem dX4_act_169 : decode cX4_act 169 = .ok (.aload_n 0, 1) := by decide +kernel
theorem dX4_act_170 : decode cX4_act 170 = .ok (.getfield 72, 3) := by decide +kernel
theorem dX4_act_173 : decode cX4_act 173 = .ok (.iconst 0, 1) := by decide +kernel
theorem dX4_act_174 : decode cX4_act 174 = .ok (.bastore, 1) := by decide +kernel
theorem dX4_act_175 : decode cX4_act 175 = .ok (.aload_n 0, 1) := by decide +kernel
theorem dX4_act_176 : decode cX4_act 176 = .ok (.getfield 50, 3) := by decide +kernel
theorem dX4_act_179 : decode cX4_act 179 = .ok (.bipush 8, 2) := by decide +kernel
theorem dX4_act_181 : decode cX4_act 181 = .ok (.if_icmp .ne 33, 3) := by decide +kernel
theorem dX4_act_184 : decode cX4_act 184 = .ok (.aload_n 0, 1) := by decide +kernel
theorem dX4_act_185 : decode cX4_act 185 = .ok (.getfield 118, 3) := by decide +kernel
theorem dX4_act_188 : decode cX4_act 188 = .ok (.sipush 500, 3) := by decide +kernel
theorem dX4_act_191 : decode cX4_act 191 = .ok (.if_icmp .ge 13, 3) := by decide +kernel
theorem dX4_act_194 : decode cX4_act 194 = .ok (.aload_n 0, 1) := by decide +kernel
theorem dX4_act_195 : decode cX4_act 195 = .ok (.getfield 39, 3) := by decide +kernel
theorem dX4_act_198 : decode cX4_act 198 = .ok (.aload_n 0, 1) := by decide +kernel
theorem dX4_act_199 : decode cX4_act 199 = .ok (.getfield 118, 3) := by decide +kernel
theorem dX4_act_202 : decode cX4_act 202 = .ok (.iload_n 3, 1) := by decide +kernel
theorem dX4_act_203 : decode cX4_act 203 = .ok (.iastore, 1) := by decide +kernel
theorem dX4_act_204 : decode cX4_act 204 = .ok (.aload_n 0, 1) := by decide +kernel
theorem dX4_act_205 : decode cX4_act 205 = .ok (.dup, 1) := by decide +kernel
theorem dX4_act_206 : decode cX4_act 206 = .ok (.getfield 118, 3) := by decide +kernel
theorem dX4_act_209 : decode cX4_act 209 = .ok (.iconst 1, 1) := by decide +kernel
theorem dX4_act_210 : decode cX4_act 210 = .ok (.iadd, 1) := by decide +kernel
theorem dX4_act_211 : decode cX4_act 211 = .ok (.putfield 118, 3) := by decide +kernel
theorem dX4_act_214 : decode cX4_act 214 = .ok (.aload_n 0, 1) := by decide +kernel
theorem dX4_act_215 : decode cX4_act 215 = .ok (.getfield 22, 3) := by decide +kernel
theorem dX4_act_218 : decode cX4_act 218 = .ok (.aload_n 0, 1) := by decide +kernel
theorem dX4_act_219 : decode cX4_act 219 = .ok (.getfield 72, 3) := by decide +kernel
theorem dX4_act_222 : decode cX4_act 222 = .ok (.iload_n 1, 1) := by decide +kernel
theorem dX4_act_223 : decode cX4_act 223 = .ok (.sipush 1023, 3) := by decide +kernel
theorem dX4_act_226 : decode cX4_act 226 = .ok (.iand, 1) := by decide +kernel
theorem dX4_act_227 : decode cX4_act 227 = .ok (.aload_n 0, 1) := by decide +kernel
theorem dX4_act_228 : decode cX4_act 228 = .ok (.getfield 25, 3) := by decide +kernel
theorem dX4_act_231 : decode cX4_act 231 = .ok (.aload_n 0, 1) := by decide +kernel
theorem dX4_act_232 : decode cX4_act 232 = .ok (.getfield 72, 3) := by decide +kernel
theorem dX4_act_235 : decode cX4_act 235 = .ok (.iaload, 1) := by decide +kernel
theorem dX4_act_236 : decode cX4_act 236 = .ok (.ior, 1) := by decide +kernel
theorem dX4_act_237 : decode cX4_act 237 = .ok (.iastore, 1) := by decide +kernel
theorem dX4_act_238 : decode cX4_act 238 = .ok (.aload_n 0, 1) := by decide +kernel
theorem dX4_act_239 : decode cX4_act 239 = .ok (.getfield 25, 3) := by decide +kernel
theorem dX4_act_242 : decode cX4_act 242 = .ok (.aload_n 0, 1) := by decide +kernel
theorem dX4_act_243 : decode cX4_act 243 = .ok (.getfield 72, 3) := by decide +kernel
theorem dX4_act_246 : decode cX4_act 246 = .ok (.iload 4, 2) := by decide +kernel
theorem dX4_act_248 : decode cX4_act 248 = .ok (.iastore, 1) := by decide +kernel
theorem dX4_act_249 : decode cX4_act 249 = .ok (.aload_n 0, 1) := by decide +kernel
theorem dX4_act_250 : decode cX4_act 250 = .ok (.getfield 32, 3) := by decide +kernel
theorem dX4_act_253 : decode cX4_act 253 = .ok (.aload_n 0, 1) := by decide +kernel
theorem dX4_act_254 : decode cX4_act 254 = .ok (.getfield 72, 3) := by decide +kernel
theorem dX4_act_257 : decode cX4_act 257 = .ok (.dup2, 1) := by decide +kernel
theorem dX4_act_258 : decode cX4_act 258 = .ok (.iaload, 1) := by decide +kernel
theorem dX4_act_259 : decode cX4_act 259 = .ok (.iconst 1, 1) := by decide +kernel
theorem dX4_act_260 : decode cX4_act 260 = .ok (.iadd, 1) := by decide +kernel
theorem dX4_act_261 : decode cX4_act 261 = .ok (.iastore, 1) := by decide +kernel
theorem dX4_act_262 : decode cX4_act 262 = .ok (.return_, 1) := by decide +kernel
theorem dX4_give_0 : decode cX4_give 0 = .ok (.aload_n 0, 1) := by decide +kernel
theorem dX4_give_1 : decode cX4_give 1 = .ok (.getfield 121, 3) := by decide +kernel
theorem dX4_give_4 : decode cX4_give 4 = .ok (.istore_n 2, 1) := by decide +kernel
theorem dX4_give_5 : decode cX4_give 5 = .ok (.aload_n 0, 1) := by decide +kernel
theorem dX4_give_6 : decode cX4_give 6 = .ok (.iload_n 1, 1) := by decide +kernel
theorem dX4_give_7 : decode cX4_give 7 = .ok (.putfield 121, 3) := by decide +kernel
theorem dX4_give_10 : decode cX4_give 10 = .ok (.iload_n 2, 1) := by decide +kernel
theorem dX4_give_11 : decode cX4_give 11 = .ok (.ifCond .eq 51, 3) := by decide +kernel
theorem dX4_give_14 : decode cX4_give 14 = .ok (.bipush 15, 2) := by decide +kernel
theorem dX4_give_16 : decode cX4_give 16 = .ok (.istore_n 3, 1) := by decide +kernel
theorem dX4_give_17 : decode cX4_give 17 = .ok (.aload_n 0, 1) := by decide +kernel
theorem dX4_give_18 : decode cX4_give 18 = .ok (.getfield 28, 3) := by decide +kernel
theorem dX4_give_21 : decode cX4_give 21 = .ok (.iload_n 3, 1) := by decide +kernel
theorem dX4_give_22 : decode cX4_give 22 = .ok (.baload, 1) := by decide +kernel
theorem dX4_give_23 : decode cX4_give 23 = .ok (.ifCond .ne 9, 3) := by decide +kernel
theorem dX4_give_26 : decode cX4_give 26 = .ok (.iinc 3 (-1), 3) := by decide +kernel
theorem dX4_give_29 : decode cX4_give 29 = .ok (.goto (-12), 3) := by decide +kernel
theorem dX4_give_32 : decode cX4_give 32 = .ok (.aload_n 0, 1) := by decide +kernel
theorem dX4_give_33 : decode cX4_give 33 = .ok (.iload_n 3, 1) := by decide +kernel
theorem dX4_give_34 : decode cX4_give 34 = .ok (.aload_n 0, 1) := by decide +kernel
theorem dX4_give_35 : decode cX4_give 35 = .ok (.getfield 72, 3) := by decide +kernel
theorem dX4_give_38 : decode cX4_give 38 = .ok (.if_icmp .ne 10, 3) := by decide +kernel
theorem dX4_give_41 : decode cX4_give 41 = .ok (.aload_n 0, 1) := by decide +kernel
theorem dX4_give_42 : decode cX4_give 42 = .ok (.getfield 125, 3) := by decide +kernel
theorem dX4_give_45 : decode cX4_give 45 = .ok (.goto 9, 3) := by decide +kernel
theorem dX4_give_48 : decode cX4_give 48 = .ok (.aload_n 0, 1) := by decide +kernel
theorem dX4_give_49 : decode cX4_give 49 = .ok (.getfield 125, 3) := by decide +kernel
theorem dX4_give_52 : decode cX4_give 52 = .ok (.iconst 1, 1) := by decide +kernel
theorem dX4_give_53 : decode cX4_give 53 = .ok (.iadd, 1) := by decide +kernel
theorem dX4_give_54 : decode cX4_give 54 = .ok (.putfield 125, 3) := by decide +kernel
theorem dX4_give_57 : decode cX4_give 57 = .ok (.aload_n 0, 1) := by decide +kernel
theorem dX4_give_58 : decode cX4_give 58 = .ok (.iload_n 3, 1) := by decide +kernel
theorem dX4_give_59 : decode cX4_give 59 = .ok (.putfield 72, 3) := by decide +kernel
theorem dX4_give_62 : decode cX4_give 62 = .ok (.return_, 1) := by decide +kernel
theorem dX4_run_0 : decode cX4_run 0 = .ok (.iload_n 1, 1) := by decide +kernel
theorem dX4_run_1 : decode cX4_run 1 = .ok (.iconst 1, 1) := by decide +kernel
theorem dX4_run_2 : decode cX4_run 2 = .ok (.if_icmp .lt 10, 3) := by decide +kernel
theorem dX4_run_5 : decode cX4_run 5 = .ok (.iload_n 1, 1) := by decide +kernel
theorem dX4_run_6 : decode cX4_run 6 = .ok (.sipush 5000, 3) := by decide +kernel
theorem dX4_run_9 : decode cX4_run 9 = .ok (.if_icmp .le 5, 3) := by decide +kernel
theorem dX4_run_12 : decode cX4_run 12 = .ok (.iconst (-1), 1) := by decide +kernel
theorem dX4_run_13 : decode cX4_run 13 = .ok (.ireturn, 1) := by decide +kernel
theorem dX4_run_14 : decode cX4_run 14 = .ok (.iconst 0, 1) := by decide +kernel
theorem dX4_run_15 : decode cX4_run 15 = .ok (.istore_n 2, 1) := by decide +kernel
theorem dX4_run_16 : decode cX4_run 16 = .ok (.iconst 0, 1) := by decide +kernel
theorem dX4_run_17 : decode cX4_run 17 = .ok (.istore_n 3, 1) := by decide +kernel
theorem dX4_run_18 : decode cX4_run 18 = .ok (.iload_n 3, 1) := by decide +kernel
theorem dX4_run_19 : decode cX4_run 19 = .ok (.iload_n 1, 1) := by decide +kernel
theorem dX4_run_20 : decode cX4_run 20 = .ok (.if_icmp .ge 138, 3) := by decide +kernel
theorem dX4_run_23 : decode cX4_run 23 = .ok (.aload_n 0, 1) := by decide +kernel
theorem dX4_run_24 : decode cX4_run 24 = .ok (.getfield 7, 3) := by decide +kernel
theorem dX4_run_27 : decode cX4_run 27 = .ok (.aload_n 0, 1) := by decide +kernel
theorem dX4_run_28 : decode cX4_run 28 = .ok (.getfield 22, 3) := by decide +kernel
theorem dX4_run_31 : decode cX4_run 31 = .ok (.aload_n 0, 1) := by decide +kernel
theorem dX4_run_32 : decode cX4_run 32 = .ok (.getfield 72, 3) := by decide +kernel
theorem dX4_run_35 : decode cX4_run 35 = .ok (.iaload, 1) := by decide +kernel
theorem dX4_run_36 : decode cX4_run 36 = .ok (.iaload, 1) := by decide +kernel
theorem dX4_run_37 : decode cX4_run 37 = .ok (.istore 4, 2) := by decide +kernel
theorem dX4_run_39 : decode cX4_run 39 = .ok (.aload_n 0, 1) := by decide +kernel
theorem dX4_run_40 : decode cX4_run 40 = .ok (.iload 4, 2) := by decide +kernel
theorem dX4_run_42 : decode cX4_run 42 = .ok (.bipush 27, 2) := by decide +kernel
theorem dX4_run_44 : decode cX4_run 44 = .ok (.iushr, 1) := by decide +kernel
theorem dX4_run_45 : decode cX4_run 45 = .ok (.putfield 69, 3) := by decide +kernel
theorem dX4_run_48 : decode cX4_run 48 = .ok (.aload_n 0, 1) := by decide +kernel
theorem dX4_run_49 : decode cX4_run 49 = .ok (.iload 4, 2) := by decide +kernel
theorem dX4_run_51 : decode cX4_run 51 = .ok (.bipush 23, 2) := by decide +kernel
theorem dX4_run_53 : decode cX4_run 53 = .ok (.iushr, 1) := by decide +kernel
theorem dX4_run_54 : decode cX4_run 54 = .ok (.bipush 15, 2) := by decide +kernel
theorem dX4_run_56 : decode cX4_run 56 = .ok (.iand, 1) := by decide +kernel
theorem dX4_run_57 : decode cX4_run 57 = .ok (.putfield 84, 3) := by decide +kernel
theorem dX4_run_60 : decode cX4_run 60 = .ok (.aload_n 0, 1) := by decide +kernel
theorem dX4_run_61 : decode cX4_run 61 = .ok (.iload 4, 2) := by decide +kernel
theorem dX4_run_63 : decode cX4_run 63 = .ok (.bipush 20, 2) := by decide +kernel
theorem dX4_run_65 : decode cX4_run 65 = .ok (.iushr, 1) := by decide +kernel
theorem dX4_run_66 : decode cX4_run 66 = .ok (.bipush 7, 2) := by decide +kernel
theorem dX4_run_68 : decode cX4_run 68 = .ok (.iand, 1) := by decide +kernel
theorem dX4_run_69 : decode cX4_run 69 = .ok (.putfield 59, 3) := by decide +kernel
theorem dX4_run_72 : decode cX4_run 72 = .ok (.aload_n 0, 1) := by decide +kernel
theorem dX4_run_73 : decode cX4_run 73 = .ok (.iload 4, 2) := by decide +kernel
theorem dX4_run_75 : decode cX4_run 75 = .ok (.bipush 16, 2) := by decide +kernel
theorem dX4_run_77 : decode cX4_run 77 = .ok (.iushr, 1) := by decide +kernel
theorem dX4_run_78 : decode cX4_run 78 = .ok (.bipush 15, 2) := by decide +kernel
theorem dX4_run_80 : decode cX4_run 80 = .ok (.iand, 1) := by decide +kernel
theorem dX4_run_81 : decode cX4_run 81 = .ok (.putfield 50, 3) := by decide +kernel
theorem dX4_run_84 : decode cX4_run 84 = .ok (.aload_n 0, 1) := by decide +kernel
theorem dX4_run_85 : decode cX4_run 85 = .ok (.iload 4, 2) := by decide +kernel
theorem dX4_run_87 : decode cX4_run 87 = .ok (.bipush 12, 2) := by decide +kernel
theorem dX4_run_89 : decode cX4_run 89 = .ok (.iushr, 1) := by decide +kernel
theorem dX4_run_90 : decode cX4_run 90 = .ok (.bipush 15, 2) := by decide +kernel
theorem dX4_run_92 : decode cX4_run 92 = .ok (.iand, 1) := by decide +kernel
theorem dX4_run_93 : decode cX4_run 93 = .ok (.putfield 53, 3) := by decide +kernel
theorem dX4_run_96 : decode cX4_run 96 = .ok (.aload_n 0, 1) := by decide +kernel
theorem dX4_run_97 : decode cX4_run 97 = .ok (.invokevirtual 128, 3) := by decide +kernel
theorem dX4_run_100 : decode cX4_run 100 = .ok (.ifCond .eq 16, 3) := by decide +kernel
theorem dX4_run_103 : decode cX4_run 103 = .ok (.aload_n 0, 1) := by decide +kernel
theorem dX4_run_104 : decode cX4_run 104 = .ok (.dup, 1) := by decide +kernel
theorem dX4_run_105 : decode cX4_run 105 = .ok (.getfield 131, 3) := by decide +kernel
theorem dX4_run_108 : decode cX4_run 108 = .ok (.iconst 1, 1) := by decide +kernel
theorem dX4_run_109 : decode cX4_run 109 = .ok (.iadd, 1) := by decide +kernel
theorem dX4_run_110 : decode cX4_run 110 = .ok (.putfield 131, 3) := by decide +kernel
theorem dX4_run_113 : decode cX4_run 113 = .ok (.goto 29, 3) := by decide +kernel
theorem dX4_run_116 : decode cX4_run 116 = .ok (.iinc 2 1, 3) := by decide +kernel
theorem dX4_run_119 : decode cX4_run 119 = .ok (.aload_n 0, 1) := by decide +kernel
theorem dX4_run_120 : decode cX4_run 120 = .ok (.iload 4, 2) := by decide +kernel
theorem dX4_run_122 : decode cX4_run 122 = .ok (.invokevirtual 134, 3) := by decide +kernel
theorem dX4_run_125 : decode cX4_run 125 = .ok (.aload_n 0, 1) := by decide +kernel
theorem dX4_run_126 : decode cX4_run 126 = .ok (.aload_n 0, 1) := by decide +kernel
theorem dX4_run_127 : decode cX4_run 127 = .ok (.getfield 50, 3) := by decide +kernel
theorem dX4_run_130 : decode cX4_run 130 = .ok (.iconst 2, 1) := by decide +kernel
theorem dX4_run_131 : decode cX4_run 131 = .ok (.if_icmp .ne 7, 3) := by decide +kernel
theorem dX4_run_134 : decode cX4_run 134 = .ok (.iconst 1, 1) := by decide +kernel
theorem dX4_run_135 : decode cX4_run 135 = .ok (.goto 4, 3) := by decide +kernel
theorem dX4_run_138 : decode cX4_run 138 = .ok (.iconst 0, 1) := by decide +kernel
theorem dX4_run_139 : decode cX4_run 139 = .ok (.invokevirtual 137, 3) := by decide +kernel
theorem dX4_run_142 : decode cX4_run 142 = .ok (.aload_n 0, 1) := by decide +kernel
theorem dX4_run_143 : decode cX4_run 143 = .ok (.dup, 1) := by decide +kernel
theorem dX4_run_144 : decode cX4_run 144 = .ok (.getfield 56, 3) := by decide +kernel
theorem dX4_run_147 : decode cX4_run 147 = .ok (.iconst 1, 1) := by decide +kernel
theorem dX4_run_148 : decode cX4_run 148 = .ok (.iadd, 1) := by decide +kernel
theorem dX4_run_149 : decode cX4_run 149 = .ok (.putfield 56, 3) := by decide +kernel
theorem dX4_run_152 : decode cX4_run 152 = .ok (.iinc 3 1, 3) := by decide +kernel
theorem dX4_run_155 : decode cX4_run 155 = .ok (.goto (-137), 3) := by decide +kernel
theorem dX4_run_158 : decode cX4_run 158 = .ok (.iload_n 2, 1) := by decide +kernel
theorem dX4_run_159 : decode cX4_run 159 = .ok (.ireturn, 1) := by decide +kernel
theorem dX4_register_0 : decode cX4_register 0 = .ok (.iload_n 1, 1) := by decide +kernel
theorem dX4_register_1 : decode cX4_register 1 = .ok (.bipush 31, 2) := by decide +kernel
theorem dX4_register_3 : decode cX4_register 3 = .ok (.invokestatic 42, 3) := by decide +kernel
theorem dX4_register_6 : decode cX4_register 6 = .ok (.ifCond .eq 12, 3) := by decide +kernel
theorem dX4_register_9 : decode cX4_register 9 = .ok (.aload_n 0, 1) := by decide +kernel
theorem dX4_register_10 : decode cX4_register 10 = .ok (.getfield 19, 3) := by decide +kernel
theorem dX4_register_13 : decode cX4_register 13 = .ok (.iload_n 1, 1) := by decide +kernel
theorem dX4_register_14 : decode cX4_register 14 = .ok (.iaload, 1) := by decide +kernel
theorem dX4_register_15 : decode cX4_register 15 = .ok (.goto 56, 3) := by decide +kernel
theorem dX4_register_18 : decode cX4_register 18 = .ok (.iload_n 1, 1) := by decide +kernel
theorem dX4_register_19 : decode cX4_register 19 = .ok (.bipush 32, 2) := by decide +kernel
theorem dX4_register_21 : decode cX4_register 21 = .ok (.if_icmp .ne 10, 3) := by decide +kernel
theorem dX4_register_24 : decode cX4_register 24 = .ok (.aload_n 0, 1) := by decide +kernel
theorem dX4_register_25 : decode cX4_register 25 = .ok (.getfield 87, 3) := by decide +kernel
theorem dX4_register_28 : decode cX4_register 28 = .ok (.goto 43, 3) := by decide +kernel
theorem dX4_register_31 : decode cX4_register 31 = .ok (.iload_n 1, 1) := by decide +kernel
theorem dX4_register_32 : decode cX4_register 32 = .ok (.bipush 33, 2) := by decide +kernel
theorem dX4_register_34 : decode cX4_register 34 = .ok (.if_icmp .ne 10, 3) := by decide +kernel
theorem dX4_register_37 : decode cX4_register 37 = .ok (.aload_n 0, 1) := by decide +kernel
theorem dX4_register_38 : decode cX4_register 38 = .ok (.getfield 66, 3) := by decide +kernel
theorem dX4_register_41 : decode cX4_register 41 = .ok (.goto 30, 3) := by decide +kernel
theorem dX4_register_44 : decode cX4_register 44 = .ok (.iload_n 1, 1) := by decide +kernel
theorem dX4_register_45 : decode cX4_register 45 = .ok (.bipush 34, 2) := by decide +kernel
theorem dX4_register_47 : decode cX4_register 47 = .ok (.if_icmp .ne 10, 3) := by decide +kernel
theorem dX4_register_50 : decode cX4_register 50 = .ok (.aload_n 0, 1) := by decide +kernel
theorem dX4_register_51 : decode cX4_register 51 = .ok (.getfield 98, 3) := by decide +kernel
theorem dX4_register_54 : decode cX4_register 54 = .ok (.goto 17, 3) := by decide +kernel
theorem dX4_register_57 : decode cX4_register 57 = .ok (.iload_n 1, 1) := by decide +kernel
theorem dX4_register_58 : decode cX4_register 58 = .ok (.bipush 35, 2) := by decide +kernel
theorem dX4_register_60 : decode cX4_register 60 = .ok (.if_icmp .ne 10, 3) := by decide +kernel
theorem dX4_register_63 : decode cX4_register 63 = .ok (.aload_n 0, 1) := by decide +kernel
theorem dX4_register_64 : decode cX4_register 64 = .ok (.getfield 75, 3) := by decide +kernel
theorem dX4_register_67 : decode cX4_register 67 = .ok (.goto 4, 3) := by decide +kernel
theorem dX4_register_70 : decode cX4_register 70 = .ok (.iconst (-1), 1) := by decide +kernel
theorem dX4_register_71 : decode cX4_register 71 = .ok (.ireturn, 1) := by decide +kernel
theorem dX4_peek_0 : decode cX4_peek 0 = .ok (.iload_n 1, 1) := by decide +kernel
theorem dX4_peek_1 : decode cX4_peek 1 = .ok (.sipush 1023, 3) := by decide +kernel
theorem dX4_peek_4 : decode cX4_peek 4 = .ok (.invokestatic 42, 3) := by decide +kernel
theorem dX4_peek_7 : decode cX4_peek 7 = .ok (.ifCond .eq 12, 3) := by decide +kernel
theorem dX4_peek_10 : decode cX4_peek 10 = .ok (.aload_n 0, 1) := by decide +kernel
theorem dX4_peek_11 : decode cX4_peek 11 = .ok (.getfield 16, 3) := by decide +kernel
theorem dX4_peek_14 : decode cX4_peek 14 = .ok (.iload_n 1, 1) := by decide +kernel
theorem dX4_peek_15 : decode cX4_peek 15 = .ok (.iaload, 1) := by decide +kernel
theorem dX4_peek_16 : decode cX4_peek 16 = .ok (.goto 4, 3) := by decide +kernel
theorem dX4_peek_19 : decode cX4_peek 19 = .ok (.iconst (-1), 1) := by decide +kernel
theorem dX4_peek_20 : decode cX4_peek 20 = .ok (.ireturn, 1) := by decide +kernel
theorem dX4_task_0 : decode cX4_task 0 = .ok (.iload_n 1, 1) := by decide +kernel
theorem dX4_task_1 : decode cX4_task 1 = .ok (.bipush 15, 2) := by decide +kernel
theorem dX4_task_3 : decode cX4_task 3 = .ok (.invokestatic 42, 3) := by decide +kernel
theorem dX4_task_6 : decode cX4_task 6 = .ok (.ifCond .eq 11, 3) := by decide +kernel
theorem dX4_task_9 : decode cX4_task 9 = .ok (.iload_n 2, 1) := by decide +kernel
theorem dX4_task_10 : decode cX4_task 10 = .ok (.iconst 3, 1) := by decide +kernel
theorem dX4_task_11 : decode cX4_task 11 = .ok (.invokestatic 42, 3) := by decide +kernel
theorem dX4_task_14 : decode cX4_task 14 = .ok (.ifCond .ne 5, 3) := by decide +kernel
theorem dX4_task_17 : decode cX4_task 17 = .ok (.iconst (-1), 1) := by decide +kernel
theorem dX4_task_18 : decode cX4_task 18 = .ok (.ireturn, 1) := by decide +kernel
theorem dX4_task_19 : decode cX4_task 19 = .ok (.iload_n 2, 1) := by decide +kernel
theorem dX4_task_20 : decode cX4_task 20 = .ok (.ifCond .ne 12, 3) := by decide +kernel
theorem dX4_task_23 : decode cX4_task 23 = .ok (.aload_n 0, 1) := by decide +kernel
theorem dX4_task_24 : decode cX4_task 24 = .ok (.getfield 22, 3) := by decide +kernel
theorem dX4_task_27 : decode cX4_task 27 = .ok (.iload_n 1, 1) := by decide +kernel
theorem dX4_task_28 : decode cX4_task 28 = .ok (.iaload, 1) := by decide +kernel
theorem dX4_task_29 : decode cX4_task 29 = .ok (.goto 45, 3) := by decide +kernel
theorem dX4_task_32 : decode cX4_task 32 = .ok (.iload_n 2, 1) := by decide +kernel
theorem dX4_task_33 : decode cX4_task 33 = .ok (.iconst 1, 1) := by decide +kernel
theorem dX4_task_34 : decode cX4_task 34 = .ok (.if_icmp .ne 12, 3) := by decide +kernel
theorem dX4_task_37 : decode cX4_task 37 = .ok (.aload_n 0, 1) := by decide +kernel
theorem dX4_task_38 : decode cX4_task 38 = .ok (.getfield 25, 3) := by decide +kernel
theorem dX4_task_41 : decode cX4_task 41 = .ok (.iload_n 1, 1) := by decide +kernel
theorem dX4_task_42 : decode cX4_task 42 = .ok (.iaload, 1) := by decide +kernel
theorem dX4_task_43 : decode cX4_task 43 = .ok (.goto 31, 3) := by decide +kernel
theorem dX4_task_46 : decode cX4_task 46 = .ok (.iload_n 2, 1) := by decide +kernel
theorem dX4_task_47 : decode cX4_task 47 = .ok (.iconst 2, 1) := by decide +kernel
theorem dX4_task_48 : decode cX4_task 48 = .ok (.if_icmp .ne 20, 3) := by decide +kernel
theorem dX4_task_51 : decode cX4_task 51 = .ok (.aload_n 0, 1) := by decide +kernel
theorem dX4_task_52 : decode cX4_task 52 = .ok (.getfield 28, 3) := by decide +kernel
theorem dX4_task_55 : decode cX4_task 55 = .ok (.iload_n 1, 1) := by decide +kernel
theorem dX4_task_56 : decode cX4_task 56 = .ok (.baload, 1) := by decide +kernel
theorem dX4_task_57 : decode cX4_task 57 = .ok (.ifCond .eq 7, 3) := by decide +kernel
theorem dX4_task_60 : decode cX4_task 60 = .ok (.iconst 1, 1) := by decide +kernel
theorem dX4_task_61 : decode cX4_task 61 = .ok (.goto 13, 3) := by decide +kernel
theorem dX4_task_64 : decode cX4_task 64 = .ok (.iconst 0, 1) := by decide +kernel
theorem dX4_task_65 : decode cX4_task 65 = .ok (.goto 9, 3) := by decide +kernel
theorem dX4_task_68 : decode cX4_task 68 = .ok (.aload_n 0, 1) := by decide +kernel
theorem dX4_task_69 : decode cX4_task 69 = .ok (.getfield 32, 3) := by decide +kernel
theorem dX4_task_72 : decode cX4_task 72 = .ok (.iload_n 1, 1) := by decide +kernel
theorem dX4_task_73 : decode cX4_task 73 = .ok (.iaload, 1) := by decide +kernel
theorem dX4_task_74 : decode cX4_task 74 = .ok (.ireturn, 1) := by decide +kernel
theorem dX4_now_0 : decode cX4_now 0 = .ok (.aload_n 0, 1) := by decide +kernel
theorem dX4_now_1 : decode cX4_now 1 = .ok (.getfield 72, 3) := by decide +kernel
theorem dX4_now_4 : decode cX4_now 4 = .ok (.ireturn, 1) := by decide +kernel
theorem dX4_out_0 : decode cX4_out 0 = .ok (.iload_n 1, 1) := by decide +kernel
theorem dX4_out_1 : decode cX4_out 1 = .ok (.ifCond .lt 27, 3) := by decide +kernel
theorem dX4_out_4 : decode cX4_out 4 = .ok (.iload_n 1, 1) := by decide +kernel
theorem dX4_out_5 : decode cX4_out 5 = .ok (.aload_n 0, 1) := by decide +kernel
theorem dX4_out_6 : decode cX4_out 6 = .ok (.getfield 118, 3) := by decide +kernel
theorem dX4_out_9 : decode cX4_out 9 = .ok (.if_icmp .ge 19, 3) := by decide +kernel
theorem dX4_out_12 : decode cX4_out 12 = .ok (.iload_n 1, 1) := by decide +kernel
theorem dX4_out_13 : decode cX4_out 13 = .ok (.sipush 500, 3) := by decide +kernel
theorem dX4_out_16 : decode cX4_out 16 = .ok (.if_icmp .ge 12, 3) := by decide +kernel
theorem dX4_out_19 : decode cX4_out 19 = .ok (.aload_n 0, 1) := by decide +kernel
theorem dX4_out_20 : decode cX4_out 20 = .ok (.getfield 39, 3) := by decide +kernel
theorem dX4_out_23 : decode cX4_out 23 = .ok (.iload_n 1, 1) := by decide +kernel
theorem dX4_out_24 : decode cX4_out 24 = .ok (.iaload, 1) := by decide +kernel
theorem dX4_out_25 : decode cX4_out 25 = .ok (.goto 4, 3) := by decide +kernel
theorem dX4_out_28 : decode cX4_out 28 = .ok (.iconst (-1), 1) := by decide +kernel
theorem dX4_out_29 : decode cX4_out 29 = .ok (.ireturn, 1) := by decide +kernel
theorem dX4_count_0 : decode cX4_count 0 = .ok (.iload_n 1, 1) := by decide +kernel
theorem dX4_count_1 : decode cX4_count 1 = .ok (.tableswitch 51 0 3 #[31, 36, 41, 46], 31) := by decide +kernel
theorem dX4_count_32 : decode cX4_count 32 = .ok (.aload_n 0, 1) := by decide +kernel
theorem dX4_count_33 : decode cX4_count 33 = .ok (.getfield 56, 3) := by decide +kernel
theorem dX4_count_36 : decode cX4_count 36 = .ok (.ireturn, 1) := by decide +kernel
theorem dX4_count_37 : decode cX4_count 37 = .ok (.aload_n 0, 1) := by decide +kernel
theorem dX4_count_38 : decode cX4_count 38 = .ok (.getfield 131, 3) := by decide +kernel
theorem dX4_count_41 : decode cX4_count 41 = .ok (.ireturn, 1) := by decide +kernel
theorem dX4_count_42 : decode cX4_count 42 = .ok (.aload_n 0, 1) := by decide +kernel
theorem dX4_count_43 : decode cX4_count 43 = .ok (.getfield 118, 3) := by decide +kernel
theorem dX4_count_46 : decode cX4_count 46 = .ok (.ireturn, 1) := by decide +kernel
theorem dX4_count_47 : decode cX4_count 47 = .ok (.aload_n 0, 1) := by decide +kernel
theorem dX4_count_48 : decode cX4_count 48 = .ok (.getfield 125, 3) := by decide +kernel
theorem dX4_count_51 : decode cX4_count 51 = .ok (.ireturn, 1) := by decide +kernel
theorem dX4_count_52 : decode cX4_count 52 = .ok (.iconst (-1), 1) := by decide +kernel
theorem dX4_count_53 : decode cX4_count 53 = .ok (.ireturn, 1) := by decide +kernel
end
end
section
section
theorem dL_law_0 : decode cL_law 0 = .ok (.new 7, 3) := by decide +kernel
theorem dL_law_3 : decode cL_law 3 = .ok (.dup, 1) := by decide +kernel
theorem dL_law_4 : decode cL_law 4 = .ok (.invokespecial 9, 3) := by decide +kernel
theorem dL_law_7 : decode cL_law 7 = .ok (.astore_n 1, 1) := by decide +kernel
theorem dL_law_8 : decode cL_law 8 = .ok (.new 10, 3) := by decide +kernel
theorem dL_law_11 : decode cL_law 11 = .ok (.dup, 1) := by decide +kernel
theorem dL_law_12 : decode cL_law 12 = .ok (.invokespecial 12, 3) := by decide +kernel
theorem dL_law_15 : decode cL_law 15 = .ok (.astore_n 2, 1) := by decide +kernel
theorem dL_law_16 : decode cL_law 16 = .ok (.iconst 0, 1) := by decide +kernel
theorem dL_law_17 : decode cL_law 17 = .ok (.istore_n 3, 1) := by decide +kernel
theorem dL_law_18 : decode cL_law 18 = .ok (.iload_n 3, 1) := by decide +kernel
theorem dL_law_19 : decode cL_law 19 = .ok (.aload_n 0, 1) := by decide +kernel
theorem dL_law_20 : decode cL_law 20 = .ok (.arraylength, 1) := by decide +kernel
theorem dL_law_21 : decode cL_law 21 = .ok (.iconst 3, 1) := by decide +kernel
theorem dL_law_22 : decode cL_law 22 = .ok (.isub, 1) := by decide +kernel
theorem dL_law_23 : decode cL_law 23 = .ok (.if_icmp .gt 457, 3) := by decide +kernel
theorem dL_law_26 : decode cL_law 26 = .ok (.aload_n 0, 1) := by decide +kernel
theorem dL_law_27 : decode cL_law 27 = .ok (.iload_n 3, 1) := by decide +kernel
theorem dL_law_28 : decode cL_law 28 = .ok (.iaload, 1) := by decide +kernel
theorem dL_law_29 : decode cL_law 29 = .ok (.bipush 15, 2) := by decide +kernel
theorem dL_law_31 : decode cL_law 31 = .ok (.iand, 1) := by decide +kernel
theorem dL_law_32 : decode cL_law 32 = .ok (.tableswitch 442 0 13 #[72, 105, 138, 171, 204, 225, 248, 281, 304, 327, 350, 383, 396, 419], 72) := by decide +kernel
theorem dL_law_104 : decode cL_law 104 = .ok (.aload_n 1, 1) := by decide +kernel
theorem dL_law_105 : decode cL_law 105 = .ok (.aload_n 0, 1) := by decide +kernel
theorem dL_law_106 : decode cL_law 106 = .ok (.iload_n 3, 1) := by decide +kernel
theorem dL_law_107 : decode cL_law 107 = .ok (.iconst 1, 1) := by decide +kernel
theorem dL_law_108 : decode cL_law 108 = .ok (.iadd, 1) := by decide +kernel
theorem dL_law_109 : decode cL_law 109 = .ok (.iaload, 1) := by decide +kernel
theorem dL_law_110 : decode cL_law 110 = .ok (.aload_n 0, 1) := by decide +kernel
theorem dL_law_111 : decode cL_law 111 = .ok (.iload_n 3, 1) := by decide +kernel
theorem dL_law_112 : decode cL_law 112 = .ok (.iconst 2, 1) := by decide +kernel
theorem dL_law_113 : decode cL_law 113 = .ok (.iadd, 1) := by decide +kernel
theorem dL_law_114 : decode cL_law 114 = .ok (.iaload, 1) := by decide +kernel
theorem dL_law_115 : decode cL_law 115 = .ok (.invokevirtual 13, 3) := by decide +kernel
theorem dL_law_118 : decode cL_law 118 = .ok (.aload_n 2, 1) := by decide +kernel
theorem dL_law_119 : decode cL_law 119 = .ok (.aload_n 0, 1) := by decide +kernel
theorem dL_law_120 : decode cL_law 120 = .ok (.iload_n 3, 1) := by decide +kernel
theorem dL_law_121 : decode cL_law 121 = .ok (.iconst 1, 1) := by decide +kernel
theorem dL_law_122 : decode cL_law 122 = .ok (.iadd, 1) := by decide +kernel
theorem dL_law_123 : decode cL_law 123 = .ok (.iaload, 1) := by decide +kernel
theorem dL_law_124 : decode cL_law 124 = .ok (.aload_n 0, 1) := by decide +kernel
theorem dL_law_125 : decode cL_law 125 = .ok (.iload_n 3, 1) := by decide +kernel
theorem dL_law_126 : decode cL_law 126 = .ok (.iconst 2, 1) := by decide +kernel
theorem dL_law_127 : decode cL_law 127 = .ok (.iadd, 1) := by decide +kernel
theorem dL_law_128 : decode cL_law 128 = .ok (.iaload, 1) := by decide +kernel
theorem dL_law_129 : decode cL_law 129 = .ok (.invokevirtual 17, 3) := by decide +kernel
theorem dL_law_132 : decode cL_law 132 = .ok (.if_icmp .eq 342, 3) := by decide +kernel
theorem dL_law_135 : decode cL_law 135 = .ok (.iconst 0, 1) := by decide +kernel
theorem dL_law_136 : decode cL_law 136 = .ok (.ireturn, 1) := by decide +kernel
theorem dL_law_137 : decode cL_law 137 = .ok (.aload_n 1, 1) := by decide +kernel
theorem dL_law_138 : decode cL_law 138 = .ok (.aload_n 0, 1) := by decide +kernel
theorem dL_law_139 : decode cL_law 139 = .ok (.iload_n 3, 1) := by decide +kernel
theorem dL_law_140 : decode cL_law 140 = .ok (.iconst 1, 1) := by decide +kernel
theorem dL_law_141 : decode cL_law 141 = .ok (.iadd, 1) := by decide +kernel
theorem dL_law_142 : decode cL_law 142 = .ok (.iaload, 1) := by decide +kernel
theorem dL_law_143 : decode cL_law 143 = .ok (.aload_n 0, 1) := by decide +kernel
theorem dL_law_144 : decode cL_law 144 = .ok (.iload_n 3, 1) := by decide +kernel
theorem dL_law_145 : decode cL_law 145 = .ok (.iconst 2, 1) := by decide +kernel
theorem dL_law_146 : decode cL_law 146 = .ok (.iadd, 1) := by decide +kernel
theorem dL_law_147 : decode cL_law 147 = .ok (.iaload, 1) := by decide +kernel
theorem dL_law_148 : decode cL_law 148 = .ok (.invokevirtual 18, 3) := by decide +kernel
theorem dL_law_151 : decode cL_law 151 = .ok (.aload_n 2, 1) := by decide +kernel
theorem dL_law_152 : decode cL_law 152 = .ok (.aload_n 0, 1) := by decide +kernel
theorem dL_law_153 : decode cL_law 153 = .ok (.iload_n 3, 1) := by decide +kernel
theorem dL_law_154 : decode cL_law 154 = .ok (.iconst 1, 1) := by decide +kernel
theorem dL_law_155 : decode cL_law 155 = .ok (.iadd, 1) := by decide +kernel
theorem dL_law_156 : decode cL_law 156 = .ok (.iaload, 1) := by decide +kernel
theorem dL_law_157 : decode cL_law 157 = .ok (.aload_n 0, 1) := by decide +kernel
theorem dL_law_158 : decode cL_law 158 = .ok (.iload_n 3, 1) := by decide +kernel
theorem dL_law_159 : decode cL_law 159 = .ok (.iconst 2, 1) := by decide +kernel
theorem dL_law_160 : decode cL_law 160 = .ok (.iadd, 1) := by decide +kernel
theorem dL_law_161 : decode cL_law 161 = .ok (.iaload, 1) := by decide +kernel
theorem dL_law_162 : decode cL_law 162 = .ok (.invokevirtual 21, 3) := by decide +kernel
theorem dL_law_165 : decode cL_law 165 = .ok (.if_icmp .eq 309, 3) := by decide +kernel
theorem dL_law_168 : decode cL_law 168 = .ok (.iconst 0, 1) := by decide +kernel
theorem dL_law_169 : decode cL_law 169 = .ok (.ireturn, 1) := by decide +kernel
theorem dL_law_170 : decode cL_law 170 = .ok (.aload_n 1, 1) := by decide +kernel
theorem dL_law_171 : decode cL_law 171 = .ok (.aload_n 0, 1) := by decide +kernel
theorem dL_law_172 : decode cL_law 172 = .ok (.iload_n 3, 1) := by decide +kernel
theorem dL_law_173 : decode cL_law 173 = .ok (.iconst 1, 1) := by decide +kernel
theorem dL_law_174 : decode cL_law 174 = .ok (.iadd, 1) := by decide +kernel
theorem dL_law_175 : decode cL_law 175 = .ok (.iaload, 1) := by decide +kernel
theorem dL_law_176 : decode cL_law 176 = .ok (.aload_n 0, 1) := by decide +kernel
theorem dL_law_177 : decode cL_law 177 = .ok (.iload_n 3, 1) := by decide +kernel
theorem dL_law_178 : decode cL_law 178 = .ok (.iconst 2, 1) := by decide +kernel
theorem dL_law_179 : decode cL_law 179 = .ok (.iadd, 1) := by decide +kernel
theorem dL_law_180 : decode cL_law 180 = .ok (.iaload, 1) := by decide +kernel
theorem dL_law_181 : decode cL_law 181 = .ok (.invokevirtual 22, 3) := by decide +kernel
theorem dL_law_184 : decode cL_law 184 = .ok (.aload_n 2, 1) := by decide +kernel
theorem dL_law_185 : decode cL_law 185 = .ok (.aload_n 0, 1) := by decide +kernel
theorem dL_law_186 : decode cL_law 186 = .ok (.iload_n 3, 1) := by decide +kernel
theorem dL_law_187 : decode cL_law 187 = .ok (.iconst 1, 1) := by decide +kernel
theorem dL_law_188 : decode cL_law 188 = .ok (.iadd, 1) := by decide +kernel
theorem dL_law_189 : decode cL_law 189 = .ok (.iaload, 1) := by decide +kernel
theorem dL_law_190 : decode cL_law 190 = .ok (.aload_n 0, 1) := by decide +kernel
theorem dL_law_191 : decode cL_law 191 = .ok (.iload_n 3, 1) := by decide +kernel
theorem dL_law_192 : decode cL_law 192 = .ok (.iconst 2, 1) := by decide +kernel
theorem dL_law_193 : decode cL_law 193 = .ok (.iadd, 1) := by decide +kernel
theorem dL_law_194 : decode cL_law 194 = .ok (.iaload, 1) := by decide +kernel
theorem dL_law_195 : decode cL_law 195 = .ok (.invokevirtual 25, 3) := by decide +kernel
theorem dL_law_198 : decode cL_law 198 = .ok (.if_icmp .eq 276, 3) := by decide +kernel
theorem dL_law_201 : decode cL_law 201 = .ok (.iconst 0, 1) := by decide +kernel
theorem dL_law_202 : decode cL_law 202 = .ok (.ireturn, 1) := by decide +kernel
theorem dL_law_203 : decode cL_law 203 = .ok (.aload_n 1, 1) := by decide +kernel
theorem dL_law_204 : decode cL_law 204 = .ok (.aload_n 0, 1) := by decide +kernel
theorem dL_law_205 : decode cL_law 205 = .ok (.iload_n 3, 1) := by decide +kernel
theorem dL_law_206 : decode cL_law 206 = .ok (.iconst 1, 1) := by decide +kernel
theorem dL_law_207 : decode cL_law 207 = .ok (.iadd, 1) := by decide +kernel
theorem dL_law_208 : decode cL_law 208 = .ok (.iaload, 1) := by decide +kernel
theorem dL_law_209 : decode cL_law 209 = .ok (.aload_n 0, 1) := by decide +kernel
theorem dL_law_210 : decode cL_law 210 = .ok (.iload_n 3, 1) := by decide +kernel
theorem dL_law_211 : decode cL_law 211 = .ok (.iconst 2, 1) := by decide +kernel
theorem dL_law_212 : decode cL_law 212 = .ok (.iadd, 1) := by decide +kernel
theorem dL_law_213 : decode cL_law 213 = .ok (.iaload, 1) := by decide +kernel
theorem dL_law_214 : decode cL_law 214 = .ok (.invokevirtual 26, 3) := by decide +kernel
theorem dL_law_217 : decode cL_law 217 = .ok (.aload_n 2, 1) := by decide +kernel
theorem dL_law_218 : decode cL_law 218 = .ok (.aload_n 0, 1) := by decide +kernel
theorem dL_law_219 : decode cL_law 219 = .ok (.iload_n 3, 1) := by decide +kernel
theorem dL_law_220 : decode cL_law 220 = .ok (.iconst 1, 1) := by decide +kernel
theorem dL_law_221 : decode cL_law 221 = .ok (.iadd, 1) := by decide +kernel
theorem dL_law_222 : decode cL_law 222 = .ok (.iaload, 1) := by decide +kernel
theorem dL_law_223 : decode cL_law 223 = .ok (.aload_n 0, 1) := by decide +kernel
theorem dL_law_224 : decode cL_law 224 = .ok (.iload_n 3, 1) := by decide +kernel
theorem dL_law_225 : decode cL_law 225 = .ok (.iconst 2, 1) := by decide +kernel
theorem dL_law_226 : decode cL_law 226 = .ok (.iadd, 1) := by decide +kernel
theorem dL_law_227 : decode cL_law 227 = .ok (.iaload, 1) := by decide +kernel
theorem dL_law_228 : decode cL_law 228 = .ok (.invokevirtual 29, 3) := by decide +kernel
theorem dL_law_231 : decode cL_law 231 = .ok (.if_icmp .eq 243, 3) := by decide +kernel
theorem dL_law_234 : decode cL_law 234 = .ok (.iconst 0, 1) := by decide +kernel
theorem dL_law_235 : decode cL_law 235 = .ok (.ireturn, 1) := by decide +kernel
theorem dL_law_236 : decode cL_law 236 = .ok (.aload_n 1, 1) := by decide +kernel
theorem dL_law_237 : decode cL_law 237 = .ok (.aload_n 0, 1) := by decide +kernel
theorem dL_law_238 : decode cL_law 238 = .ok (.iload_n 3, 1) := by decide +kernel
theorem dL_law_239 : decode cL_law 239 = .ok (.iconst 1, 1) := by decide +kernel
theorem dL_law_240 : decode cL_law 240 = .ok (.iadd, 1) := by decide +kernel
theorem dL_law_241 : decode cL_law 241 = .ok (.iaload, 1) := by decide +kernel
theorem dL_law_242 : decode cL_law 242 = .ok (.invokevirtual 30, 3) := by decide +kernel
theorem dL_law_245 : decode cL_law 245 = .ok (.aload_n 2, 1) := by decide +kernel
theorem dL_law_246 : decode cL_law 246 = .ok (.aload_n 0, 1) := by decide +kernel
theorem dL_law_247 : decode cL_law 247 = .ok (.iload_n 3, 1) := by decide +kernel
theorem dL_law_248 : decode cL_law 248 = .ok (.iconst 1, 1) := by decide +kernel
theorem dL_law_249 : decode cL_law 249 = .ok (.iadd, 1) := by decide +kernel
theorem dL_law_250 : decode cL_law 250 = .ok (.iaload, 1) := by decide +kernel
theorem dL_law_251 : decode cL_law 251 = .ok (.invokevirtual 34, 3) := by decide +kernel
theorem dL_law_254 : decode cL_law 254 = .ok (.goto 220, 3) := by decide +kernel
theorem dL_law_257 : decode cL_law 257 = .ok (.aload_n 1, 1) := by decide +kernel
theorem dL_law_258 : decode cL_law 258 = .ok (.aload_n 0, 1) := by decide +kernel
theorem dL_law_259 : decode cL_law 259 = .ok (.iload_n 3, 1) := by decide +kernel
theorem dL_law_260 : decode cL_law 260 = .ok (.iconst 1, 1) := by decide +kernel
theorem dL_law_261 : decode cL_law 261 = .ok (.iadd, 1) := by decide +kernel
theorem dL_law_262 : decode cL_law 262 = .ok (.iaload, 1) := by decide +kernel
theorem dL_law_263 : decode cL_law 263 = .ok (.invokevirtual 35, 3) := by decide +kernel
theorem dL_law_266 : decode cL_law 266 = .ok (.aload_n 2, 1) := by decide +kernel
theorem dL_law_267 : decode cL_law 267 = .ok (.aload_n 0, 1) := by decide +kernel
theorem dL_law_268 : decode cL_law 268 = .ok (.iload_n 3, 1) := by decide +kernel
theorem dL_law_269 : decode cL_law 269 = .ok (.iconst 1, 1) := by decide +kernel
theorem dL_law_270 : decode cL_law 270 = .ok (.iadd, 1) := by decide +kernel
theorem dL_law_271 : decode cL_law 271 = .ok (.iaload, 1) := by decide +kernel
theorem dL_law_272 : decode cL_law 272 = .ok (.invokevirtual 39, 3) := by decide +kernel
theorem dL_law_275 : decode cL_law 275 = .ok (.if_icmp .eq 199, 3) := by decide +kernel
theorem dL_law_278 : decode cL_law 278 = .ok (.iconst 0, 1) := by decide +kernel
theorem dL_law_279 : decode cL_law 279 = .ok (.ireturn, 1) := by decide +kernel
theorem dL_law_280 : decode cL_law 280 = .ok (.aload_n 1, 1) := by decide +kernel
theorem dL_law_281 : decode cL_law 281 = .ok (.aload_n 0, 1) := by decide +kernel
theorem dL_law_282 : decode cL_law 282 = .ok (.iload_n 3, 1) := by decide +kernel
theorem dL_law_283 : decode cL_law 283 = .ok (.iconst 1, 1) := by decide +kernel
theorem dL_law_284 : decode cL_law 284 = .ok (.iadd, 1) := by decide +kernel
theorem dL_law_285 : decode cL_law 285 = .ok (.iaload, 1) := by decide +kernel
theorem dL_law_286 : decode cL_law 286 = .ok (.aload_n 0, 1) := by decide +kernel
theorem dL_law_287 : decode cL_law 287 = .ok (.iload_n 3, 1) := by decide +kernel
theorem dL_law_288 : decode cL_law 288 = .ok (.iconst 2, 1) := by decide +kernel
theorem dL_law_289 : decode cL_law 289 = .ok (.iadd, 1) := by decide +kernel
theorem dL_law_290 : decode cL_law 290 = .ok (.iaload, 1) := by decide +kernel
theorem dL_law_291 : decode cL_law 291 = .ok (.invokevirtual 40, 3) := by decide +kernel
theorem dL_law_294 : decode cL_law 294 = .ok (.aload_n 2, 1) := by decide +kernel
theorem dL_law_295 : decode cL_law 295 = .ok (.aload_n 0, 1) := by decide +kernel
theorem dL_law_296 : decode cL_law 296 = .ok (.iload_n 3, 1) := by decide +kernel
theorem dL_law_297 : decode cL_law 297 = .ok (.iconst 1, 1) := by decide +kernel
theorem dL_law_298 : decode cL_law 298 = .ok (.iadd, 1) := by decide +kernel
theorem dL_law_299 : decode cL_law 299 = .ok (.iaload, 1) := by decide +kernel
theorem dL_law_300 : decode cL_law 300 = .ok (.aload_n 0, 1) := by decide +kernel
theorem dL_law_301 : decode cL_law 301 = .ok (.iload_n 3, 1) := by decide +kernel
theorem dL_law_302 : decode cL_law 302 = .ok (.iconst 2, 1) := by decide +kernel
theorem dL_law_303 : decode cL_law 303 = .ok (.iadd, 1) := by decide +kernel
theorem dL_law_304 : decode cL_law 304 = .ok (.iaload, 1) := by decide +kernel
theorem dL_law_305 : decode cL_law 305 = .ok (.invokevirtual 43, 3) := by decide +kernel
theorem dL_law_308 : decode cL_law 308 = .ok (.if_icmp .eq 166, 3) := by decide +kernel
theorem dL_law_311 : decode cL_law 311 = .ok (.iconst 0, 1) := by decide +kernel
theorem dL_law_312 : decode cL_law 312 = .ok (.ireturn, 1) := by decide +kernel
theorem dL_law_313 : decode cL_law 313 = .ok (.aload_n 1, 1) := by decide +kernel
theorem dL_law_314 : decode cL_law 314 = .ok (.aload_n 0, 1) := by decide +kernel
theorem dL_law_315 : decode cL_law 315 = .ok (.iload_n 3, 1) := by decide +kernel
theorem dL_law_316 : decode cL_law 316 = .ok (.iconst 1, 1) := by decide +kernel
theorem dL_law_317 : decode cL_law 317 = .ok (.iadd, 1) := by decide +kernel
theorem dL_law_318 : decode cL_law 318 = .ok (.iaload, 1) := by decide +kernel
theorem dL_law_319 : decode cL_law 319 = .ok (.invokevirtual 44, 3) := by decide +kernel
theorem dL_law_322 : decode cL_law 322 = .ok (.aload_n 2, 1) := by decide +kernel
theorem dL_law_323 : decode cL_law 323 = .ok (.aload_n 0, 1) := by decide +kernel
theorem dL_law_324 : decode cL_law 324 = .ok (.iload_n 3, 1) := by decide +kernel
theorem dL_law_325 : decode cL_law 325 = .ok (.iconst 1, 1) := by decide +kernel
theorem dL_law_326 : decode cL_law 326 = .ok (.iadd, 1) := by decide +kernel
theorem dL_law_327 : decode cL_law 327 = .ok (.iaload, 1) := by decide +kernel
theorem dL_law_328 : decode cL_law 328 = .ok (.invokevirtual 48, 3) := by decide +kernel
theorem dL_law_331 : decode cL_law 331 = .ok (.if_icmp .eq 143, 3) := by decide +kernel
theorem dL_law_334 : decode cL_law 334 = .ok (.iconst 0, 1) := by decide +kernel
theorem dL_law_335 : decode cL_law 335 = .ok (.ireturn, 1) := by decide +kernel
theorem dL_law_336 : decode cL_law 336 = .ok (.aload_n 1, 1) := by decide +kernel
theorem dL_law_337 : decode cL_law 337 = .ok (.aload_n 0, 1) := by decide +kernel
theorem dL_law_338 : decode cL_law 338 = .ok (.iload_n 3, 1) := by decide +kernel
theorem dL_law_339 : decode cL_law 339 = .ok (.iconst 1, 1) := by decide +kernel
theorem dL_law_340 : decode cL_law 340 = .ok (.iadd, 1) := by decide +kernel
theorem dL_law_341 : decode cL_law 341 = .ok (.iaload, 1) := by decide +kernel
theorem dL_law_342 : decode cL_law 342 = .ok (.invokevirtual 49, 3) := by decide +kernel
theorem dL_law_345 : decode cL_law 345 = .ok (.aload_n 2, 1) := by decide +kernel
theorem dL_law_346 : decode cL_law 346 = .ok (.aload_n 0, 1) := by decide +kernel
theorem dL_law_347 : decode cL_law 347 = .ok (.iload_n 3, 1) := by decide +kernel
theorem dL_law_348 : decode cL_law 348 = .ok (.iconst 1, 1) := by decide +kernel
theorem dL_law_349 : decode cL_law 349 = .ok (.iadd, 1) := by decide +kernel
theorem dL_law_350 : decode cL_law 350 = .ok (.iaload, 1) := by decide +kernel
theorem dL_law_351 : decode cL_law 351 = .ok (.invokevirtual 52, 3) := by decide +kernel
theorem dL_law_354 : decode cL_law 354 = .ok (.if_icmp .eq 120, 3) := by decide +kernel
theorem dL_law_357 : decode cL_law 357 = .ok (.iconst 0, 1) := by decide +kernel
theorem dL_law_358 : decode cL_law 358 = .ok (.ireturn, 1) := by decide +kernel
theorem dL_law_359 : decode cL_law 359 = .ok (.aload_n 1, 1) := by decide +kernel
theorem dL_law_360 : decode cL_law 360 = .ok (.aload_n 0, 1) := by decide +kernel
theorem dL_law_361 : decode cL_law 361 = .ok (.iload_n 3, 1) := by decide +kernel
theorem dL_law_362 : decode cL_law 362 = .ok (.iconst 1, 1) := by decide +kernel
theorem dL_law_363 : decode cL_law 363 = .ok (.iadd, 1) := by decide +kernel
theorem dL_law_364 : decode cL_law 364 = .ok (.iaload, 1) := by decide +kernel
theorem dL_law_365 : decode cL_law 365 = .ok (.invokevirtual 53, 3) := by decide +kernel
theorem dL_law_368 : decode cL_law 368 = .ok (.aload_n 2, 1) := by decide +kernel
theorem dL_law_369 : decode cL_law 369 = .ok (.aload_n 0, 1) := by decide +kernel
theorem dL_law_370 : decode cL_law 370 = .ok (.iload_n 3, 1) := by decide +kernel
theorem dL_law_371 : decode cL_law 371 = .ok (.iconst 1, 1) := by decide +kernel
theorem dL_law_372 : decode cL_law 372 = .ok (.iadd, 1) := by decide +kernel
theorem dL_law_373 : decode cL_law 373 = .ok (.iaload, 1) := by decide +kernel
theorem dL_law_374 : decode cL_law 374 = .ok (.invokevirtual 56, 3) := by decide +kernel
theorem dL_law_377 : decode cL_law 377 = .ok (.if_icmp .eq 97, 3) := by decide +kernel
theorem dL_law_380 : decode cL_law 380 = .ok (.iconst 0, 1) := by decide +kernel
theorem dL_law_381 : decode cL_law 381 = .ok (.ireturn, 1) := by decide +kernel
theorem dL_law_382 : decode cL_law 382 = .ok (.aload_n 1, 1) := by decide +kernel
theorem dL_law_383 : decode cL_law 383 = .ok (.aload_n 0, 1) := by decide +kernel
theorem dL_law_384 : decode cL_law 384 = .ok (.iload_n 3, 1) := by decide +kernel
theorem dL_law_385 : decode cL_law 385 = .ok (.iconst 1, 1) := by decide +kernel
theorem dL_law_386 : decode cL_law 386 = .ok (.iadd, 1) := by decide +kernel
theorem dL_law_387 : decode cL_law 387 = .ok (.iaload, 1) := by decide +kernel
theorem dL_law_388 : decode cL_law 388 = .ok (.aload_n 0, 1) := by decide +kernel
theorem dL_law_389 : decode cL_law 389 = .ok (.iload_n 3, 1) := by decide +kernel
theorem dL_law_390 : decode cL_law 390 = .ok (.iconst 2, 1) := by decide +kernel
theorem dL_law_391 : decode cL_law 391 = .ok (.iadd, 1) := by decide +kernel
theorem dL_law_392 : decode cL_law 392 = .ok (.iaload, 1) := by decide +kernel
theorem dL_law_393 : decode cL_law 393 = .ok (.invokevirtual 57, 3) := by decide +kernel
theorem dL_law_396 : decode cL_law 396 = .ok (.aload_n 2, 1) := by decide +kernel
theorem dL_law_397 : decode cL_law 397 = .ok (.aload_n 0, 1) := by decide +kernel
theorem dL_law_398 : decode cL_law 398 = .ok (.iload_n 3, 1) := by decide +kernel
theorem dL_law_399 : decode cL_law 399 = .ok (.iconst 1, 1) := by decide +kernel
theorem dL_law_400 : decode cL_law 400 = .ok (.iadd, 1) := by decide +kernel
theorem dL_law_401 : decode cL_law 401 = .ok (.iaload, 1) := by decide +kernel
theorem dL_law_402 : decode cL_law 402 = .ok (.aload_n 0, 1) := by decide +kernel
theorem dL_law_403 : decode cL_law 403 = .ok (.iload_n 3, 1) := by decide +kernel
theorem dL_law_404 : decode cL_law 404 = .ok (.iconst 2, 1) := by decide +kernel
theorem dL_law_405 : decode cL_law 405 = .ok (.iadd, 1) := by decide +kernel
theorem dL_law_406 : decode cL_law 406 = .ok (.iaload, 1) := by decide +kernel
theorem dL_law_407 : decode cL_law 407 = .ok (.invokevirtual 61, 3) := by decide +kernel
theorem dL_law_410 : decode cL_law 410 = .ok (.if_icmp .eq 64, 3) := by decide +kernel
theorem dL_law_413 : decode cL_law 413 = .ok (.iconst 0, 1) := by decide +kernel
theorem dL_law_414 : decode cL_law 414 = .ok (.ireturn, 1) := by decide +kernel
theorem dL_law_415 : decode cL_law 415 = .ok (.aload_n 1, 1) := by decide +kernel
theorem dL_law_416 : decode cL_law 416 = .ok (.invokevirtual 62, 3) := by decide +kernel
theorem dL_law_419 : decode cL_law 419 = .ok (.aload_n 2, 1) := by decide +kernel
theorem dL_law_420 : decode cL_law 420 = .ok (.invokevirtual 66, 3) := by decide +kernel
theorem dL_law_423 : decode cL_law 423 = .ok (.if_icmp .eq 51, 3) := by decide +kernel
theorem dL_law_426 : decode cL_law 426 = .ok (.iconst 0, 1) := by decide +kernel
theorem dL_law_427 : decode cL_law 427 = .ok (.ireturn, 1) := by decide +kernel
theorem dL_law_428 : decode cL_law 428 = .ok (.aload_n 1, 1) := by decide +kernel
theorem dL_law_429 : decode cL_law 429 = .ok (.aload_n 0, 1) := by decide +kernel
theorem dL_law_430 : decode cL_law 430 = .ok (.iload_n 3, 1) := by decide +kernel
theorem dL_law_431 : decode cL_law 431 = .ok (.iconst 1, 1) := by decide +kernel
theorem dL_law_432 : decode cL_law 432 = .ok (.iadd, 1) := by decide +kernel
theorem dL_law_433 : decode cL_law 433 = .ok (.iaload, 1) := by decide +kernel
theorem dL_law_434 : decode cL_law 434 = .ok (.invokevirtual 67, 3) := by decide +kernel
theorem dL_law_437 : decode cL_law 437 = .ok (.aload_n 2, 1) := by decide +kernel
theorem dL_law_438 : decode cL_law 438 = .ok (.aload_n 0, 1) := by decide +kernel
theorem dL_law_439 : decode cL_law 439 = .ok (.iload_n 3, 1) := by decide +kernel
theorem dL_law_440 : decode cL_law 440 = .ok (.iconst 1, 1) := by decide +kernel
theorem dL_law_441 : decode cL_law 441 = .ok (.iadd, 1) := by decide +kernel
theorem dL_law_442 : decode cL_law 442 = .ok (.iaload, 1) := by decide +kernel
theorem dL_law_443 : decode cL_law 443 = .ok (.invokevirtual 70, 3) := by decide +kernel
theorem dL_law_446 : decode cL_law 446 = .ok (.if_icmp .eq 28, 3) := by decide +kernel
theorem dL_law_449 : decode cL_law 449 = .ok (.iconst 0, 1) := by decide +kernel
theorem dL_law_450 : decode cL_law 450 = .ok (.ireturn, 1) := by decide +kernel
theorem dL_law_451 : decode cL_law 451 = .ok (.aload_n 1, 1) := by decide +kernel
theorem dL_law_452 : decode cL_law 452 = .ok (.aload_n 0, 1) := by decide +kernel
theorem dL_law_453 : decode cL_law 453 = .ok (.iload_n 3, 1) := by decide +kernel
theorem dL_law_454 : decode cL_law 454 = .ok (.iconst 1, 1) := by decide +kernel
theorem dL_law_455 : decode cL_law 455 = .ok (.iadd, 1) := by decide +kernel
theorem dL_law_456 : decode cL_law 456 = .ok (.iaload, 1) := by decide +kernel
theorem dL_law_457 : decode cL_law 457 = .ok (.invokevirtual 71, 3) := by decide +kernel
theorem dL_law_460 : decode cL_law 460 = .ok (.aload_n 2, 1) := by decide +kernel
theorem dL_law_461 : decode cL_law 461 = .ok (.aload_n 0, 1) := by decide +kernel
theorem dL_law_462 : decode cL_law 462 = .ok (.iload_n 3, 1) := by decide +kernel
theorem dL_law_463 : decode cL_law 463 = .ok (.iconst 1, 1) := by decide +kernel
theorem dL_law_464 : decode cL_law 464 = .ok (.iadd, 1) := by decide +kernel
theorem dL_law_465 : decode cL_law 465 = .ok (.iaload, 1) := by decide +kernel
theorem dL_law_466 : decode cL_law 466 = .ok (.invokevirtual 74, 3) := by decide +kernel
theorem dL_law_469 : decode cL_law 469 = .ok (.if_icmp .eq 5, 3) := by decide +kernel
theorem dL_law_472 : decode cL_law 472 = .ok (.iconst 0, 1) := by decide +kernel
theorem dL_law_473 : decode cL_law 473 = .ok (.ireturn, 1) := by decide +kernel
theorem dL_law_474 : decode cL_law 474 = .ok (.iinc 3 3, 3) := by decide +kernel
theorem dL_law_477 : decode cL_law 477 = .ok (.goto (-459), 3) := by decide +kernel
theorem dL_law_480 : decode cL_law 480 = .ok (.iconst 1, 1) := by decide +kernel
theorem dL_law_481 : decode cL_law 481 = .ok (.ireturn, 1) := by decide +kernel
end
end
section
section
/-! CONTRACTS IN ONE FORM. The cells wc go in, the cells w1 come out, the answer is rv; nothing else changes. -/
def ct_pre (D : va_G) (cl : List vw_C) (ty : List (ClassId × FieldType)) (wc : va_W) (sz : Nat) (U : State) : Prop := U.heap.size = sz ∧ va_P D cl wc U.heap ∧ va_K D cl ty U ∧ va_D (fun _ => True) wc
def ct_QI (D : va_G) (cl : List vw_C) (rv : Int32) (w1 : va_W) (A : Nat → Prop) : Array Value → State → Outcome → State → Prop := va_Qi (fun (r : Int32) (_ : Unit) => r = rv) (fun _ t => va_P D cl w1 t.heap ∧ va_D A w1) A
def ct_QV {S : Type} (D : va_G) (cl : List vw_C) (w1 : S → va_W) (A : Nat → Prop) : Array Value → State → Outcome → State → Prop := va_Qv (fun (_ : S) => True) (fun u t => va_P D cl (w1 u) t.heap ∧ va_D A (w1 u)) A
/-- a method that answers an int (or a boolean) and makes nothing -/
def CtI (l : Launch) (D : va_G) (cl : List vw_C) (ty : List (ClassId × FieldType)) (y : MethodName) (ws : List Cond) (rm : Room) (av : List Value) (wc w1 : va_W) (rv : Int32) : Prop :=
  ∀ sz : Nat, Met l y ws rm (va_Pc av (ct_pre D cl ty wc sz)) (ct_QI D cl rv w1 (va_A wc sz)) 0 0 (va_A wc sz)
/-- a method that answers nothing and makes mc cells of ms slots: their addresses are S -/
def CtV {S : Type} (l : Launch) (D : va_G) (cl : List vw_C) (ty : List (ClassId × FieldType)) (y : MethodName) (ws : List Cond) (rm : Room) (av : List Value) (wc : va_W) (w1 : S → va_W) (mc ms : Nat) : Prop :=
  ∀ sz : Nat, Met l y ws rm (va_Pc av (ct_pre D cl ty wc sz)) (ct_QV D cl w1 (va_A wc sz)) mc ms (va_A wc sz)
theorem ct_blind {av : List Value} {D : va_G} {cl : List vw_C} {ty : List (ClassId × FieldType)} {wc : va_W} {sz : Nat} : FrameBlind (va_Pc av (ct_pre D cl ty wc sz)) := fun a U g mk q => by
  obtain ⟨q0, q1, qP, qK, qD⟩ := q
  exact ⟨q0, q1, qP, va_K.moved (u := U) (U := U.calling g mk a) (Vm.Alike.refl U.vm) qK, qD⟩
theorem ct_pick : ∀ {is : List Nat} {ws wc : va_W}, is.map (fun i => ws[i]?) = wc.map some → is.filterMap (fun i => ws[i]?) = wc
  | [], _, [], _ => rfl
  | [], _, _ :: _, h => by simp at h
  | _ :: _, _, [], h => by simp at h
  | i :: is, ws, q :: wc, h => by
    simp only [List.map_cons, List.cons.injEq] at h
    rw [List.filterMap_cons, h.1]
    exact congrArg (q :: ·) (ct_pick h.2)
/-- what a method has in hand as it begins -/
def ct_Beg (p : Program) (D : va_G) (cl : List vw_C) (ty : List (ClassId × FieldType)) (y : MethodName) (ws : List Cond) (av : List Value) (wc : va_W) (cc : ByteArray) (maxL : Nat) (ret : Option FieldType) (s : State) (m : MethodId) (meth : Method) (c : Code) (A : Nat → Prop) : Prop :=
  p.tables.exec = Jvm.exec ∧ c.code = cc ∧ meth.sig.returnType = ret ∧ c.maxLocals = maxL ∧ (∀ w ∈ ws, w.before av.toArray s = true) ∧ s.vm.findClass y.cls = some m.cls ∧ meth.locks = false ∧ meth.name = y.name ∧ (∀ q : Nat, s.heap.size ≤ q → A q) ∧ va_K D cl ty s ∧ va_P D cl wc s.heap ∧ va_D A wc ∧ va_S A s.heap s.heap []
section
variable {l : Launch} {D : va_G} {cl : List vw_C} {ty : List (ClassId × FieldType)} {y : MethodName} {ws ws' : List Cond} {rm : Room} {av : List Value} {wc : va_W} {cc : ByteArray} {maxL : Nat} {ret : Option FieldType}
theorem CtI.mk {w1 : va_W} {rv : Int32} (hy : plainName y.cls = true) (hw : ws = Cond.code y cc maxL ret :: ws') (hlen : (lg_sl av).length ≤ maxL)
    (body : ∀ (p : Program) (e : Env) (s : State) (m : MethodId) (below : List Frame) (meth : Method) (c : Code) (A : Nat → Prop), ct_Beg p D cl ty y ws av wc cc maxL ret s m meth c A → ∀ ls : Array Slot, lv_has ls maxL (lv_args 0 av) →
      W p l e (headSpec ws rm).room s m av.toArray below meth c s.heap [] 0 0 (MQ below (ct_QI D cl rv w1 A) av.toArray s 0 0 A) (F0 m 0 ls [])) : CtI l D cl ty y ws rm av wc w1 rv := by
  intro sz
  refine Met.ofW (cc := cc) (maxL := maxL) (ret := ret) hy hw ?_
  intro p e s m args below meth c s₁ B hml hv
  obtain ⟨rfl, hsz, hP, hK, hD0⟩ := hv
  subst hsz
  have hl := lv_entry av (n := maxL) hlen
  rw [lg_entry_eq]
  exact body p e s m below meth c _ ⟨B.exec, B.bytes, B.returns, hml, atoms_spec (ws := ws) B.pre, findClass_of_methodNamed B.named, B.notSynchronized, (name_of_methodNamed B.named B.method).1, fun q h => Or.inr h, hK, hP, hD0.self (sz := s.heap.size), va_S.rf⟩ _ hl
theorem CtV.mk {S : Type} {w1 : S → va_W} {mc ms : Nat} (hy : plainName y.cls = true) (hw : ws = Cond.code y cc maxL ret :: ws') (hlen : (lg_sl av).length ≤ maxL)
    (body : ∀ (p : Program) (e : Env) (s : State) (m : MethodId) (below : List Frame) (meth : Method) (c : Code) (A : Nat → Prop), ct_Beg p D cl ty y ws av wc cc maxL ret s m meth c A → ∀ ls : Array Slot, lv_has ls maxL (lv_args 0 av) →
      W p l e (headSpec ws rm).room s m av.toArray below meth c s.heap [] 0 0 (MQ below (ct_QV D cl w1 A) av.toArray s mc ms A) (F0 m 0 ls [])) : CtV l D cl ty y ws rm av wc w1 mc ms := by
  intro sz
  refine Met.ofW (cc := cc) (maxL := maxL) (ret := ret) hy hw ?_
  intro p e s m args below meth c s₁ B hml hv
  obtain ⟨rfl, hsz, hP, hK, hD0⟩ := hv
  subst hsz
  have hl := lv_entry av (n := maxL) hlen
  rw [lg_entry_eq]
  exact body p e s m below meth c _ ⟨B.exec, B.bytes, B.returns, hml, atoms_spec (ws := ws) B.pre, findClass_of_methodNamed B.named, B.notSynchronized, (name_of_methodNamed B.named B.method).1, fun q h => Or.inr h, hK, hP, hD0.self (sz := s.heap.size), va_S.rf⟩ _ hl
end
section
variable {p : Program} {l : Launch} {e : Env} {R : Room} {s : State} {m : MethodId} {args : Array Value} {below : List Frame} {meth : Method} {c : Code} {H : Heap} {locs : List Loc} {cells slots : Nat} {Q : State → Prop} {D : va_G} {cl : List vw_C} {ty : List (ClassId × FieldType)} {A : Nat → Prop} {cc : ByteArray} {pc : Nat} {ls : Array Slot} {ww : va_W}
/-- the ends -/
theorem ct_iret {w1 : va_W} {v rv : Int32} (hx : p.tables.exec = Jvm.exec) (hb : c.code = cc) (hr : meth.sig.returnType = some .int) (hlocks : meth.locks = false) (hP : va_P D cl ww H) (hD : va_D A ww) (hS : va_S A s.heap H locs) (hw : ww = w1) (hv : v = rv) (hdg : decode cc pc = .ok (.ireturn, 1)) :
    W p l e R s m args below meth c H locs cells slots (MQ below (ct_QI D cl rv w1 A) args s cells slots A) (F0 m pc ls [.int v]) := by
  subst hw hv
  exact W.iret hx hb hr (fun t ht hW => ⟨⟨_, (), rfl, rfl, by rw [ht]; exact hP, hD⟩, hS.F ht⟩) hS.2.2 hdg hlocks
theorem ct_zret {w1 : va_W} {v rv : Int32} (hx : p.tables.exec = Jvm.exec) (hb : c.code = cc) (hr : meth.sig.returnType = some .boolean) (hlocks : meth.locks = false) (hP : va_P D cl ww H) (hD : va_D A ww) (hS : va_S A s.heap H locs) (hw : ww = w1) (hv : v = rv) (hz : v = 0 ∨ v = 1) (hdg : decode cc pc = .ok (.ireturn, 1)) :
    W p l e R s m args below meth c H locs cells slots (MQ below (ct_QI D cl rv w1 A) args s cells slots A) (F0 m pc ls [.int v]) := by
  subst hw hv
  exact W.zret hx hb hr (by rcases hz with h | h <;> (rw [h]; rfl)) (fun t ht hW => ⟨⟨_, (), rfl, rfl, by rw [ht]; exact hP, hD⟩, hS.F ht⟩) hS.2.2 hdg hlocks
theorem ct_vret {S : Type} {w1 : S → va_W} (u : S) (hx : p.tables.exec = Jvm.exec) (hb : c.code = cc) (hr : meth.sig.returnType = none) (hlocks : meth.locks = false) (hP : va_P D cl ww H) (hD : va_D A ww) (hS : va_S A s.heap H locs) (hw : ww = w1 u) (hdg : decode cc pc = .ok (.return_, 1)) :
    W p l e R s m args below meth c H locs cells slots (MQ below (ct_QV D cl w1 A) args s cells slots A) (F0 m pc ls []) := by
  subst hw
  exact W.vret hx hb hr (fun t ht hW => ⟨⟨u, rfl, trivial, by rw [ht]; exact hP, hD⟩, hS.F ht⟩) hS.2.2 hdg hlocks
variable {nL n index maxL mc ms : Nat} {Ts ws : List Cond} {own C : String} {y : MethodName} {bytes : ByteArray} {ret : Option FieldType} {rm : Room} {H0 : Heap} {wc wr : va_W} {b : Nat} {As rest st0 : List Value}
/-- behind a call: the caller's other cells ahead of the callee's -/
theorem ct_back {w1 : va_W} (hP : va_P D cl ww H) (hD : va_D A ww) (hS : va_S A H0 H locs) (hA : ∀ q : Nat, H0.size ≤ q → A q) (isC isR : List Nat) (hC : isC.map (fun i => ww[i]?) = wc.map some) (hR : isR.map (fun i => ww[i]?) = wr.map some) (hn : va_nd isR = true) (hdis : ∀ i ∈ isR, i ∉ isC) {t : State} {H1 : Heap} (ht : t.heap = H1)
    (hB : va_P D cl w1 t.heap ∧ va_D (va_A wc H.size) w1) (hk : ∀ q : Nat, q < H.size → ¬ va_A wc H.size q → H1[q]? = H[q]?) : va_P D cl (wr ++ w1) H1 ∧ va_D A (wr ++ w1) :=
  va_join hP hD isC isR hC hR hn hdis hk (va_free hD hS hA isC hC) (by rw [← ht]; exact hB.1) hB.2
theorem ct_ready (hK : va_K D cl ty s) (hP : va_P D cl ww H) (hD : va_D A ww) (isC : List Nat) (hC : isC.map (fun i => ww[i]?) = wc.map some) (hnC : va_nd isC = true) {av : List Value} : ∀ U : State, U.heap = H → s.WarmedH U.vm → va_Pc av (ct_pre D cl ty wc H.size) av.toArray U := fun U hU hW =>
  ⟨rfl, by rw [hU], by rw [hU]; exact hP.sub isC (ct_pick hC), va_K.moved hW.alike hK, (hD.sub isC hnC hC).weaken (fun _ _ _ _ => trivial)⟩
theorem ctI_V {w1 : va_W} {rv : Int32} {ci : Nat} {qC : vw_C} {fs : List Value} (S : CallFix p m c cc nL s args Ts own) (hM : CtI l D cl ty y ws rm (.ref b :: As) wc w1 rv) (cw : CallW R s args own C index y bytes maxL ret ws rm 0 0 n)
    (hK : va_K D cl ty s) (hP : va_P D cl ww H) (hD : va_D A ww) (hS : va_S A H0 H locs) (hA : ∀ q : Nat, H0.size ≤ q → A q) (q0 : Nat) (hcl : cl[ci]? = some qC) (hq0 : ww[q0]? = some (b, .inr (ci, fs))) (hCn : qC.1 = C)
    (isC isR : List Nat) (hC : isC.map (fun i => ww[i]?) = wc.map some) (hR : isR.map (fun i => ww[i]?) = wr.map some) (hnC : va_nd isC = true) (hn : va_nd isR = true) (hdis : ∀ i ∈ isR, i ∉ isC)
    (hst : st0 = As.reverse ++ .ref b :: rest) (hlen : As.length = n) (hsize : ls.size = nL) (hW : (rest.map fun v => v.category).sum ≤ 8) (hdg : decode cc pc = .ok (.invokevirtual index, 3)) (hf : cells ≤ R.cells ∧ slots ≤ R.slots)
    (kk : ∀ (H1 : Heap) (locs1 : List Loc), va_P D cl (wr ++ w1) H1 → va_D A (wr ++ w1) → va_S A H0 H1 locs1 → W p l e R s m args below meth c H1 locs1 cells slots Q (F0 m (pc + 3) ls (.int rv :: rest))) : W p l e R s m args below meth c H locs cells slots Q (F0 m pc ls st0) := by
  subst hCn
  have hF := va_free hD hS hA isC hC
  refine va_calli (va_runV (As := As) (rest := rest) S (hM H.size) cw ⟨ct_blind, va_recv hK hP hcl hq0, ct_ready hK hP hD isC hC hnC⟩ rfl hlen hsize hst (lv_room hW) hdg hf) hS (fun q _ h => hF q h) hF (fun r u t H1 locs1 ht hvm hw hB hz1 hk1 hS1 => ?_)
  obtain ⟨hP1, hD1⟩ := ct_back hP hD hS hA isC isR hC hR hn hdis ht hB hk1
  have hw : r = rv := hw
  subst hw
  exact kk H1 locs1 hP1 hD1 hS1
theorem ctV_V {S1 : Type} {w1 : S1 → va_W} {ci : Nat} {qC : vw_C} {fs : List Value} (S : CallFix p m c cc nL s args Ts own) (hM : CtV l D cl ty y ws rm (.ref b :: As) wc w1 mc ms) (cw : CallW R s args own C index y bytes maxL ret ws rm mc ms n)
    (hK : va_K D cl ty s) (hP : va_P D cl ww H) (hD : va_D A ww) (hS : va_S A H0 H locs) (hA : ∀ q : Nat, H0.size ≤ q → A q) (q0 : Nat) (hcl : cl[ci]? = some qC) (hq0 : ww[q0]? = some (b, .inr (ci, fs))) (hCn : qC.1 = C)
    (isC isR : List Nat) (hC : isC.map (fun i => ww[i]?) = wc.map some) (hR : isR.map (fun i => ww[i]?) = wr.map some) (hnC : va_nd isC = true) (hn : va_nd isR = true) (hdis : ∀ i ∈ isR, i ∉ isC)
    (hst : st0 = As.reverse ++ .ref b :: rest) (hlen : As.length = n) (hsize : ls.size = nL) (hW : (rest.map fun v => v.category).sum ≤ 8) (hdg : decode cc pc = .ok (.invokevirtual index, 3)) (hf : cells + mc ≤ R.cells ∧ slots + ms ≤ R.slots)
    (kk : ∀ (u : S1) (H1 : Heap) (locs1 : List Loc), va_P D cl (wr ++ w1 u) H1 → va_D A (wr ++ w1 u) → va_S A H0 H1 locs1 → W p l e R s m args below meth c H1 locs1 (cells + mc) (slots + ms) Q (F0 m (pc + 3) ls rest)) : W p l e R s m args below meth c H locs cells slots Q (F0 m pc ls st0) := by
  subst hCn
  have hF := va_free hD hS hA isC hC
  refine va_callv (va_runV (As := As) (rest := rest) S (hM H.size) cw ⟨ct_blind, va_recv hK hP hcl hq0, ct_ready hK hP hD isC hC hnC⟩ rfl hlen hsize hst (lv_room hW) hdg hf) hS (fun q _ h => hF q h) hF (fun u t H1 locs1 ht hvm hw hB hz1 hk1 hS1 => ?_)
  obtain ⟨hP1, hD1⟩ := ct_back hP hD hS hA isC isR hC hR hn hdis ht hB hk1
  exact kk u H1 locs1 hP1 hD1 hS1
theorem ctI_S {w1 : va_W} {rv : Int32} (S : CallFix p m c cc nL s args Ts own) (hM : CtI l D cl ty y ws rm As wc w1 rv) (cw : CallB R s args own index y bytes maxL ret ws rm 0 0 n ∧ (Cond.static y).before args s = true)
    (hK : va_K D cl ty s) (hP : va_P D cl ww H) (hD : va_D A ww) (hS : va_S A H0 H locs) (hA : ∀ q : Nat, H0.size ≤ q → A q)
    (isC isR : List Nat) (hC : isC.map (fun i => ww[i]?) = wc.map some) (hR : isR.map (fun i => ww[i]?) = wr.map some) (hnC : va_nd isC = true) (hn : va_nd isR = true) (hdis : ∀ i ∈ isR, i ∉ isC)
    (hst : st0 = As.reverse ++ rest) (hlen : As.length = n) (hsize : ls.size = nL) (hW : (rest.map fun v => v.category).sum ≤ 8) (hdg : decode cc pc = .ok (.invokestatic index, 3)) (hf : cells ≤ R.cells ∧ slots ≤ R.slots)
    (kk : ∀ (H1 : Heap) (locs1 : List Loc), va_P D cl (wr ++ w1) H1 → va_D A (wr ++ w1) → va_S A H0 H1 locs1 → W p l e R s m args below meth c H1 locs1 cells slots Q (F0 m (pc + 3) ls (.int rv :: rest))) : W p l e R s m args below meth c H locs cells slots Q (F0 m pc ls st0) := by
  have hF := va_free hD hS hA isC hC
  refine va_calli (va_runS (As := As) (rest := rest) S (hM H.size) cw ⟨ct_blind, ct_ready hK hP hD isC hC hnC⟩ rfl hlen hsize hst (lv_room hW) hdg hf) hS (fun q _ h => hF q h) hF (fun r u t H1 locs1 ht hvm hw hB hz1 hk1 hS1 => ?_)
  obtain ⟨hP1, hD1⟩ := ct_back hP hD hS hA isC isR hC hR hn hdis ht hB hk1
  have hw : r = rv := hw
  subst hw
  exact kk H1 locs1 hP1 hD1 hS1
theorem ctV_I {S1 : Type} {w1 : S1 → va_W} (S : CallFix p m c cc nL s args Ts own) (hM : CtV l D cl ty y ws rm (.ref b :: As) wc w1 mc ms) (cw : CallB R s args own index y bytes maxL none ws rm mc ms n ∧ y.name = "<init>" ∧ (Cond.instanceMethod y).before args s = true)
    (hK : va_K D cl ty s) (hP : va_P D cl ww H) (hD : va_D A ww) (hS : va_S A H0 H locs) (hA : ∀ q : Nat, H0.size ≤ q → A q)
    (isC isR : List Nat) (hC : isC.map (fun i => ww[i]?) = wc.map some) (hR : isR.map (fun i => ww[i]?) = wr.map some) (hnC : va_nd isC = true) (hn : va_nd isR = true) (hdis : ∀ i ∈ isR, i ∉ isC)
    (hst : st0 = As.reverse ++ .ref b :: rest) (hlen : As.length = n) (hsize : ls.size = nL) (hW : (rest.map fun v => v.category).sum ≤ 8) (hdg : decode cc pc = .ok (.invokespecial index, 3)) (hf : cells + mc ≤ R.cells ∧ slots + ms ≤ R.slots)
    (kk : ∀ (u : S1) (H1 : Heap) (locs1 : List Loc), va_P D cl (wr ++ w1 u) H1 → va_D A (wr ++ w1 u) → va_S A H0 H1 locs1 → W p l e R s m args below meth c H1 locs1 (cells + mc) (slots + ms) Q (F0 m (pc + 3) ls rest)) : W p l e R s m args below meth c H locs cells slots Q (F0 m pc ls st0) := by
  have hF := va_free hD hS hA isC hC
  refine va_callv (va_runI (As := As) (rest := rest) S (hM H.size) cw ⟨ct_blind, ct_ready hK hP hD isC hC hnC⟩ rfl hlen hsize hst (lv_room hW) hdg hf) hS (fun q _ h => hF q h) hF (fun u t H1 locs1 ht hvm hw hB hz1 hk1 hS1 => ?_)
  obtain ⟨hP1, hD1⟩ := ct_back hP hD hS hA isC isR hC hR hn hdis ht hB hk1
  exact kk u H1 locs1 hP1 hD1 hS1
end
end
section
def jushr (x y : Int32) : Int32 := (x.toUInt32 >>> (y.toUInt32 &&& Int32.toUInt32 31)).toInt32
theorem ct_merge {p : Program} {l : Launch} {e : Env} {R : Room} {s : State} {m : MethodId} {args : Array Value} {below : List Frame} {meth : Method} {c : Code} {H : Heap} {locs : List Loc} {cells slots : Nat} {Q : State → Prop} {g : JFrame} (P : Heap → List Loc → Array Slot → Prop) (pc2 : Nat) (st2 : List Value)
    (k : ∀ (H : Heap) (locs : List Loc) (ls : Array Slot), P H locs ls → W p l e R s m args below meth c H locs cells slots Q (F0 m pc2 ls st2))
    (b : (∀ (H : Heap) (locs : List Loc) (ls : Array Slot), P H locs ls → W p l e R s m args below meth c H locs cells slots Q (F0 m pc2 ls st2)) → W p l e R s m args below meth c H locs cells slots Q g) : W p l e R s m args below meth c H locs cells slots Q g := b k
end
end
section
section
theorem vp_of2 {x y : Int32} {n : Nat} (hy : y.toInt = n) (h0 : ¬ x < 0) (h1 : ¬ y ≤ x) : vp_in x n := by
  rw [vp_in_iff]
  rw [Int32.lt_iff_toInt_lt] at h0
  rw [Int32.le_iff_toInt_le] at h1
  have h2 : (0 : Int32).toInt = 0 := by decide
  omega
theorem vp_of3 {x : Int32} {n : Nat} (hn : n < 2147483648) (h0 : ¬ x < 0) (h1 : ¬ Int32.ofNat n ≤ x) : vp_in x n :=
  vp_of2 (nI_toInt hn) h0 h1
theorem vp_of4 {x : Int32} {n : Nat} (hn : n < 2147483648) (h0 : ¬ x < 0) (h1 : x < Int32.ofNat n) : vp_in x n :=
  vp_of3 hn h0 (fun h => by rw [Int32.lt_iff_toInt_lt] at h1; rw [Int32.le_iff_toInt_le] at h; omega)
theorem ju_nat (x : Int32) (s : Int32) (k : Nat) (hs : ((s.toUInt32 &&& Int32.toUInt32 31).toBitVec % 32).toNat = k) : (jushr x s).toBitVec.toNat = x.toBitVec.toNat / 2 ^ k := pk_ushr x s k hs
theorem nI_bv (x : Int32) : x = nI x.toBitVec.toNat := by
  apply Int32.toBitVec_inj.mp
  apply BitVec.eq_of_toNat_eq
  rw [pk_tn (x.toBitVec.isLt)]
theorem ju_27 (x : Int32) : ∃ j : Nat, j < 32 ∧ jushr x 27 = nI j := by
  refine ⟨(jushr x 27).toBitVec.toNat, ?_, nI_bv _⟩
  rw [ju_nat x 27 27 (by decide)]
  have := x.toBitVec.isLt
  omega
theorem vp_rsel (x : Int32) : vp_in (jushr x 27) 32 := by
  obtain ⟨j, hj, e⟩ := ju_27 x
  rw [e]
  exact vp_in_nI hj (by decide)
theorem vp_cix (x y : Int32) : vp_in (8 * jushr x 27 + (y &&& 7)) 256 := by
  obtain ⟨j, hj, e⟩ := ju_27 x
  obtain ⟨k, hk, e2⟩ := pk_andE y (m := 7) 3 (by decide)
  rw [e, e2, show (8 : Int32) = nI 8 from rfl, pk_mul, nI_add]
  exact vp_in_nI (by omega) (by decide)
end
end
section
section
set_option maxHeartbeats 4000000 in
set_option maxRecDepth 100000 in
theorem c_X0_init (l : Launch) (D : va_G) (cI cZ : ClassId) (qM : Nat) (mar : Int32) (rst : Int32) : CtV l D classes [(cI, .int), (cZ, .boolean)] yX0_init w_X0_init { frames := 1, cells := 1, slots := 1024, locals := 12 } [.ref qM] [(qM, .inr (0, [.null, .int mar, .int rst]))] (fun (qW : Nat) => [(qM, .inr (0, [.ref qW, .int mar, .int 5])), (qW, .inl (cI, 1024, .inl (fun _ => 0)))]) 1 1024 := by
  refine CtV.mk (cc := cX0_init) (maxL := 1) (ret := none) (by decide) rfl (Nat.le_of_ble_eq_true rfl) ?_
  intro p e s m below meth c A hBeg ls hl
  obtain ⟨hx, hb, hr, hml, hts0, hown, hlocks, hin, hA, hK, hP, hD, hS⟩ := hBeg
  have hts := fun w h => hts0 w (List.mem_cons_of_mem _ h)
  have hown : s.vm.findClass RX0 = some m.cls := hown
  have hl : lv_has ls 1 [(0, .ref qM)] := hl
  skip
  refine lv_aload_n hx hb dX0_init_0 rfl (lv_at hl 0 rfl) ?_
  refine W.objInit hx hb hown (hts _ wm_X0_3) (hts _ wi_obj) (hts _ wo_obj) rfl (by rw [hml]; exact hl.1) rfl dX0_init_1 (Nat.le_of_ble_eq_true rfl) (Nat.le_of_ble_eq_true rfl) ?_
  refine W.eq (g2 := F0 m 4 ls []) rfl ?_
  refine lv_aload_n hx hb dX0_init_4 rfl (lv_at hl 0 rfl) ?_
  refine lv_sipush (v := 1024) hx hb dX0_init_5 (by decide) ?_
  refine va_newa (atype := .int) (ty := .int) (N' := 1024) (a0 := (1024, .inl (fun _ => 0))) hx hb (hts _ wa_int) rfl hK hP hD hS hA (fun _ => rfl) (by decide) (by decide) (by decide) (Nat.le_of_ble_eq_true rfl) (Nat.le_of_ble_eq_true rfl) dX0_init_8 (fun q1 cA1 H hK1 hP hD hS => ?_)
  have hcA : cI = cA1 := Option.some.inj ((va_nm_int (hK.2 0 (cI, .int) rfl).2).symm.trans (va_nm_int (hK1.2 2 (cA1, .int) rfl).2))
  subst hcA
  clear hK1
  have hP : va_P D classes [(qM, .inr (0, [.null, .int mar, .int rst])), (q1, .inl (cI, 1024, .inl (fun _ => 0)))] H := hP
  have hD : va_D A [(qM, .inr (0, [.null, .int mar, .int rst])), (q1, .inl (cI, 1024, .inl (fun _ => 0)))] := hD
  refine W.widen (k := 1) (n := 1024) (by omega) (by omega) ?_
  refine va_putF (D := D) (ci := 0) (v := .ref q1) (ty := (.array .int)) (C := RX0) (T := TX0) (N := 3) hx hb hts ilX0 tyX0 tyX0_ok nmX0 hown hK hP hD hS 0 rfl rfl 0 (by decide) (hts _ wf_X0_9) (fun _ h9 => h9) rfl hin rfl (by decide +kernel) rfl rfl (Nat.le_of_ble_eq_true rfl) dX0_init_10 (fun H locs hP hD hS => ?_)
  have hP : va_P D classes [(qM, .inr (0, [.ref q1, .int mar, .int rst])), (q1, .inl (cI, 1024, .inl (fun _ => 0)))] H := hP
  have hD : va_D A [(qM, .inr (0, [.ref q1, .int mar, .int rst])), (q1, .inl (cI, 1024, .inl (fun _ => 0)))] := hD
  refine lv_aload_n hx hb dX0_init_13 rfl (lv_at hl 0 rfl) ?_
  refine lv_iconst (v := 5) hx hb dX0_init_14 (by decide) ?_
  refine va_put (D := D) (ci := 0) (v := .int 5) (ty := (.int)) (C := RX0) (T := TX0) (N := 3) hx hb hts ilX0 tyX0 tyX0_ok nmX0 hown hK hP hD hS 0 rfl rfl 2 (by decide) (hts _ wf_X0_15) (fun _ h9 => h9) rfl (by decide +kernel) rfl rfl (Nat.le_of_ble_eq_true rfl) dX0_init_15 (fun H locs hP hD hS => ?_)
  have hP : va_P D classes [(qM, .inr (0, [.ref q1, .int mar, .int 5])), (q1, .inl (cI, 1024, .inl (fun _ => 0)))] H := hP
  have hD : va_D A [(qM, .inr (0, [.ref q1, .int mar, .int 5])), (q1, .inl (cI, 1024, .inl (fun _ => 0)))] := hD
  exact ct_vret q1 hx hb hr hlocks hP hD hS rfl dX0_init_18
set_option maxHeartbeats 4000000 in
set_option maxRecDepth 100000 in
theorem c_X0_read (l : Launch) (D : va_G) (cI cZ : ClassId) (qM : Nat) (qW : Nat) (fW : Nat → Int32) (mar : Int32) (rst : Int32) : CtI l D classes [(cI, .int), (cZ, .boolean)] yX0_read w_X0_read { frames := 0, cells := 0, slots := 0, locals := 0 } [.ref qM] [(qM, .inr (0, [.ref qW, .int mar, .int rst])), (qW, .inl (cI, 1024, .inl fW))] [(qM, .inr (0, [.ref qW, .int mar, .int rst])), (qW, .inl (cI, 1024, .inl fW))] (fW (Int32.toNatClampNeg (mar &&& 1023))) := by
  refine CtI.mk (cc := cX0_read) (maxL := 1) (ret := (some .int)) (by decide) rfl (Nat.le_of_ble_eq_true rfl) ?_
  intro p e s m below meth c A hBeg ls hl
  obtain ⟨hx, hb, hr, hml, hts0, hown, hlocks, hin, hA, hK, hP, hD, hS⟩ := hBeg
  have hts := fun w h => hts0 w (List.mem_cons_of_mem _ h)
  have hown : s.vm.findClass RX0 = some m.cls := hown
  have hl : lv_has ls 1 [(0, .ref qM)] := hl
  skip
  refine lv_aload_n hx hb dX0_read_0 rfl (lv_at hl 0 rfl) ?_
  refine va_get (D := D) (ci := 0) (v := .ref qW) (C := RX0) (T := TX0) (N := 3) hx hb hts ilX0 hown hK hP 0 rfl rfl 0 (by decide) (hts _ wf_X0_9) (fun _ h9 => h9) rfl dX0_read_1 ?_
  refine lv_aload_n hx hb dX0_read_4 rfl (lv_at hl 0 rfl) ?_
  refine va_get (D := D) (ci := 0) (v := .int mar) (C := RX0) (T := TX0) (N := 3) hx hb hts ilX0 hown hK hP 0 rfl rfl 1 (by decide) (hts _ wf_X0_19) (fun _ h9 => h9) rfl dX0_read_5 ?_
  refine lv_sipush (v := 1023) hx hb dX0_read_8 (by decide) ?_
  refine lv_iand hx hb dX0_read_11 ?_
  refine va_iald hx hb hK hP 1 0 rfl rfl (pk_andIn mar 10 (by decide) (by decide)) dX0_read_12 ?_
  exact ct_iret hx hb hr hlocks hP hD hS rfl rfl dX0_read_13
set_option maxHeartbeats 4000000 in
set_option maxRecDepth 100000 in
theorem c_X0_write (l : Launch) (D : va_G) (cI cZ : ClassId) (qM : Nat) (qW : Nat) (fW : Nat → Int32) (mar : Int32) (rst : Int32) (p0 : Int32) : CtV l D classes [(cI, .int), (cZ, .boolean)] yX0_write w_X0_write { frames := 0, cells := 0, slots := 0, locals := 0 } [.ref qM, .int p0] [(qM, .inr (0, [.ref qW, .int mar, .int rst])), (qW, .inl (cI, 1024, .inl fW))] (fun (_ : Unit) => [(qM, .inr (0, [.ref qW, .int mar, .int rst])), (qW, .inl (cI, 1024, .inl (upd fW (Int32.toNatClampNeg (mar &&& 1023)) p0)))]) 0 0 := by
  refine CtV.mk (cc := cX0_write) (maxL := 2) (ret := none) (by decide) rfl (Nat.le_of_ble_eq_true rfl) ?_
  intro p e s m below meth c A hBeg ls hl
  obtain ⟨hx, hb, hr, hml, hts0, hown, hlocks, hin, hA, hK, hP, hD, hS⟩ := hBeg
  have hts := fun w h => hts0 w (List.mem_cons_of_mem _ h)
  have hown : s.vm.findClass RX0 = some m.cls := hown
  have hl : lv_has ls 2 [(0, .ref qM), (1, .int p0)] := hl
  skip
  refine lv_aload_n hx hb dX0_write_0 rfl (lv_at hl 0 rfl) ?_
  refine va_get (D := D) (ci := 0) (v := .ref qW) (C := RX0) (T := TX0) (N := 3) hx hb hts ilX0 hown hK hP 0 rfl rfl 0 (by decide) (hts _ wf_X0_9) (fun _ h9 => h9) rfl dX0_write_1 ?_
  refine lv_aload_n hx hb dX0_write_4 rfl (lv_at hl 0 rfl) ?_
  refine va_get (D := D) (ci := 0) (v := .int mar) (C := RX0) (T := TX0) (N := 3) hx hb hts ilX0 hown hK hP 0 rfl rfl 1 (by decide) (hts _ wf_X0_19) (fun _ h9 => h9) rfl dX0_write_5 ?_
  refine lv_sipush (v := 1023) hx hb dX0_write_8 (by decide) ?_
  refine lv_iand hx hb dX0_write_11 ?_
  refine lv_iload_n hx hb dX0_write_12 rfl (lv_at hl 1 rfl) ?_
  refine va_iast hx hb hK hP hD hS 1 0 rfl rfl (pk_andIn mar 10 (by decide) (by decide)) dX0_write_13 (fun H locs hP hD hS => ?_)
  have hP : va_P D classes [(qM, .inr (0, [.ref qW, .int mar, .int rst])), (qW, .inl (cI, 1024, .inl (upd fW (Int32.toNatClampNeg (mar &&& 1023)) p0)))] H := hP
  have hD : va_D A [(qM, .inr (0, [.ref qW, .int mar, .int rst])), (qW, .inl (cI, 1024, .inl (upd fW (Int32.toNatClampNeg (mar &&& 1023)) p0)))] := hD
  exact ct_vret () hx hb hr hlocks hP hD hS rfl dX0_write_14
set_option maxHeartbeats 4000000 in
set_option maxRecDepth 100000 in
theorem c_X0_begin (l : Launch) (D : va_G) (cI cZ : ClassId) (qM : Nat) (qW : Nat) (fW : Nat → Int32) (mar : Int32) (rst : Int32) (p0 : Int32) : CtV l D classes [(cI, .int), (cZ, .boolean)] yX0_begin w_X0_begin { frames := 0, cells := 0, slots := 0, locals := 0 } [.ref qM, .int p0] [(qM, .inr (0, [.ref qW, .int mar, .int rst])), (qW, .inl (cI, 1024, .inl fW))] (fun (_ : Unit) => [(qM, .inr (0, [.ref qW, .int p0, .int 0])), (qW, .inl (cI, 1024, .inl fW))]) 0 0 := by
  refine CtV.mk (cc := cX0_begin) (maxL := 2) (ret := none) (by decide) rfl (Nat.le_of_ble_eq_true rfl) ?_
  intro p e s m below meth c A hBeg ls hl
  obtain ⟨hx, hb, hr, hml, hts0, hown, hlocks, hin, hA, hK, hP, hD, hS⟩ := hBeg
  have hts := fun w h => hts0 w (List.mem_cons_of_mem _ h)
  have hown : s.vm.findClass RX0 = some m.cls := hown
  have hl : lv_has ls 2 [(0, .ref qM), (1, .int p0)] := hl
  skip
  refine lv_aload_n hx hb dX0_begin_0 rfl (lv_at hl 0 rfl) ?_
  refine lv_iload_n hx hb dX0_begin_1 rfl (lv_at hl 1 rfl) ?_
  refine va_put (D := D) (ci := 0) (v := .int p0) (ty := (.int)) (C := RX0) (T := TX0) (N := 3) hx hb hts ilX0 tyX0 tyX0_ok nmX0 hown hK hP hD hS 0 rfl rfl 1 (by decide) (hts _ wf_X0_19) (fun _ h9 => h9) rfl (by decide +kernel) rfl rfl (Nat.le_of_ble_eq_true rfl) dX0_begin_2 (fun H locs hP hD hS => ?_)
  have hP : va_P D classes [(qM, .inr (0, [.ref qW, .int p0, .int rst])), (qW, .inl (cI, 1024, .inl fW))] H := hP
  have hD : va_D A [(qM, .inr (0, [.ref qW, .int p0, .int rst])), (qW, .inl (cI, 1024, .inl fW))] := hD
  refine lv_aload_n hx hb dX0_begin_5 rfl (lv_at hl 0 rfl) ?_
  refine lv_iconst (v := 0) hx hb dX0_begin_6 (by decide) ?_
  refine va_put (D := D) (ci := 0) (v := .int 0) (ty := (.int)) (C := RX0) (T := TX0) (N := 3) hx hb hts ilX0 tyX0 tyX0_ok nmX0 hown hK hP hD hS 0 rfl rfl 2 (by decide) (hts _ wf_X0_15) (fun _ h9 => h9) rfl (by decide +kernel) rfl rfl (Nat.le_of_ble_eq_true rfl) dX0_begin_7 (fun H locs hP hD hS => ?_)
  have hP : va_P D classes [(qM, .inr (0, [.ref qW, .int p0, .int 0])), (qW, .inl (cI, 1024, .inl fW))] H := hP
  have hD : va_D A [(qM, .inr (0, [.ref qW, .int p0, .int 0])), (qW, .inl (cI, 1024, .inl fW))] := hD
  exact ct_vret () hx hb hr hlocks hP hD hS rfl dX0_begin_10
def z_X0_rest_qM2 (rst : Int32) : Int32 := (if 5 ≤ rst then rst else rst + 1)
set_option maxHeartbeats 4000000 in
set_option maxRecDepth 100000 in
theorem c_X0_rest (l : Launch) (D : va_G) (cI cZ : ClassId) (qM : Nat) (qW : Nat) (fW : Nat → Int32) (mar : Int32) (rst : Int32) : CtV l D classes [(cI, .int), (cZ, .boolean)] yX0_rest w_X0_rest { frames := 0, cells := 0, slots := 0, locals := 0 } [.ref qM] [(qM, .inr (0, [.ref qW, .int mar, .int rst])), (qW, .inl (cI, 1024, .inl fW))] (fun (_ : Unit) => [(qM, .inr (0, [.ref qW, .int mar, .int (z_X0_rest_qM2 rst)])), (qW, .inl (cI, 1024, .inl fW))]) 0 0 := by
  refine CtV.mk (cc := cX0_rest) (maxL := 1) (ret := none) (by decide) rfl (Nat.le_of_ble_eq_true rfl) ?_
  intro p e s m below meth c A hBeg ls hl
  obtain ⟨hx, hb, hr, hml, hts0, hown, hlocks, hin, hA, hK, hP, hD, hS⟩ := hBeg
  have hts := fun w h => hts0 w (List.mem_cons_of_mem _ h)
  have hown : s.vm.findClass RX0 = some m.cls := hown
  have hl : lv_has ls 1 [(0, .ref qM)] := hl
  skip
  refine lv_aload_n hx hb dX0_rest_0 rfl (lv_at hl 0 rfl) ?_
  refine va_get (D := D) (ci := 0) (v := .int rst) (C := RX0) (T := TX0) (N := 3) hx hb hts ilX0 hown hK hP 0 rfl rfl 2 (by decide) (hts _ wf_X0_15) (fun _ h9 => h9) rfl dX0_rest_1 ?_
  refine lv_iconst (v := 5) hx hb dX0_rest_4 (by decide) ?_
  refine lv_icmp_ge (tgt := 18) hx hb dX0_rest_5 (by decide) (fun c_1 => ?_) (fun c_1 => ?_)
  · skip
    have e_1 : z_X0_rest_qM2 rst = rst := by simp only [z_X0_rest_qM2, if_pos c_1]
    exact ct_vret () hx hb hr hlocks hP hD hS (by rw [e_1]) dX0_rest_18
  · skip
    refine lv_aload_n hx hb dX0_rest_8 rfl (lv_at hl 0 rfl) ?_
    refine lv_dup hx hb dX0_rest_9 rfl ?_
    refine va_get (D := D) (ci := 0) (v := .int rst) (C := RX0) (T := TX0) (N := 3) hx hb hts ilX0 hown hK hP 0 rfl rfl 2 (by decide) (hts _ wf_X0_15) (fun _ h9 => h9) rfl dX0_rest_10 ?_
    refine lv_iconst (v := 1) hx hb dX0_rest_13 (by decide) ?_
    refine lv_iadd hx hb dX0_rest_14 ?_
    refine va_put (D := D) (ci := 0) (v := .int (rst + 1)) (ty := (.int)) (C := RX0) (T := TX0) (N := 3) hx hb hts ilX0 tyX0 tyX0_ok nmX0 hown hK hP hD hS 0 rfl rfl 2 (by decide) (hts _ wf_X0_15) (fun _ h9 => h9) rfl (by decide +kernel) rfl rfl (Nat.le_of_ble_eq_true rfl) dX0_rest_15 (fun H locs hP hD hS => ?_)
    have hP : va_P D classes [(qM, .inr (0, [.ref qW, .int mar, .int (rst + 1)])), (qW, .inl (cI, 1024, .inl fW))] H := hP
    have hD : va_D A [(qM, .inr (0, [.ref qW, .int mar, .int (rst + 1)])), (qW, .inl (cI, 1024, .inl fW))] := hD
    have e_1 : z_X0_rest_qM2 rst = rst + 1 := by simp only [z_X0_rest_qM2, if_neg c_1]
    exact ct_vret () hx hb hr hlocks hP hD hS (by rw [e_1]) dX0_rest_18
set_option maxHeartbeats 4000000 in
set_option maxRecDepth 100000 in
theorem c_X1_init (l : Launch) (D : va_G) (cI cZ : ClassId) (qO : Nat) (kept : Int32) (gone : Int32) : CtV l D classes [(cI, .int), (cZ, .boolean)] yX1_init w_X1_init { frames := 1, cells := 1, slots := 500, locals := 12 } [.ref qO] [(qO, .inr (1, [.null, .int kept, .int gone]))] (fun (qo : Nat) => [(qO, .inr (1, [.ref qo, .int kept, .int gone])), (qo, .inl (cI, 500, .inl (fun _ => 0)))]) 1 500 := by
  refine CtV.mk (cc := cX1_init) (maxL := 1) (ret := none) (by decide) rfl (Nat.le_of_ble_eq_true rfl) ?_
  intro p e s m below meth c A hBeg ls hl
  obtain ⟨hx, hb, hr, hml, hts0, hown, hlocks, hin, hA, hK, hP, hD, hS⟩ := hBeg
  have hts := fun w h => hts0 w (List.mem_cons_of_mem _ h)
  have hown : s.vm.findClass RX1 = some m.cls := hown
  have hl : lv_has ls 1 [(0, .ref qO)] := hl
  skip
  refine lv_aload_n hx hb dX1_init_0 rfl (lv_at hl 0 rfl) ?_
  refine W.objInit hx hb hown (hts _ wm_X1_3) (hts _ wi_obj) (hts _ wo_obj) rfl (by rw [hml]; exact hl.1) rfl dX1_init_1 (Nat.le_of_ble_eq_true rfl) (Nat.le_of_ble_eq_true rfl) ?_
  refine W.eq (g2 := F0 m 4 ls []) rfl ?_
  refine lv_aload_n hx hb dX1_init_4 rfl (lv_at hl 0 rfl) ?_
  refine lv_sipush (v := 500) hx hb dX1_init_5 (by decide) ?_
  refine va_newa (atype := .int) (ty := .int) (N' := 500) (a0 := (500, .inl (fun _ => 0))) hx hb (hts _ wa_int) rfl hK hP hD hS hA (fun _ => rfl) (by decide) (by decide) (by decide) (Nat.le_of_ble_eq_true rfl) (Nat.le_of_ble_eq_true rfl) dX1_init_8 (fun q1 cA1 H hK1 hP hD hS => ?_)
  have hcA : cI = cA1 := Option.some.inj ((va_nm_int (hK.2 0 (cI, .int) rfl).2).symm.trans (va_nm_int (hK1.2 2 (cA1, .int) rfl).2))
  subst hcA
  clear hK1
  have hP : va_P D classes [(qO, .inr (1, [.null, .int kept, .int gone])), (q1, .inl (cI, 500, .inl (fun _ => 0)))] H := hP
  have hD : va_D A [(qO, .inr (1, [.null, .int kept, .int gone])), (q1, .inl (cI, 500, .inl (fun _ => 0)))] := hD
  refine W.widen (k := 1) (n := 500) (by omega) (by omega) ?_
  refine va_putF (D := D) (ci := 1) (v := .ref q1) (ty := (.array .int)) (C := RX1) (T := TX1) (N := 3) hx hb hts ilX1 tyX1 tyX1_ok nmX1 hown hK hP hD hS 0 rfl rfl 0 (by decide) (hts _ wf_X1_9) (fun _ h9 => h9) rfl hin rfl (by decide +kernel) rfl rfl (Nat.le_of_ble_eq_true rfl) dX1_init_10 (fun H locs hP hD hS => ?_)
  have hP : va_P D classes [(qO, .inr (1, [.ref q1, .int kept, .int gone])), (q1, .inl (cI, 500, .inl (fun _ => 0)))] H := hP
  have hD : va_D A [(qO, .inr (1, [.ref q1, .int kept, .int gone])), (q1, .inl (cI, 500, .inl (fun _ => 0)))] := hD
  exact ct_vret q1 hx hb hr hlocks hP hD hS rfl dX1_init_13
def z_X1_send_qO1 (kept : Int32) : Int32 := (if 500 ≤ kept then kept else kept + 1)
def z_X1_send_qo (fo : Nat → Int32) (kept : Int32) (p0 : Int32) : Nat → Int32 := (if 500 ≤ kept then fo else upd fo (Int32.toNatClampNeg kept) p0)
set_option maxHeartbeats 4000000 in
set_option maxRecDepth 100000 in
theorem c_X1_send (l : Launch) (D : va_G) (cI cZ : ClassId) (qO : Nat) (qo : Nat) (fo : Nat → Int32) (kept : Int32) (gone : Int32) (p0 : Int32) (hk0 : ¬ kept < 0) : CtV l D classes [(cI, .int), (cZ, .boolean)] yX1_send w_X1_send { frames := 0, cells := 0, slots := 0, locals := 0 } [.ref qO, .int p0] [(qO, .inr (1, [.ref qo, .int kept, .int gone])), (qo, .inl (cI, 500, .inl fo))] (fun (_ : Unit) => [(qO, .inr (1, [.ref qo, .int (z_X1_send_qO1 kept), .int (gone + 1)])), (qo, .inl (cI, 500, .inl (z_X1_send_qo fo kept p0)))]) 0 0 := by
  refine CtV.mk (cc := cX1_send) (maxL := 2) (ret := none) (by decide) rfl (Nat.le_of_ble_eq_true rfl) ?_
  intro p e s m below meth c A hBeg ls hl
  obtain ⟨hx, hb, hr, hml, hts0, hown, hlocks, hin, hA, hK, hP, hD, hS⟩ := hBeg
  have hts := fun w h => hts0 w (List.mem_cons_of_mem _ h)
  have hown : s.vm.findClass RX1 = some m.cls := hown
  have hl : lv_has ls 2 [(0, .ref qO), (1, .int p0)] := hl
  skip
  refine lv_aload_n hx hb dX1_send_0 rfl (lv_at hl 0 rfl) ?_
  refine va_get (D := D) (ci := 1) (v := .int kept) (C := RX1) (T := TX1) (N := 3) hx hb hts ilX1 hown hK hP 0 rfl rfl 1 (by decide) (hts _ wf_X1_15) (fun _ h9 => h9) rfl dX1_send_1 ?_
  refine lv_sipush (v := 500) hx hb dX1_send_4 (by decide) ?_
  refine lv_icmp_ge (tgt := 30) hx hb dX1_send_7 (by decide) (fun c_1 => ?_) (fun c_1 => ?_)
  · skip
    refine lv_aload_n hx hb dX1_send_30 rfl (lv_at hl 0 rfl) ?_
    refine lv_dup hx hb dX1_send_31 rfl ?_
    refine va_get (D := D) (ci := 1) (v := .int gone) (C := RX1) (T := TX1) (N := 3) hx hb hts ilX1 hown hK hP 0 rfl rfl 2 (by decide) (hts _ wf_X1_19) (fun _ h9 => h9) rfl dX1_send_32 ?_
    refine lv_iconst (v := 1) hx hb dX1_send_35 (by decide) ?_
    refine lv_iadd hx hb dX1_send_36 ?_
    refine va_put (D := D) (ci := 1) (v := .int (gone + 1)) (ty := (.int)) (C := RX1) (T := TX1) (N := 3) hx hb hts ilX1 tyX1 tyX1_ok nmX1 hown hK hP hD hS 0 rfl rfl 2 (by decide) (hts _ wf_X1_19) (fun _ h9 => h9) rfl (by decide +kernel) rfl rfl (Nat.le_of_ble_eq_true rfl) dX1_send_37 (fun H locs hP hD hS => ?_)
    have hP : va_P D classes [(qO, .inr (1, [.ref qo, .int kept, .int (gone + 1)])), (qo, .inl (cI, 500, .inl fo))] H := hP
    have hD : va_D A [(qO, .inr (1, [.ref qo, .int kept, .int (gone + 1)])), (qo, .inl (cI, 500, .inl fo))] := hD
    have e_1 : z_X1_send_qO1 kept = kept := by simp only [z_X1_send_qO1, if_pos c_1]
    have e_2 : z_X1_send_qo fo kept p0 = fo := by simp only [z_X1_send_qo, if_pos c_1]
    exact ct_vret () hx hb hr hlocks hP hD hS (by rw [e_1, e_2]) dX1_send_40
  · skip
    refine lv_aload_n hx hb dX1_send_10 rfl (lv_at hl 0 rfl) ?_
    refine va_get (D := D) (ci := 1) (v := .ref qo) (C := RX1) (T := TX1) (N := 3) hx hb hts ilX1 hown hK hP 0 rfl rfl 0 (by decide) (hts _ wf_X1_9) (fun _ h9 => h9) rfl dX1_send_11 ?_
    refine lv_aload_n hx hb dX1_send_14 rfl (lv_at hl 0 rfl) ?_
    refine va_get (D := D) (ci := 1) (v := .int kept) (C := RX1) (T := TX1) (N := 3) hx hb hts ilX1 hown hK hP 0 rfl rfl 1 (by decide) (hts _ wf_X1_15) (fun _ h9 => h9) rfl dX1_send_15 ?_
    refine lv_iload_n hx hb dX1_send_18 rfl (lv_at hl 1 rfl) ?_
    refine va_iast hx hb hK hP hD hS 1 0 rfl rfl (vp_of2 (y := 500) (by decide) hk0 c_1) dX1_send_19 (fun H locs hP hD hS => ?_)
    have hP : va_P D classes [(qO, .inr (1, [.ref qo, .int kept, .int gone])), (qo, .inl (cI, 500, .inl (upd fo (Int32.toNatClampNeg kept) p0)))] H := hP
    have hD : va_D A [(qO, .inr (1, [.ref qo, .int kept, .int gone])), (qo, .inl (cI, 500, .inl (upd fo (Int32.toNatClampNeg kept) p0)))] := hD
    refine lv_aload_n hx hb dX1_send_20 rfl (lv_at hl 0 rfl) ?_
    refine lv_dup hx hb dX1_send_21 rfl ?_
    refine va_get (D := D) (ci := 1) (v := .int kept) (C := RX1) (T := TX1) (N := 3) hx hb hts ilX1 hown hK hP 0 rfl rfl 1 (by decide) (hts _ wf_X1_15) (fun _ h9 => h9) rfl dX1_send_22 ?_
    refine lv_iconst (v := 1) hx hb dX1_send_25 (by decide) ?_
    refine lv_iadd hx hb dX1_send_26 ?_
    refine va_put (D := D) (ci := 1) (v := .int (kept + 1)) (ty := (.int)) (C := RX1) (T := TX1) (N := 3) hx hb hts ilX1 tyX1 tyX1_ok nmX1 hown hK hP hD hS 0 rfl rfl 1 (by decide) (hts _ wf_X1_15) (fun _ h9 => h9) rfl (by decide +kernel) rfl rfl (Nat.le_of_ble_eq_true rfl) dX1_send_27 (fun H locs hP hD hS => ?_)
    have hP : va_P D classes [(qO, .inr (1, [.ref qo, .int (kept + 1), .int gone])), (qo, .inl (cI, 500, .inl (upd fo (Int32.toNatClampNeg kept) p0)))] H := hP
    have hD : va_D A [(qO, .inr (1, [.ref qo, .int (kept + 1), .int gone])), (qo, .inl (cI, 500, .inl (upd fo (Int32.toNatClampNeg kept) p0)))] := hD
    refine lv_aload_n hx hb dX1_send_30 rfl (lv_at hl 0 rfl) ?_
    refine lv_dup hx hb dX1_send_31 rfl ?_
    refine va_get (D := D) (ci := 1) (v := .int gone) (C := RX1) (T := TX1) (N := 3) hx hb hts ilX1 hown hK hP 0 rfl rfl 2 (by decide) (hts _ wf_X1_19) (fun _ h9 => h9) rfl dX1_send_32 ?_
    refine lv_iconst (v := 1) hx hb dX1_send_35 (by decide) ?_
    refine lv_iadd hx hb dX1_send_36 ?_
    refine va_put (D := D) (ci := 1) (v := .int (gone + 1)) (ty := (.int)) (C := RX1) (T := TX1) (N := 3) hx hb hts ilX1 tyX1 tyX1_ok nmX1 hown hK hP hD hS 0 rfl rfl 2 (by decide) (hts _ wf_X1_19) (fun _ h9 => h9) rfl (by decide +kernel) rfl rfl (Nat.le_of_ble_eq_true rfl) dX1_send_37 (fun H locs hP hD hS => ?_)
    have hP : va_P D classes [(qO, .inr (1, [.ref qo, .int (kept + 1), .int (gone + 1)])), (qo, .inl (cI, 500, .inl (upd fo (Int32.toNatClampNeg kept) p0)))] H := hP
    have hD : va_D A [(qO, .inr (1, [.ref qo, .int (kept + 1), .int (gone + 1)])), (qo, .inl (cI, 500, .inl (upd fo (Int32.toNatClampNeg kept) p0)))] := hD
    have e_1 : z_X1_send_qO1 kept = kept + 1 := by simp only [z_X1_send_qO1, if_neg c_1]
    have e_2 : z_X1_send_qo fo kept p0 = upd fo (Int32.toNatClampNeg kept) p0 := by simp only [z_X1_send_qo, if_neg c_1]
    exact ct_vret () hx hb hr hlocks hP hD hS (by rw [e_1, e_2]) dX1_send_40
end
end
section
section
set_option maxHeartbeats 4000000 in
set_option maxRecDepth 100000 in
theorem c_X2_init (l : Launch) (D : va_G) (cI cZ : ClassId) (qT : Nat) (hand : Int32) (hov : Int32) (said : Int32) : CtV l D classes [(cI, .int), (cZ, .boolean)] yX2_init w_X2_init { frames := 1, cells := 4, slots := 64, locals := 12 } [.ref qT] [(qT, .inr (2, [.null, .null, .null, .null, .int hand, .int hov, .int said]))] (fun (u : Nat × Nat × Nat × Nat) => match u with | (qp, qc, qd, qk) => [(qT, .inr (2, [.ref qp, .ref qc, .ref qd, .ref qk, .int hand, .int hov, .int said])), (qp, .inl (cI, 16, .inl (fun _ => 0))), (qc, .inl (cI, 16, .inl (fun _ => 0))), (qd, .inl (cI, 16, .inl (fun _ => 0))), (qk, .inl (cZ, 16, .inl (upd (fun _ => 0) (Int32.toNatClampNeg 0) 1)))]) 4 64 := by
  refine CtV.mk (cc := cX2_init) (maxL := 1) (ret := none) (by decide) rfl (Nat.le_of_ble_eq_true rfl) ?_
  intro p e s m below meth c A hBeg ls hl
  obtain ⟨hx, hb, hr, hml, hts0, hown, hlocks, hin, hA, hK, hP, hD, hS⟩ := hBeg
  have hts := fun w h => hts0 w (List.mem_cons_of_mem _ h)
  have hown : s.vm.findClass RX2 = some m.cls := hown
  have hl : lv_has ls 1 [(0, .ref qT)] := hl
  skip
  refine lv_aload_n hx hb dX2_init_0 rfl (lv_at hl 0 rfl) ?_
  refine W.objInit hx hb hown (hts _ wm_X2_3) (hts _ wi_obj) (hts _ wo_obj) rfl (by rw [hml]; exact hl.1) rfl dX2_init_1 (Nat.le_of_ble_eq_true rfl) (Nat.le_of_ble_eq_true rfl) ?_
  refine W.eq (g2 := F0 m 4 ls []) rfl ?_
  refine lv_aload_n hx hb dX2_init_4 rfl (lv_at hl 0 rfl) ?_
  refine lv_bipush (v := 16) hx hb dX2_init_5 (by decide) ?_
  refine va_newa (atype := .int) (ty := .int) (N' := 16) (a0 := (16, .inl (fun _ => 0))) hx hb (hts _ wa_int) rfl hK hP hD hS hA (fun _ => rfl) (by decide) (by decide) (by decide) (Nat.le_of_ble_eq_true rfl) (Nat.le_of_ble_eq_true rfl) dX2_init_7 (fun q1 cA1 H hK1 hP hD hS => ?_)
  have hcA : cI = cA1 := Option.some.inj ((va_nm_int (hK.2 0 (cI, .int) rfl).2).symm.trans (va_nm_int (hK1.2 2 (cA1, .int) rfl).2))
  subst hcA
  clear hK1
  have hP : va_P D classes [(qT, .inr (2, [.null, .null, .null, .null, .int hand, .int hov, .int said])), (q1, .inl (cI, 16, .inl (fun _ => 0)))] H := hP
  have hD : va_D A [(qT, .inr (2, [.null, .null, .null, .null, .int hand, .int hov, .int said])), (q1, .inl (cI, 16, .inl (fun _ => 0)))] := hD
  refine W.widen (k := 1) (n := 16) (by omega) (by omega) ?_
  refine va_putF (D := D) (ci := 2) (v := .ref q1) (ty := (.array .int)) (C := RX2) (T := TX2) (N := 7) hx hb hts ilX2 tyX2 tyX2_ok nmX2 hown hK hP hD hS 0 rfl rfl 0 (by decide) (hts _ wf_X2_9) (fun _ h9 => h9) rfl hin rfl (by decide +kernel) rfl rfl (Nat.le_of_ble_eq_true rfl) dX2_init_9 (fun H locs hP hD hS => ?_)
  have hP : va_P D classes [(qT, .inr (2, [.ref q1, .null, .null, .null, .int hand, .int hov, .int said])), (q1, .inl (cI, 16, .inl (fun _ => 0)))] H := hP
  have hD : va_D A [(qT, .inr (2, [.ref q1, .null, .null, .null, .int hand, .int hov, .int said])), (q1, .inl (cI, 16, .inl (fun _ => 0)))] := hD
  refine lv_aload_n hx hb dX2_init_12 rfl (lv_at hl 0 rfl) ?_
  refine lv_bipush (v := 16) hx hb dX2_init_13 (by decide) ?_
  refine va_newa (atype := .int) (ty := .int) (N' := 16) (a0 := (16, .inl (fun _ => 0))) hx hb (hts _ wa_int) rfl hK hP hD hS hA (fun _ => rfl) (by decide) (by decide) (by decide) (Nat.le_of_ble_eq_true rfl) (Nat.le_of_ble_eq_true rfl) dX2_init_15 (fun q2 cA2 H hK1 hP hD hS => ?_)
  have hcA : cI = cA2 := Option.some.inj ((va_nm_int (hK.2 0 (cI, .int) rfl).2).symm.trans (va_nm_int (hK1.2 2 (cA2, .int) rfl).2))
  subst hcA
  clear hK1
  have hP : va_P D classes [(qT, .inr (2, [.ref q1, .null, .null, .null, .int hand, .int hov, .int said])), (q1, .inl (cI, 16, .inl (fun _ => 0))), (q2, .inl (cI, 16, .inl (fun _ => 0)))] H := hP
  have hD : va_D A [(qT, .inr (2, [.ref q1, .null, .null, .null, .int hand, .int hov, .int said])), (q1, .inl (cI, 16, .inl (fun _ => 0))), (q2, .inl (cI, 16, .inl (fun _ => 0)))] := hD
  refine W.widen (k := 2) (n := 32) (by omega) (by omega) ?_
  refine va_putF (D := D) (ci := 2) (v := .ref q2) (ty := (.array .int)) (C := RX2) (T := TX2) (N := 7) hx hb hts ilX2 tyX2 tyX2_ok nmX2 hown hK hP hD hS 0 rfl rfl 1 (by decide) (hts _ wf_X2_15) (fun _ h9 => h9) rfl hin rfl (by decide +kernel) rfl rfl (Nat.le_of_ble_eq_true rfl) dX2_init_17 (fun H locs hP hD hS => ?_)
  have hP : va_P D classes [(qT, .inr (2, [.ref q1, .ref q2, .null, .null, .int hand, .int hov, .int said])), (q1, .inl (cI, 16, .inl (fun _ => 0))), (q2, .inl (cI, 16, .inl (fun _ => 0)))] H := hP
  have hD : va_D A [(qT, .inr (2, [.ref q1, .ref q2, .null, .null, .int hand, .int hov, .int said])), (q1, .inl (cI, 16, .inl (fun _ => 0))), (q2, .inl (cI, 16, .inl (fun _ => 0)))] := hD
  refine lv_aload_n hx hb dX2_init_20 rfl (lv_at hl 0 rfl) ?_
  refine lv_bipush (v := 16) hx hb dX2_init_21 (by decide) ?_
  refine va_newa (atype := .int) (ty := .int) (N' := 16) (a0 := (16, .inl (fun _ => 0))) hx hb (hts _ wa_int) rfl hK hP hD hS hA (fun _ => rfl) (by decide) (by decide) (by decide) (Nat.le_of_ble_eq_true rfl) (Nat.le_of_ble_eq_true rfl) dX2_init_23 (fun q3 cA3 H hK1 hP hD hS => ?_)
  have hcA : cI = cA3 := Option.some.inj ((va_nm_int (hK.2 0 (cI, .int) rfl).2).symm.trans (va_nm_int (hK1.2 2 (cA3, .int) rfl).2))
  subst hcA
  clear hK1
  have hP : va_P D classes [(qT, .inr (2, [.ref q1, .ref q2, .null, .null, .int hand, .int hov, .int said])), (q1, .inl (cI, 16, .inl (fun _ => 0))), (q2, .inl (cI, 16, .inl (fun _ => 0))), (q3, .inl (cI, 16, .inl (fun _ => 0)))] H := hP
  have hD : va_D A [(qT, .inr (2, [.ref q1, .ref q2, .null, .null, .int hand, .int hov, .int said])), (q1, .inl (cI, 16, .inl (fun _ => 0))), (q2, .inl (cI, 16, .inl (fun _ => 0))), (q3, .inl (cI, 16, .inl (fun _ => 0)))] := hD
  refine W.widen (k := 3) (n := 48) (by omega) (by omega) ?_
  refine va_putF (D := D) (ci := 2) (v := .ref q3) (ty := (.array .int)) (C := RX2) (T := TX2) (N := 7) hx hb hts ilX2 tyX2 tyX2_ok nmX2 hown hK hP hD hS 0 rfl rfl 2 (by decide) (hts _ wf_X2_18) (fun _ h9 => h9) rfl hin rfl (by decide +kernel) rfl rfl (Nat.le_of_ble_eq_true rfl) dX2_init_25 (fun H locs hP hD hS => ?_)
  have hP : va_P D classes [(qT, .inr (2, [.ref q1, .ref q2, .ref q3, .null, .int hand, .int hov, .int said])), (q1, .inl (cI, 16, .inl (fun _ => 0))), (q2, .inl (cI, 16, .inl (fun _ => 0))), (q3, .inl (cI, 16, .inl (fun _ => 0)))] H := hP
  have hD : va_D A [(qT, .inr (2, [.ref q1, .ref q2, .ref q3, .null, .int hand, .int hov, .int said])), (q1, .inl (cI, 16, .inl (fun _ => 0))), (q2, .inl (cI, 16, .inl (fun _ => 0))), (q3, .inl (cI, 16, .inl (fun _ => 0)))] := hD
  refine lv_aload_n hx hb dX2_init_28 rfl (lv_at hl 0 rfl) ?_
  refine lv_bipush (v := 16) hx hb dX2_init_29 (by decide) ?_
  refine va_newa (atype := .boolean) (ty := .boolean) (N' := 16) (a0 := (16, .inl (fun _ => 0))) hx hb (hts _ wa_boolean) rfl hK hP hD hS hA (fun _ => rfl) (by decide) (by decide) (by decide) (Nat.le_of_ble_eq_true rfl) (Nat.le_of_ble_eq_true rfl) dX2_init_31 (fun q4 cA4 H hK1 hP hD hS => ?_)
  have hcA : cZ = cA4 := Option.some.inj ((va_nm_boolean (hK.2 1 (cZ, .boolean) rfl).2).symm.trans (va_nm_boolean (hK1.2 2 (cA4, .boolean) rfl).2))
  subst hcA
  clear hK1
  have hP : va_P D classes [(qT, .inr (2, [.ref q1, .ref q2, .ref q3, .null, .int hand, .int hov, .int said])), (q1, .inl (cI, 16, .inl (fun _ => 0))), (q2, .inl (cI, 16, .inl (fun _ => 0))), (q3, .inl (cI, 16, .inl (fun _ => 0))), (q4, .inl (cZ, 16, .inl (fun _ => 0)))] H := hP
  have hD : va_D A [(qT, .inr (2, [.ref q1, .ref q2, .ref q3, .null, .int hand, .int hov, .int said])), (q1, .inl (cI, 16, .inl (fun _ => 0))), (q2, .inl (cI, 16, .inl (fun _ => 0))), (q3, .inl (cI, 16, .inl (fun _ => 0))), (q4, .inl (cZ, 16, .inl (fun _ => 0)))] := hD
  refine W.widen (k := 4) (n := 64) (by omega) (by omega) ?_
  refine va_putF (D := D) (ci := 2) (v := .ref q4) (ty := (.array .boolean)) (C := RX2) (T := TX2) (N := 7) hx hb hts ilX2 tyX2 tyX2_ok nmX2 hown hK hP hD hS 0 rfl rfl 3 (by decide) (hts _ wf_X2_21) (fun _ h9 => h9) rfl hin rfl (by decide +kernel) rfl rfl (Nat.le_of_ble_eq_true rfl) dX2_init_33 (fun H locs hP hD hS => ?_)
  have hP : va_P D classes [(qT, .inr (2, [.ref q1, .ref q2, .ref q3, .ref q4, .int hand, .int hov, .int said])), (q1, .inl (cI, 16, .inl (fun _ => 0))), (q2, .inl (cI, 16, .inl (fun _ => 0))), (q3, .inl (cI, 16, .inl (fun _ => 0))), (q4, .inl (cZ, 16, .inl (fun _ => 0)))] H := hP
  have hD : va_D A [(qT, .inr (2, [.ref q1, .ref q2, .ref q3, .ref q4, .int hand, .int hov, .int said])), (q1, .inl (cI, 16, .inl (fun _ => 0))), (q2, .inl (cI, 16, .inl (fun _ => 0))), (q3, .inl (cI, 16, .inl (fun _ => 0))), (q4, .inl (cZ, 16, .inl (fun _ => 0)))] := hD
  refine lv_aload_n hx hb dX2_init_36 rfl (lv_at hl 0 rfl) ?_
  refine va_get (D := D) (ci := 2) (v := .ref q4) (C := RX2) (T := TX2) (N := 7) hx hb hts ilX2 hown hK hP 0 rfl rfl 3 (by decide) (hts _ wf_X2_21) (fun _ h9 => h9) rfl dX2_init_37 ?_
  refine lv_iconst (v := 0) hx hb dX2_init_40 (by decide) ?_
  refine lv_iconst (v := 1) hx hb dX2_init_41 (by decide) ?_
  refine va_zast hx hb hK hP hD hS 4 1 rfl rfl (by unfold vp_in; decide +kernel) dX2_init_42 (fun H locs hP hD hS => ?_)
  have hP : va_P D classes [(qT, .inr (2, [.ref q1, .ref q2, .ref q3, .ref q4, .int hand, .int hov, .int said])), (q1, .inl (cI, 16, .inl (fun _ => 0))), (q2, .inl (cI, 16, .inl (fun _ => 0))), (q3, .inl (cI, 16, .inl (fun _ => 0))), (q4, .inl (cZ, 16, .inl (upd (fun _ => 0) (Int32.toNatClampNeg 0) 1)))] H := hP
  have hD : va_D A [(qT, .inr (2, [.ref q1, .ref q2, .ref q3, .ref q4, .int hand, .int hov, .int said])), (q1, .inl (cI, 16, .inl (fun _ => 0))), (q2, .inl (cI, 16, .inl (fun _ => 0))), (q3, .inl (cI, 16, .inl (fun _ => 0))), (q4, .inl (cZ, 16, .inl (upd (fun _ => 0) (Int32.toNatClampNeg 0) 1)))] := hD
  exact ct_vret (q1, q2, q3, q4) hx hb hr hlocks hP hD hS rfl dX2_init_43
set_option maxHeartbeats 4000000 in
set_option maxRecDepth 100000 in
theorem c_X2_rouse (l : Launch) (D : va_G) (cI cZ : ClassId) (qT : Nat) (qp : Nat) (qc : Nat) (qd : Nat) (qk : Nat) (fp : Nat → Int32) (fc : Nat → Int32) (fd : Nat → Int32) (fk : Nat → Int32) (hand : Int32) (hov : Int32) (said : Int32) (p0 : Int32) (ht : vp_in p0 16) (hz : fk (Int32.toNatClampNeg p0) = 0 ∨ fk (Int32.toNatClampNeg p0) = 1) : CtI l D classes [(cI, .int), (cZ, .boolean)] yX2_rouse w_X2_rouse { frames := 0, cells := 0, slots := 0, locals := 0 } [.ref qT, .int p0] [(qT, .inr (2, [.ref qp, .ref qc, .ref qd, .ref qk, .int hand, .int hov, .int said])), (qp, .inl (cI, 16, .inl fp)), (qc, .inl (cI, 16, .inl fc)), (qd, .inl (cI, 16, .inl fd)), (qk, .inl (cZ, 16, .inl fk))] [(qT, .inr (2, [.ref qp, .ref qc, .ref qd, .ref qk, .int hand, .int hov, .int said])), (qp, .inl (cI, 16, .inl fp)), (qc, .inl (cI, 16, .inl fc)), (qd, .inl (cI, 16, .inl fd)), (qk, .inl (cZ, 16, .inl (upd fk (Int32.toNatClampNeg p0) 1)))] (fk (Int32.toNatClampNeg p0)) := by
  refine CtI.mk (cc := cX2_rouse) (maxL := 3) (ret := (some .boolean)) (by decide) rfl (Nat.le_of_ble_eq_true rfl) ?_
  intro p e s m below meth c A hBeg ls hl
  obtain ⟨hx, hb, hr, hml, hts0, hown, hlocks, hin, hA, hK, hP, hD, hS⟩ := hBeg
  have hts := fun w h => hts0 w (List.mem_cons_of_mem _ h)
  have hown : s.vm.findClass RX2 = some m.cls := hown
  have hl : lv_has ls 3 [(0, .ref qT), (1, .int p0)] := hl
  skip
  refine lv_aload_n hx hb dX2_rouse_0 rfl (lv_at hl 0 rfl) ?_
  refine va_get (D := D) (ci := 2) (v := .ref qk) (C := RX2) (T := TX2) (N := 7) hx hb hts ilX2 hown hK hP 0 rfl rfl 3 (by decide) (hts _ wf_X2_21) (fun _ h9 => h9) rfl dX2_rouse_1 ?_
  refine lv_iload_n hx hb dX2_rouse_4 rfl (lv_at hl 1 rfl) ?_
  refine va_zald hx hb hK hP 4 1 rfl rfl ht dX2_rouse_5 ?_
  refine lv_istore_n (lv' := [(2, .int (fk (Int32.toNatClampNeg p0))), (0, .ref qT), (1, .int p0)]) hx hb dX2_rouse_6 rfl hl (by decide) rfl (fun ls hl => ?_)
  refine lv_aload_n hx hb dX2_rouse_7 rfl (lv_at hl 1 rfl) ?_
  refine va_get (D := D) (ci := 2) (v := .ref qk) (C := RX2) (T := TX2) (N := 7) hx hb hts ilX2 hown hK hP 0 rfl rfl 3 (by decide) (hts _ wf_X2_21) (fun _ h9 => h9) rfl dX2_rouse_8 ?_
  refine lv_iload_n hx hb dX2_rouse_11 rfl (lv_at hl 2 rfl) ?_
  refine lv_iconst (v := 1) hx hb dX2_rouse_12 (by decide) ?_
  refine va_zast hx hb hK hP hD hS 4 1 rfl rfl ht dX2_rouse_13 (fun H locs hP hD hS => ?_)
  have hP : va_P D classes [(qT, .inr (2, [.ref qp, .ref qc, .ref qd, .ref qk, .int hand, .int hov, .int said])), (qp, .inl (cI, 16, .inl fp)), (qc, .inl (cI, 16, .inl fc)), (qd, .inl (cI, 16, .inl fd)), (qk, .inl (cZ, 16, .inl (upd fk (Int32.toNatClampNeg p0) 1)))] H := hP
  have hD : va_D A [(qT, .inr (2, [.ref qp, .ref qc, .ref qd, .ref qk, .int hand, .int hov, .int said])), (qp, .inl (cI, 16, .inl fp)), (qc, .inl (cI, 16, .inl fc)), (qd, .inl (cI, 16, .inl fd)), (qk, .inl (cZ, 16, .inl (upd fk (Int32.toNatClampNeg p0) 1)))] := hD
  refine lv_iload_n hx hb dX2_rouse_14 rfl (lv_at hl 0 rfl) ?_
  exact ct_zret hx hb hr hlocks hP hD hS rfl rfl hz dX2_rouse_15
def r_X2_greatestWoken (fk : Nat → Int32) : Int32 := (if (fk (Int32.toNatClampNeg 15)) = 0 then (if (fk (Int32.toNatClampNeg 14)) = 0 then (if (fk (Int32.toNatClampNeg 13)) = 0 then (if (fk (Int32.toNatClampNeg 12)) = 0 then (if (fk (Int32.toNatClampNeg 11)) = 0 then (if (fk (Int32.toNatClampNeg 10)) = 0 then (if (fk (Int32.toNatClampNeg 9)) = 0 then (if (fk (Int32.toNatClampNeg 8)) = 0 then (if (fk (Int32.toNatClampNeg 7)) = 0 then (if (fk (Int32.toNatClampNeg 6)) = 0 then (if (fk (Int32.toNatClampNeg 5)) = 0 then (if (fk (Int32.toNatClampNeg 4)) = 0 then (if (fk (Int32.toNatClampNeg 3)) = 0 then (if (fk (Int32.toNatClampNeg 2)) = 0 then (if (fk (Int32.toNatClampNeg 1)) = 0 then 0 else 1) else 2) else 3) else 4) else 5) else 6) else 7) else 8) else 9) else 10) else 11) else 12) else 13) else 14) else 15)
set_option maxHeartbeats 4000000 in
set_option maxRecDepth 100000 in
theorem c_X2_greatestWoken (l : Launch) (D : va_G) (cI cZ : ClassId) (qT : Nat) (qp : Nat) (qc : Nat) (qd : Nat) (qk : Nat) (fp : Nat → Int32) (fc : Nat → Int32) (fd : Nat → Int32) (fk : Nat → Int32) (hand : Int32) (hov : Int32) (said : Int32) : CtI l D classes [(cI, .int), (cZ, .boolean)] yX2_greatestWoken w_X2_greatestWoken { frames := 0, cells := 0, slots := 0, locals := 0 } [.ref qT] [(qT, .inr (2, [.ref qp, .ref qc, .ref qd, .ref qk, .int hand, .int hov, .int said])), (qp, .inl (cI, 16, .inl fp)), (qc, .inl (cI, 16, .inl fc)), (qd, .inl (cI, 16, .inl fd)), (qk, .inl (cZ, 16, .inl fk))] [(qT, .inr (2, [.ref qp, .ref qc, .ref qd, .ref qk, .int hand, .int hov, .int said])), (qp, .inl (cI, 16, .inl fp)), (qc, .inl (cI, 16, .inl fc)), (qd, .inl (cI, 16, .inl fd)), (qk, .inl (cZ, 16, .inl fk))] (r_X2_greatestWoken fk) := by
  refine CtI.mk (cc := cX2_greatestWoken) (maxL := 2) (ret := (some .int)) (by decide) rfl (Nat.le_of_ble_eq_true rfl) ?_
  intro p e s m below meth c A hBeg ls hl
  obtain ⟨hx, hb, hr, hml, hts0, hown, hlocks, hin, hA, hK, hP, hD, hS⟩ := hBeg
  have hts := fun w h => hts0 w (List.mem_cons_of_mem _ h)
  have hown : s.vm.findClass RX2 = some m.cls := hown
  have hl : lv_has ls 2 [(0, .ref qT)] := hl
  skip
  refine lv_bipush (v := 15) hx hb dX2_greatestWoken_0 (by decide) ?_
  refine lv_istore_n (lv' := [(1, .int 15), (0, .ref qT)]) hx hb dX2_greatestWoken_2 rfl hl (by decide) rfl (fun ls hl => ?_)
  refine lv_iload_n hx hb dX2_greatestWoken_3 rfl (lv_at hl 0 rfl) ?_
  refine lv_if_le (tgt := 24) hx hb dX2_greatestWoken_4 (by decide) (fun c_1 => ?_) (fun c_1 => ?_)
  · exact absurd c_1 (by decide)
  · skip
    refine lv_aload_n hx hb dX2_greatestWoken_7 rfl (lv_at hl 1 rfl) ?_
    refine va_get (D := D) (ci := 2) (v := .ref qk) (C := RX2) (T := TX2) (N := 7) hx hb hts ilX2 hown hK hP 0 rfl rfl 3 (by decide) (hts _ wf_X2_21) (fun _ h9 => h9) rfl dX2_greatestWoken_8 ?_
    refine lv_iload_n hx hb dX2_greatestWoken_11 rfl (lv_at hl 0 rfl) ?_
    refine va_zald hx hb hK hP 4 1 rfl rfl (by unfold vp_in; decide +kernel) dX2_greatestWoken_12 ?_
    refine lv_if_eq (tgt := 18) hx hb dX2_greatestWoken_13 (by decide) (fun c_2 => ?_) (fun c_2 => ?_)
    · skip
      refine lv_iinc (v := 14) (lv' := [(1, .int 14), (0, .ref qT)]) hx hb dX2_greatestWoken_18 hl (k := 0) rfl (by decide) (by decide) rfl (fun ls hl => ?_)
      refine lv_goto (tgt := 3) hx hb dX2_greatestWoken_21 (by decide) ?_
      refine lv_iload_n hx hb dX2_greatestWoken_3 rfl (lv_at hl 0 rfl) ?_
      refine lv_if_le (tgt := 24) hx hb dX2_greatestWoken_4 (by decide) (fun c_3 => ?_) (fun c_3 => ?_)
      · exact absurd c_3 (by decide)
      · skip
        refine lv_aload_n hx hb dX2_greatestWoken_7 rfl (lv_at hl 1 rfl) ?_
        refine va_get (D := D) (ci := 2) (v := .ref qk) (C := RX2) (T := TX2) (N := 7) hx hb hts ilX2 hown hK hP 0 rfl rfl 3 (by decide) (hts _ wf_X2_21) (fun _ h9 => h9) rfl dX2_greatestWoken_8 ?_
        refine lv_iload_n hx hb dX2_greatestWoken_11 rfl (lv_at hl 0 rfl) ?_
        refine va_zald hx hb hK hP 4 1 rfl rfl (by unfold vp_in; decide +kernel) dX2_greatestWoken_12 ?_
        refine lv_if_eq (tgt := 18) hx hb dX2_greatestWoken_13 (by decide) (fun c_4 => ?_) (fun c_4 => ?_)
        · skip
          refine lv_iinc (v := 13) (lv' := [(1, .int 13), (0, .ref qT)]) hx hb dX2_greatestWoken_18 hl (k := 0) rfl (by decide) (by decide) rfl (fun ls hl => ?_)
          refine lv_goto (tgt := 3) hx hb dX2_greatestWoken_21 (by decide) ?_
          refine lv_iload_n hx hb dX2_greatestWoken_3 rfl (lv_at hl 0 rfl) ?_
          refine lv_if_le (tgt := 24) hx hb dX2_greatestWoken_4 (by decide) (fun c_5 => ?_) (fun c_5 => ?_)
          · exact absurd c_5 (by decide)
          · skip
            refine lv_aload_n hx hb dX2_greatestWoken_7 rfl (lv_at hl 1 rfl) ?_
            refine va_get (D := D) (ci := 2) (v := .ref qk) (C := RX2) (T := TX2) (N := 7) hx hb hts ilX2 hown hK hP 0 rfl rfl 3 (by decide) (hts _ wf_X2_21) (fun _ h9 => h9) rfl dX2_greatestWoken_8 ?_
            refine lv_iload_n hx hb dX2_greatestWoken_11 rfl (lv_at hl 0 rfl) ?_
            refine va_zald hx hb hK hP 4 1 rfl rfl (by unfold vp_in; decide +kernel) dX2_greatestWoken_12 ?_
            refine lv_if_eq (tgt := 18) hx hb dX2_greatestWoken_13 (by decide) (fun c_6 => ?_) (fun c_6 => ?_)
            · skip
              refine lv_iinc (v := 12) (lv' := [(1, .int 12), (0, .ref qT)]) hx hb dX2_greatestWoken_18 hl (k := 0) rfl (by decide) (by decide) rfl (fun ls hl => ?_)
              refine lv_goto (tgt := 3) hx hb dX2_greatestWoken_21 (by decide) ?_
              refine lv_iload_n hx hb dX2_greatestWoken_3 rfl (lv_at hl 0 rfl) ?_
              refine lv_if_le (tgt := 24) hx hb dX2_greatestWoken_4 (by decide) (fun c_7 => ?_) (fun c_7 => ?_)
              · exact absurd c_7 (by decide)
              · skip
                refine lv_aload_n hx hb dX2_greatestWoken_7 rfl (lv_at hl 1 rfl) ?_
                refine va_get (D := D) (ci := 2) (v := .ref qk) (C := RX2) (T := TX2) (N := 7) hx hb hts ilX2 hown hK hP 0 rfl rfl 3 (by decide) (hts _ wf_X2_21) (fun _ h9 => h9) rfl dX2_greatestWoken_8 ?_
                refine lv_iload_n hx hb dX2_greatestWoken_11 rfl (lv_at hl 0 rfl) ?_
                refine va_zald hx hb hK hP 4 1 rfl rfl (by unfold vp_in; decide +kernel) dX2_greatestWoken_12 ?_
                refine lv_if_eq (tgt := 18) hx hb dX2_greatestWoken_13 (by decide) (fun c_8 => ?_) (fun c_8 => ?_)
                · skip
                  refine lv_iinc (v := 11) (lv' := [(1, .int 11), (0, .ref qT)]) hx hb dX2_greatestWoken_18 hl (k := 0) rfl (by decide) (by decide) rfl (fun ls hl => ?_)
                  refine lv_goto (tgt := 3) hx hb dX2_greatestWoken_21 (by decide) ?_
                  refine lv_iload_n hx hb dX2_greatestWoken_3 rfl (lv_at hl 0 rfl) ?_
                  refine lv_if_le (tgt := 24) hx hb dX2_greatestWoken_4 (by decide) (fun c_9 => ?_) (fun c_9 => ?_)
                  · exact absurd c_9 (by decide)
                  · skip
                    refine lv_aload_n hx hb dX2_greatestWoken_7 rfl (lv_at hl 1 rfl) ?_
                    refine va_get (D := D) (ci := 2) (v := .ref qk) (C := RX2) (T := TX2) (N := 7) hx hb hts ilX2 hown hK hP 0 rfl rfl 3 (by decide) (hts _ wf_X2_21) (fun _ h9 => h9) rfl dX2_greatestWoken_8 ?_
                    refine lv_iload_n hx hb dX2_greatestWoken_11 rfl (lv_at hl 0 rfl) ?_
                    refine va_zald hx hb hK hP 4 1 rfl rfl (by unfold vp_in; decide +kernel) dX2_greatestWoken_12 ?_
                    refine lv_if_eq (tgt := 18) hx hb dX2_greatestWoken_13 (by decide) (fun c_10 => ?_) (fun c_10 => ?_)
                    · skip
                      refine lv_iinc (v := 10) (lv' := [(1, .int 10), (0, .ref qT)]) hx hb dX2_greatestWoken_18 hl (k := 0) rfl (by decide) (by decide) rfl (fun ls hl => ?_)
                      refine lv_goto (tgt := 3) hx hb dX2_greatestWoken_21 (by decide) ?_
                      refine lv_iload_n hx hb dX2_greatestWoken_3 rfl (lv_at hl 0 rfl) ?_
                      refine lv_if_le (tgt := 24) hx hb dX2_greatestWoken_4 (by decide) (fun c_11 => ?_) (fun c_11 => ?_)
                      · exact absurd c_11 (by decide)
                      · skip
                        refine lv_aload_n hx hb dX2_greatestWoken_7 rfl (lv_at hl 1 rfl) ?_
                        refine va_get (D := D) (ci := 2) (v := .ref qk) (C := RX2) (T := TX2) (N := 7) hx hb hts ilX2 hown hK hP 0 rfl rfl 3 (by decide) (hts _ wf_X2_21) (fun _ h9 => h9) rfl dX2_greatestWoken_8 ?_
                        refine lv_iload_n hx hb dX2_greatestWoken_11 rfl (lv_at hl 0 rfl) ?_
                        refine va_zald hx hb hK hP 4 1 rfl rfl (by unfold vp_in; decide +kernel) dX2_greatestWoken_12 ?_
                        refine lv_if_eq (tgt := 18) hx hb dX2_greatestWoken_13 (by decide) (fun c_12 => ?_) (fun c_12 => ?_)
                        · skip
                          refine lv_iinc (v := 9) (lv' := [(1, .int 9), (0, .ref qT)]) hx hb dX2_greatestWoken_18 hl (k := 0) rfl (by decide) (by decide) rfl (fun ls hl => ?_)
                          refine lv_goto (tgt := 3) hx hb dX2_greatestWoken_21 (by decide) ?_
                          refine lv_iload_n hx hb dX2_greatestWoken_3 rfl (lv_at hl 0 rfl) ?_
                          refine lv_if_le (tgt := 24) hx hb dX2_greatestWoken_4 (by decide) (fun c_13 => ?_) (fun c_13 => ?_)
                          · exact absurd c_13 (by decide)
                          · skip
                            refine lv_aload_n hx hb dX2_greatestWoken_7 rfl (lv_at hl 1 rfl) ?_
                            refine va_get (D := D) (ci := 2) (v := .ref qk) (C := RX2) (T := TX2) (N := 7) hx hb hts ilX2 hown hK hP 0 rfl rfl 3 (by decide) (hts _ wf_X2_21) (fun _ h9 => h9) rfl dX2_greatestWoken_8 ?_
                            refine lv_iload_n hx hb dX2_greatestWoken_11 rfl (lv_at hl 0 rfl) ?_
                            refine va_zald hx hb hK hP 4 1 rfl rfl (by unfold vp_in; decide +kernel) dX2_greatestWoken_12 ?_
                            refine lv_if_eq (tgt := 18) hx hb dX2_greatestWoken_13 (by decide) (fun c_14 => ?_) (fun c_14 => ?_)
                            · skip
                              refine lv_iinc (v := 8) (lv' := [(1, .int 8), (0, .ref qT)]) hx hb dX2_greatestWoken_18 hl (k := 0) rfl (by decide) (by decide) rfl (fun ls hl => ?_)
                              refine lv_goto (tgt := 3) hx hb dX2_greatestWoken_21 (by decide) ?_
                              refine lv_iload_n hx hb dX2_greatestWoken_3 rfl (lv_at hl 0 rfl) ?_
                              refine lv_if_le (tgt := 24) hx hb dX2_greatestWoken_4 (by decide) (fun c_15 => ?_) (fun c_15 => ?_)
                              · exact absurd c_15 (by decide)
                              · skip
                                refine lv_aload_n hx hb dX2_greatestWoken_7 rfl (lv_at hl 1 rfl) ?_
                                refine va_get (D := D) (ci := 2) (v := .ref qk) (C := RX2) (T := TX2) (N := 7) hx hb hts ilX2 hown hK hP 0 rfl rfl 3 (by decide) (hts _ wf_X2_21) (fun _ h9 => h9) rfl dX2_greatestWoken_8 ?_
                                refine lv_iload_n hx hb dX2_greatestWoken_11 rfl (lv_at hl 0 rfl) ?_
                                refine va_zald hx hb hK hP 4 1 rfl rfl (by unfold vp_in; decide +kernel) dX2_greatestWoken_12 ?_
                                refine lv_if_eq (tgt := 18) hx hb dX2_greatestWoken_13 (by decide) (fun c_16 => ?_) (fun c_16 => ?_)
                                · skip
                                  refine lv_iinc (v := 7) (lv' := [(1, .int 7), (0, .ref qT)]) hx hb dX2_greatestWoken_18 hl (k := 0) rfl (by decide) (by decide) rfl (fun ls hl => ?_)
                                  refine lv_goto (tgt := 3) hx hb dX2_greatestWoken_21 (by decide) ?_
                                  refine lv_iload_n hx hb dX2_greatestWoken_3 rfl (lv_at hl 0 rfl) ?_
                                  refine lv_if_le (tgt := 24) hx hb dX2_greatestWoken_4 (by decide) (fun c_17 => ?_) (fun c_17 => ?_)
                                  · exact absurd c_17 (by decide)
                                  · skip
                                    refine lv_aload_n hx hb dX2_greatestWoken_7 rfl (lv_at hl 1 rfl) ?_
                                    refine va_get (D := D) (ci := 2) (v := .ref qk) (C := RX2) (T := TX2) (N := 7) hx hb hts ilX2 hown hK hP 0 rfl rfl 3 (by decide) (hts _ wf_X2_21) (fun _ h9 => h9) rfl dX2_greatestWoken_8 ?_
                                    refine lv_iload_n hx hb dX2_greatestWoken_11 rfl (lv_at hl 0 rfl) ?_
                                    refine va_zald hx hb hK hP 4 1 rfl rfl (by unfold vp_in; decide +kernel) dX2_greatestWoken_12 ?_
                                    refine lv_if_eq (tgt := 18) hx hb dX2_greatestWoken_13 (by decide) (fun c_18 => ?_) (fun c_18 => ?_)
                                    · skip
                                      refine lv_iinc (v := 6) (lv' := [(1, .int 6), (0, .ref qT)]) hx hb dX2_greatestWoken_18 hl (k := 0) rfl (by decide) (by decide) rfl (fun ls hl => ?_)
                                      refine lv_goto (tgt := 3) hx hb dX2_greatestWoken_21 (by decide) ?_
                                      refine lv_iload_n hx hb dX2_greatestWoken_3 rfl (lv_at hl 0 rfl) ?_
                                      refine lv_if_le (tgt := 24) hx hb dX2_greatestWoken_4 (by decide) (fun c_19 => ?_) (fun c_19 => ?_)
                                      · exact absurd c_19 (by decide)
                                      · skip
                                        refine lv_aload_n hx hb dX2_greatestWoken_7 rfl (lv_at hl 1 rfl) ?_
                                        refine va_get (D := D) (ci := 2) (v := .ref qk) (C := RX2) (T := TX2) (N := 7) hx hb hts ilX2 hown hK hP 0 rfl rfl 3 (by decide) (hts _ wf_X2_21) (fun _ h9 => h9) rfl dX2_greatestWoken_8 ?_
                                        refine lv_iload_n hx hb dX2_greatestWoken_11 rfl (lv_at hl 0 rfl) ?_
                                        refine va_zald hx hb hK hP 4 1 rfl rfl (by unfold vp_in; decide +kernel) dX2_greatestWoken_12 ?_
                                        refine lv_if_eq (tgt := 18) hx hb dX2_greatestWoken_13 (by decide) (fun c_20 => ?_) (fun c_20 => ?_)
                                        · skip
                                          refine lv_iinc (v := 5) (lv' := [(1, .int 5), (0, .ref qT)]) hx hb dX2_greatestWoken_18 hl (k := 0) rfl (by decide) (by decide) rfl (fun ls hl => ?_)
                                          refine lv_goto (tgt := 3) hx hb dX2_greatestWoken_21 (by decide) ?_
                                          refine lv_iload_n hx hb dX2_greatestWoken_3 rfl (lv_at hl 0 rfl) ?_
                                          refine lv_if_le (tgt := 24) hx hb dX2_greatestWoken_4 (by decide) (fun c_21 => ?_) (fun c_21 => ?_)
                                          · exact absurd c_21 (by decide)
                                          · skip
                                            refine lv_aload_n hx hb dX2_greatestWoken_7 rfl (lv_at hl 1 rfl) ?_
                                            refine va_get (D := D) (ci := 2) (v := .ref qk) (C := RX2) (T := TX2) (N := 7) hx hb hts ilX2 hown hK hP 0 rfl rfl 3 (by decide) (hts _ wf_X2_21) (fun _ h9 => h9) rfl dX2_greatestWoken_8 ?_
                                            refine lv_iload_n hx hb dX2_greatestWoken_11 rfl (lv_at hl 0 rfl) ?_
                                            refine va_zald hx hb hK hP 4 1 rfl rfl (by unfold vp_in; decide +kernel) dX2_greatestWoken_12 ?_
                                            refine lv_if_eq (tgt := 18) hx hb dX2_greatestWoken_13 (by decide) (fun c_22 => ?_) (fun c_22 => ?_)
                                            · skip
                                              refine lv_iinc (v := 4) (lv' := [(1, .int 4), (0, .ref qT)]) hx hb dX2_greatestWoken_18 hl (k := 0) rfl (by decide) (by decide) rfl (fun ls hl => ?_)
                                              refine lv_goto (tgt := 3) hx hb dX2_greatestWoken_21 (by decide) ?_
                                              refine lv_iload_n hx hb dX2_greatestWoken_3 rfl (lv_at hl 0 rfl) ?_
                                              refine lv_if_le (tgt := 24) hx hb dX2_greatestWoken_4 (by decide) (fun c_23 => ?_) (fun c_23 => ?_)
                                              · exact absurd c_23 (by decide)
                                              · skip
                                                refine lv_aload_n hx hb dX2_greatestWoken_7 rfl (lv_at hl 1 rfl) ?_
                                                refine va_get (D := D) (ci := 2) (v := .ref qk) (C := RX2) (T := TX2) (N := 7) hx hb hts ilX2 hown hK hP 0 rfl rfl 3 (by decide) (hts _ wf_X2_21) (fun _ h9 => h9) rfl dX2_greatestWoken_8 ?_
                                                refine lv_iload_n hx hb dX2_greatestWoken_11 rfl (lv_at hl 0 rfl) ?_
                                                refine va_zald hx hb hK hP 4 1 rfl rfl (by unfold vp_in; decide +kernel) dX2_greatestWoken_12 ?_
                                                refine lv_if_eq (tgt := 18) hx hb dX2_greatestWoken_13 (by decide) (fun c_24 => ?_) (fun c_24 => ?_)
                                                · skip
                                                  refine lv_iinc (v := 3) (lv' := [(1, .int 3), (0, .ref qT)]) hx hb dX2_greatestWoken_18 hl (k := 0) rfl (by decide) (by decide) rfl (fun ls hl => ?_)
                                                  refine lv_goto (tgt := 3) hx hb dX2_greatestWoken_21 (by decide) ?_
                                                  refine lv_iload_n hx hb dX2_greatestWoken_3 rfl (lv_at hl 0 rfl) ?_
                                                  refine lv_if_le (tgt := 24) hx hb dX2_greatestWoken_4 (by decide) (fun c_25 => ?_) (fun c_25 => ?_)
                                                  · exact absurd c_25 (by decide)
                                                  · skip
                                                    refine lv_aload_n hx hb dX2_greatestWoken_7 rfl (lv_at hl 1 rfl) ?_
                                                    refine va_get (D := D) (ci := 2) (v := .ref qk) (C := RX2) (T := TX2) (N := 7) hx hb hts ilX2 hown hK hP 0 rfl rfl 3 (by decide) (hts _ wf_X2_21) (fun _ h9 => h9) rfl dX2_greatestWoken_8 ?_
                                                    refine lv_iload_n hx hb dX2_greatestWoken_11 rfl (lv_at hl 0 rfl) ?_
                                                    refine va_zald hx hb hK hP 4 1 rfl rfl (by unfold vp_in; decide +kernel) dX2_greatestWoken_12 ?_
                                                    refine lv_if_eq (tgt := 18) hx hb dX2_greatestWoken_13 (by decide) (fun c_26 => ?_) (fun c_26 => ?_)
                                                    · skip
                                                      refine lv_iinc (v := 2) (lv' := [(1, .int 2), (0, .ref qT)]) hx hb dX2_greatestWoken_18 hl (k := 0) rfl (by decide) (by decide) rfl (fun ls hl => ?_)
                                                      refine lv_goto (tgt := 3) hx hb dX2_greatestWoken_21 (by decide) ?_
                                                      refine lv_iload_n hx hb dX2_greatestWoken_3 rfl (lv_at hl 0 rfl) ?_
                                                      refine lv_if_le (tgt := 24) hx hb dX2_greatestWoken_4 (by decide) (fun c_27 => ?_) (fun c_27 => ?_)
                                                      · exact absurd c_27 (by decide)
                                                      · skip
                                                        refine lv_aload_n hx hb dX2_greatestWoken_7 rfl (lv_at hl 1 rfl) ?_
                                                        refine va_get (D := D) (ci := 2) (v := .ref qk) (C := RX2) (T := TX2) (N := 7) hx hb hts ilX2 hown hK hP 0 rfl rfl 3 (by decide) (hts _ wf_X2_21) (fun _ h9 => h9) rfl dX2_greatestWoken_8 ?_
                                                        refine lv_iload_n hx hb dX2_greatestWoken_11 rfl (lv_at hl 0 rfl) ?_
                                                        refine va_zald hx hb hK hP 4 1 rfl rfl (by unfold vp_in; decide +kernel) dX2_greatestWoken_12 ?_
                                                        refine lv_if_eq (tgt := 18) hx hb dX2_greatestWoken_13 (by decide) (fun c_28 => ?_) (fun c_28 => ?_)
                                                        · skip
                                                          refine lv_iinc (v := 1) (lv' := [(1, .int 1), (0, .ref qT)]) hx hb dX2_greatestWoken_18 hl (k := 0) rfl (by decide) (by decide) rfl (fun ls hl => ?_)
                                                          refine lv_goto (tgt := 3) hx hb dX2_greatestWoken_21 (by decide) ?_
                                                          refine lv_iload_n hx hb dX2_greatestWoken_3 rfl (lv_at hl 0 rfl) ?_
                                                          refine lv_if_le (tgt := 24) hx hb dX2_greatestWoken_4 (by decide) (fun c_29 => ?_) (fun c_29 => ?_)
                                                          · exact absurd c_29 (by decide)
                                                          · skip
                                                            refine lv_aload_n hx hb dX2_greatestWoken_7 rfl (lv_at hl 1 rfl) ?_
                                                            refine va_get (D := D) (ci := 2) (v := .ref qk) (C := RX2) (T := TX2) (N := 7) hx hb hts ilX2 hown hK hP 0 rfl rfl 3 (by decide) (hts _ wf_X2_21) (fun _ h9 => h9) rfl dX2_greatestWoken_8 ?_
                                                            refine lv_iload_n hx hb dX2_greatestWoken_11 rfl (lv_at hl 0 rfl) ?_
                                                            refine va_zald hx hb hK hP 4 1 rfl rfl (by unfold vp_in; decide +kernel) dX2_greatestWoken_12 ?_
                                                            refine lv_if_eq (tgt := 18) hx hb dX2_greatestWoken_13 (by decide) (fun c_30 => ?_) (fun c_30 => ?_)
                                                            · skip
                                                              refine lv_iinc (v := 0) (lv' := [(1, .int 0), (0, .ref qT)]) hx hb dX2_greatestWoken_18 hl (k := 0) rfl (by decide) (by decide) rfl (fun ls hl => ?_)
                                                              refine lv_goto (tgt := 3) hx hb dX2_greatestWoken_21 (by decide) ?_
                                                              refine lv_iload_n hx hb dX2_greatestWoken_3 rfl (lv_at hl 0 rfl) ?_
                                                              refine lv_if_le (tgt := 24) hx hb dX2_greatestWoken_4 (by decide) (fun c_31 => ?_) (fun c_31 => ?_)
                                                              · skip
                                                                refine lv_iconst (v := 0) hx hb dX2_greatestWoken_24 (by decide) ?_
                                                                have e_1 : r_X2_greatestWoken fk = 0 := by simp only [r_X2_greatestWoken, if_pos c_2, if_pos c_4, if_pos c_6, if_pos c_8, if_pos c_10, if_pos c_12, if_pos c_14, if_pos c_16, if_pos c_18, if_pos c_20, if_pos c_22, if_pos c_24, if_pos c_26, if_pos c_28, if_pos c_30]
                                                                exact ct_iret hx hb hr hlocks hP hD hS rfl (by rw [e_1]) dX2_greatestWoken_25
                                                              · exact absurd c_31 (by decide)
                                                            · skip
                                                              refine lv_iload_n hx hb dX2_greatestWoken_16 rfl (lv_at hl 0 rfl) ?_
                                                              have e_1 : r_X2_greatestWoken fk = 1 := by simp only [r_X2_greatestWoken, if_pos c_2, if_pos c_4, if_pos c_6, if_pos c_8, if_pos c_10, if_pos c_12, if_pos c_14, if_pos c_16, if_pos c_18, if_pos c_20, if_pos c_22, if_pos c_24, if_pos c_26, if_pos c_28, if_neg c_30]
                                                              exact ct_iret hx hb hr hlocks hP hD hS rfl (by rw [e_1]) dX2_greatestWoken_17
                                                        · skip
                                                          refine lv_iload_n hx hb dX2_greatestWoken_16 rfl (lv_at hl 0 rfl) ?_
                                                          have e_1 : r_X2_greatestWoken fk = 2 := by simp only [r_X2_greatestWoken, if_pos c_2, if_pos c_4, if_pos c_6, if_pos c_8, if_pos c_10, if_pos c_12, if_pos c_14, if_pos c_16, if_pos c_18, if_pos c_20, if_pos c_22, if_pos c_24, if_pos c_26, if_neg c_28]
                                                          exact ct_iret hx hb hr hlocks hP hD hS rfl (by rw [e_1]) dX2_greatestWoken_17
                                                    · skip
                                                      refine lv_iload_n hx hb dX2_greatestWoken_16 rfl (lv_at hl 0 rfl) ?_
                                                      have e_1 : r_X2_greatestWoken fk = 3 := by simp only [r_X2_greatestWoken, if_pos c_2, if_pos c_4, if_pos c_6, if_pos c_8, if_pos c_10, if_pos c_12, if_pos c_14, if_pos c_16, if_pos c_18, if_pos c_20, if_pos c_22, if_pos c_24, if_neg c_26]
                                                      exact ct_iret hx hb hr hlocks hP hD hS rfl (by rw [e_1]) dX2_greatestWoken_17
                                                · skip
                                                  refine lv_iload_n hx hb dX2_greatestWoken_16 rfl (lv_at hl 0 rfl) ?_
                                                  have e_1 : r_X2_greatestWoken fk = 4 := by simp only [r_X2_greatestWoken, if_pos c_2, if_pos c_4, if_pos c_6, if_pos c_8, if_pos c_10, if_pos c_12, if_pos c_14, if_pos c_16, if_pos c_18, if_pos c_20, if_pos c_22, if_neg c_24]
                                                  exact ct_iret hx hb hr hlocks hP hD hS rfl (by rw [e_1]) dX2_greatestWoken_17
                                            · skip
                                              refine lv_iload_n hx hb dX2_greatestWoken_16 rfl (lv_at hl 0 rfl) ?_
                                              have e_1 : r_X2_greatestWoken fk = 5 := by simp only [r_X2_greatestWoken, if_pos c_2, if_pos c_4, if_pos c_6, if_pos c_8, if_pos c_10, if_pos c_12, if_pos c_14, if_pos c_16, if_pos c_18, if_pos c_20, if_neg c_22]
                                              exact ct_iret hx hb hr hlocks hP hD hS rfl (by rw [e_1]) dX2_greatestWoken_17
                                        · skip
                                          refine lv_iload_n hx hb dX2_greatestWoken_16 rfl (lv_at hl 0 rfl) ?_
                                          have e_1 : r_X2_greatestWoken fk = 6 := by simp only [r_X2_greatestWoken, if_pos c_2, if_pos c_4, if_pos c_6, if_pos c_8, if_pos c_10, if_pos c_12, if_pos c_14, if_pos c_16, if_pos c_18, if_neg c_20]
                                          exact ct_iret hx hb hr hlocks hP hD hS rfl (by rw [e_1]) dX2_greatestWoken_17
                                    · skip
                                      refine lv_iload_n hx hb dX2_greatestWoken_16 rfl (lv_at hl 0 rfl) ?_
                                      have e_1 : r_X2_greatestWoken fk = 7 := by simp only [r_X2_greatestWoken, if_pos c_2, if_pos c_4, if_pos c_6, if_pos c_8, if_pos c_10, if_pos c_12, if_pos c_14, if_pos c_16, if_neg c_18]
                                      exact ct_iret hx hb hr hlocks hP hD hS rfl (by rw [e_1]) dX2_greatestWoken_17
                                · skip
                                  refine lv_iload_n hx hb dX2_greatestWoken_16 rfl (lv_at hl 0 rfl) ?_
                                  have e_1 : r_X2_greatestWoken fk = 8 := by simp only [r_X2_greatestWoken, if_pos c_2, if_pos c_4, if_pos c_6, if_pos c_8, if_pos c_10, if_pos c_12, if_pos c_14, if_neg c_16]
                                  exact ct_iret hx hb hr hlocks hP hD hS rfl (by rw [e_1]) dX2_greatestWoken_17
                            · skip
                              refine lv_iload_n hx hb dX2_greatestWoken_16 rfl (lv_at hl 0 rfl) ?_
                              have e_1 : r_X2_greatestWoken fk = 9 := by simp only [r_X2_greatestWoken, if_pos c_2, if_pos c_4, if_pos c_6, if_pos c_8, if_pos c_10, if_pos c_12, if_neg c_14]
                              exact ct_iret hx hb hr hlocks hP hD hS rfl (by rw [e_1]) dX2_greatestWoken_17
                        · skip
                          refine lv_iload_n hx hb dX2_greatestWoken_16 rfl (lv_at hl 0 rfl) ?_
                          have e_1 : r_X2_greatestWoken fk = 10 := by simp only [r_X2_greatestWoken, if_pos c_2, if_pos c_4, if_pos c_6, if_pos c_8, if_pos c_10, if_neg c_12]
                          exact ct_iret hx hb hr hlocks hP hD hS rfl (by rw [e_1]) dX2_greatestWoken_17
                    · skip
                      refine lv_iload_n hx hb dX2_greatestWoken_16 rfl (lv_at hl 0 rfl) ?_
                      have e_1 : r_X2_greatestWoken fk = 11 := by simp only [r_X2_greatestWoken, if_pos c_2, if_pos c_4, if_pos c_6, if_pos c_8, if_neg c_10]
                      exact ct_iret hx hb hr hlocks hP hD hS rfl (by rw [e_1]) dX2_greatestWoken_17
                · skip
                  refine lv_iload_n hx hb dX2_greatestWoken_16 rfl (lv_at hl 0 rfl) ?_
                  have e_1 : r_X2_greatestWoken fk = 12 := by simp only [r_X2_greatestWoken, if_pos c_2, if_pos c_4, if_pos c_6, if_neg c_8]
                  exact ct_iret hx hb hr hlocks hP hD hS rfl (by rw [e_1]) dX2_greatestWoken_17
            · skip
              refine lv_iload_n hx hb dX2_greatestWoken_16 rfl (lv_at hl 0 rfl) ?_
              have e_1 : r_X2_greatestWoken fk = 13 := by simp only [r_X2_greatestWoken, if_pos c_2, if_pos c_4, if_neg c_6]
              exact ct_iret hx hb hr hlocks hP hD hS rfl (by rw [e_1]) dX2_greatestWoken_17
        · skip
          refine lv_iload_n hx hb dX2_greatestWoken_16 rfl (lv_at hl 0 rfl) ?_
          have e_1 : r_X2_greatestWoken fk = 14 := by simp only [r_X2_greatestWoken, if_pos c_2, if_neg c_4]
          exact ct_iret hx hb hr hlocks hP hD hS rfl (by rw [e_1]) dX2_greatestWoken_17
    · skip
      refine lv_iload_n hx hb dX2_greatestWoken_16 rfl (lv_at hl 0 rfl) ?_
      have e_1 : r_X2_greatestWoken fk = 15 := by simp only [r_X2_greatestWoken, if_neg c_2]
      exact ct_iret hx hb hr hlocks hP hD hS rfl (by rw [e_1]) dX2_greatestWoken_17
def z_X2_giveTo_qT4 (hand : Int32) (p0 : Int32) : Int32 := (if p0 = hand then hand else p0)
def z_X2_giveTo_qT5 (hand : Int32) (hov : Int32) (p0 : Int32) : Int32 := (if p0 = hand then hov else hov + 1)
set_option maxHeartbeats 4000000 in
set_option maxRecDepth 100000 in
theorem c_X2_giveTo (l : Launch) (D : va_G) (cI cZ : ClassId) (qT : Nat) (qp : Nat) (qc : Nat) (qd : Nat) (qk : Nat) (fp : Nat → Int32) (fc : Nat → Int32) (fd : Nat → Int32) (fk : Nat → Int32) (hand : Int32) (hov : Int32) (said : Int32) (p0 : Int32) : CtV l D classes [(cI, .int), (cZ, .boolean)] yX2_giveTo w_X2_giveTo { frames := 0, cells := 0, slots := 0, locals := 0 } [.ref qT, .int p0] [(qT, .inr (2, [.ref qp, .ref qc, .ref qd, .ref qk, .int hand, .int hov, .int said])), (qp, .inl (cI, 16, .inl fp)), (qc, .inl (cI, 16, .inl fc)), (qd, .inl (cI, 16, .inl fd)), (qk, .inl (cZ, 16, .inl fk))] (fun (_ : Unit) => [(qT, .inr (2, [.ref qp, .ref qc, .ref qd, .ref qk, .int (z_X2_giveTo_qT4 hand p0), .int (z_X2_giveTo_qT5 hand hov p0), .int said])), (qp, .inl (cI, 16, .inl fp)), (qc, .inl (cI, 16, .inl fc)), (qd, .inl (cI, 16, .inl fd)), (qk, .inl (cZ, 16, .inl fk))]) 0 0 := by
  refine CtV.mk (cc := cX2_giveTo) (maxL := 2) (ret := none) (by decide) rfl (Nat.le_of_ble_eq_true rfl) ?_
  intro p e s m below meth c A hBeg ls hl
  obtain ⟨hx, hb, hr, hml, hts0, hown, hlocks, hin, hA, hK, hP, hD, hS⟩ := hBeg
  have hts := fun w h => hts0 w (List.mem_cons_of_mem _ h)
  have hown : s.vm.findClass RX2 = some m.cls := hown
  have hl : lv_has ls 2 [(0, .ref qT), (1, .int p0)] := hl
  skip
  refine lv_iload_n hx hb dX2_giveTo_0 rfl (lv_at hl 1 rfl) ?_
  refine lv_aload_n hx hb dX2_giveTo_1 rfl (lv_at hl 0 rfl) ?_
  refine va_get (D := D) (ci := 2) (v := .int hand) (C := RX2) (T := TX2) (N := 7) hx hb hts ilX2 hown hK hP 0 rfl rfl 4 (by decide) (hts _ wf_X2_25) (fun _ h9 => h9) rfl dX2_giveTo_2 ?_
  refine lv_icmp_eq (tgt := 23) hx hb dX2_giveTo_5 (by decide) (fun c_1 => ?_) (fun c_1 => ?_)
  · skip
    have e_1 : z_X2_giveTo_qT4 hand p0 = hand := by simp only [z_X2_giveTo_qT4, if_pos c_1]
    have e_2 : z_X2_giveTo_qT5 hand hov p0 = hov := by simp only [z_X2_giveTo_qT5, if_pos c_1]
    exact ct_vret () hx hb hr hlocks hP hD hS (by rw [e_1, e_2]) dX2_giveTo_23
  · skip
    refine lv_aload_n hx hb dX2_giveTo_8 rfl (lv_at hl 0 rfl) ?_
    refine lv_iload_n hx hb dX2_giveTo_9 rfl (lv_at hl 1 rfl) ?_
    refine va_put (D := D) (ci := 2) (v := .int p0) (ty := (.int)) (C := RX2) (T := TX2) (N := 7) hx hb hts ilX2 tyX2 tyX2_ok nmX2 hown hK hP hD hS 0 rfl rfl 4 (by decide) (hts _ wf_X2_25) (fun _ h9 => h9) rfl (by decide +kernel) rfl rfl (Nat.le_of_ble_eq_true rfl) dX2_giveTo_10 (fun H locs hP hD hS => ?_)
    have hP : va_P D classes [(qT, .inr (2, [.ref qp, .ref qc, .ref qd, .ref qk, .int p0, .int hov, .int said])), (qp, .inl (cI, 16, .inl fp)), (qc, .inl (cI, 16, .inl fc)), (qd, .inl (cI, 16, .inl fd)), (qk, .inl (cZ, 16, .inl fk))] H := hP
    have hD : va_D A [(qT, .inr (2, [.ref qp, .ref qc, .ref qd, .ref qk, .int p0, .int hov, .int said])), (qp, .inl (cI, 16, .inl fp)), (qc, .inl (cI, 16, .inl fc)), (qd, .inl (cI, 16, .inl fd)), (qk, .inl (cZ, 16, .inl fk))] := hD
    refine lv_aload_n hx hb dX2_giveTo_13 rfl (lv_at hl 0 rfl) ?_
    refine lv_dup hx hb dX2_giveTo_14 rfl ?_
    refine va_get (D := D) (ci := 2) (v := .int hov) (C := RX2) (T := TX2) (N := 7) hx hb hts ilX2 hown hK hP 0 rfl rfl 5 (by decide) (hts _ wf_X2_41) (fun _ h9 => h9) rfl dX2_giveTo_15 ?_
    refine lv_iconst (v := 1) hx hb dX2_giveTo_18 (by decide) ?_
    refine lv_iadd hx hb dX2_giveTo_19 ?_
    refine va_put (D := D) (ci := 2) (v := .int (hov + 1)) (ty := (.int)) (C := RX2) (T := TX2) (N := 7) hx hb hts ilX2 tyX2 tyX2_ok nmX2 hown hK hP hD hS 0 rfl rfl 5 (by decide) (hts _ wf_X2_41) (fun _ h9 => h9) rfl (by decide +kernel) rfl rfl (Nat.le_of_ble_eq_true rfl) dX2_giveTo_20 (fun H locs hP hD hS => ?_)
    have hP : va_P D classes [(qT, .inr (2, [.ref qp, .ref qc, .ref qd, .ref qk, .int p0, .int (hov + 1), .int said])), (qp, .inl (cI, 16, .inl fp)), (qc, .inl (cI, 16, .inl fc)), (qd, .inl (cI, 16, .inl fd)), (qk, .inl (cZ, 16, .inl fk))] H := hP
    have hD : va_D A [(qT, .inr (2, [.ref qp, .ref qc, .ref qd, .ref qk, .int p0, .int (hov + 1), .int said])), (qp, .inl (cI, 16, .inl fp)), (qc, .inl (cI, 16, .inl fc)), (qd, .inl (cI, 16, .inl fd)), (qk, .inl (cZ, 16, .inl fk))] := hD
    have e_1 : z_X2_giveTo_qT4 hand p0 = p0 := by simp only [z_X2_giveTo_qT4, if_neg c_1]
    have e_2 : z_X2_giveTo_qT5 hand hov p0 = hov + 1 := by simp only [z_X2_giveTo_qT5, if_neg c_1]
    exact ct_vret () hx hb hr hlocks hP hD hS (by rw [e_1, e_2]) dX2_giveTo_23
def j_X2_goOn_65_qk (fk : Nat → Int32) (hand : Int32) (p2 : Int32) : Nat → Int32 := (if p2 = 3 then (if hand = 0 then fk else upd fk (Int32.toNatClampNeg hand) 0) else fk)
def j_X2_goOn_80_qT4 (fk : Nat → Int32) (hand : Int32) (said : Int32) (p2 : Int32) : Int32 := (if said = 0 then hand else z_X2_giveTo_qT4 hand (r_X2_greatestWoken (j_X2_goOn_65_qk fk hand p2)))
def j_X2_goOn_80_qT5 (fk : Nat → Int32) (hand : Int32) (hov : Int32) (said : Int32) (p2 : Int32) : Int32 := (if said = 0 then hov else z_X2_giveTo_qT5 hand hov (r_X2_greatestWoken (j_X2_goOn_65_qk fk hand p2)))
def z_X2_goOn_qT6 (p2 : Int32) : Int32 := (if p2 = 2 then 1 else 0)
set_option maxHeartbeats 4000000 in
set_option maxRecDepth 100000 in
theorem c_X2_goOn (l : Launch) (D : va_G) (cI cZ : ClassId) (qT : Nat) (qp : Nat) (qc : Nat) (qd : Nat) (qk : Nat) (fp : Nat → Int32) (fc : Nat → Int32) (fd : Nat → Int32) (fk : Nat → Int32) (hand : Int32) (hov : Int32) (said : Int32) (p0 : Int32) (p1 : Int32) (p2 : Int32) (hh : vp_in hand 16) : CtV l D classes [(cI, .int), (cZ, .boolean)] yX2_goOn w_X2_goOn { frames := 1, cells := 0, slots := 0, locals := 21 } [.ref qT, .int p0, .int p1, .int p2] [(qT, .inr (2, [.ref qp, .ref qc, .ref qd, .ref qk, .int hand, .int hov, .int said])), (qp, .inl (cI, 16, .inl fp)), (qc, .inl (cI, 16, .inl fc)), (qd, .inl (cI, 16, .inl fd)), (qk, .inl (cZ, 16, .inl fk))] (fun (_ : Unit) => [(qT, .inr (2, [.ref qp, .ref qc, .ref qd, .ref qk, .int (j_X2_goOn_80_qT4 fk hand said p2), .int (j_X2_goOn_80_qT5 fk hand hov said p2), .int (z_X2_goOn_qT6 p2)])), (qp, .inl (cI, 16, .inl (upd fp (Int32.toNatClampNeg hand) (p0 ||| (fc (Int32.toNatClampNeg hand)))))), (qc, .inl (cI, 16, .inl (upd fc (Int32.toNatClampNeg hand) p1))), (qd, .inl (cI, 16, .inl (upd fd (Int32.toNatClampNeg hand) ((fd (Int32.toNatClampNeg hand)) + 1)))), (qk, .inl (cZ, 16, .inl (j_X2_goOn_65_qk fk hand p2)))]) 0 0 := by
  refine CtV.mk (cc := cX2_goOn) (maxL := 4) (ret := none) (by decide) rfl (Nat.le_of_ble_eq_true rfl) ?_
  intro p e s m below meth c A hBeg ls hl
  obtain ⟨hx, hb, hr, hml, hts0, hown, hlocks, hin, hA, hK, hP, hD, hS⟩ := hBeg
  have hts := fun w h => hts0 w (List.mem_cons_of_mem _ h)
  have hown : s.vm.findClass RX2 = some m.cls := hown
  have hl : lv_has ls 4 [(0, .ref qT), (1, .int p0), (2, .int p1), (3, .int p2)] := hl
  skip
  refine lv_aload_n hx hb dX2_goOn_0 rfl (lv_at hl 0 rfl) ?_
  refine va_get (D := D) (ci := 2) (v := .ref qp) (C := RX2) (T := TX2) (N := 7) hx hb hts ilX2 hown hK hP 0 rfl rfl 0 (by decide) (hts _ wf_X2_9) (fun _ h9 => h9) rfl dX2_goOn_1 ?_
  refine lv_aload_n hx hb dX2_goOn_4 rfl (lv_at hl 0 rfl) ?_
  refine va_get (D := D) (ci := 2) (v := .int hand) (C := RX2) (T := TX2) (N := 7) hx hb hts ilX2 hown hK hP 0 rfl rfl 4 (by decide) (hts _ wf_X2_25) (fun _ h9 => h9) rfl dX2_goOn_5 ?_
  refine lv_iload_n hx hb dX2_goOn_8 rfl (lv_at hl 1 rfl) ?_
  refine lv_aload_n hx hb dX2_goOn_9 rfl (lv_at hl 0 rfl) ?_
  refine va_get (D := D) (ci := 2) (v := .ref qc) (C := RX2) (T := TX2) (N := 7) hx hb hts ilX2 hown hK hP 0 rfl rfl 1 (by decide) (hts _ wf_X2_15) (fun _ h9 => h9) rfl dX2_goOn_10 ?_
  refine lv_aload_n hx hb dX2_goOn_13 rfl (lv_at hl 0 rfl) ?_
  refine va_get (D := D) (ci := 2) (v := .int hand) (C := RX2) (T := TX2) (N := 7) hx hb hts ilX2 hown hK hP 0 rfl rfl 4 (by decide) (hts _ wf_X2_25) (fun _ h9 => h9) rfl dX2_goOn_14 ?_
  refine va_iald hx hb hK hP 2 0 rfl rfl hh dX2_goOn_17 ?_
  refine lv_ior hx hb dX2_goOn_18 ?_
  refine va_iast hx hb hK hP hD hS 1 0 rfl rfl hh dX2_goOn_19 (fun H locs hP hD hS => ?_)
  have hP : va_P D classes [(qT, .inr (2, [.ref qp, .ref qc, .ref qd, .ref qk, .int hand, .int hov, .int said])), (qp, .inl (cI, 16, .inl (upd fp (Int32.toNatClampNeg hand) (p0 ||| (fc (Int32.toNatClampNeg hand)))))), (qc, .inl (cI, 16, .inl fc)), (qd, .inl (cI, 16, .inl fd)), (qk, .inl (cZ, 16, .inl fk))] H := hP
  have hD : va_D A [(qT, .inr (2, [.ref qp, .ref qc, .ref qd, .ref qk, .int hand, .int hov, .int said])), (qp, .inl (cI, 16, .inl (upd fp (Int32.toNatClampNeg hand) (p0 ||| (fc (Int32.toNatClampNeg hand)))))), (qc, .inl (cI, 16, .inl fc)), (qd, .inl (cI, 16, .inl fd)), (qk, .inl (cZ, 16, .inl fk))] := hD
  refine lv_aload_n hx hb dX2_goOn_20 rfl (lv_at hl 0 rfl) ?_
  refine va_get (D := D) (ci := 2) (v := .ref qc) (C := RX2) (T := TX2) (N := 7) hx hb hts ilX2 hown hK hP 0 rfl rfl 1 (by decide) (hts _ wf_X2_15) (fun _ h9 => h9) rfl dX2_goOn_21 ?_
  refine lv_aload_n hx hb dX2_goOn_24 rfl (lv_at hl 0 rfl) ?_
  refine va_get (D := D) (ci := 2) (v := .int hand) (C := RX2) (T := TX2) (N := 7) hx hb hts ilX2 hown hK hP 0 rfl rfl 4 (by decide) (hts _ wf_X2_25) (fun _ h9 => h9) rfl dX2_goOn_25 ?_
  refine lv_iload_n hx hb dX2_goOn_28 rfl (lv_at hl 2 rfl) ?_
  refine va_iast hx hb hK hP hD hS 2 0 rfl rfl hh dX2_goOn_29 (fun H locs hP hD hS => ?_)
  have hP : va_P D classes [(qT, .inr (2, [.ref qp, .ref qc, .ref qd, .ref qk, .int hand, .int hov, .int said])), (qp, .inl (cI, 16, .inl (upd fp (Int32.toNatClampNeg hand) (p0 ||| (fc (Int32.toNatClampNeg hand)))))), (qc, .inl (cI, 16, .inl (upd fc (Int32.toNatClampNeg hand) p1))), (qd, .inl (cI, 16, .inl fd)), (qk, .inl (cZ, 16, .inl fk))] H := hP
  have hD : va_D A [(qT, .inr (2, [.ref qp, .ref qc, .ref qd, .ref qk, .int hand, .int hov, .int said])), (qp, .inl (cI, 16, .inl (upd fp (Int32.toNatClampNeg hand) (p0 ||| (fc (Int32.toNatClampNeg hand)))))), (qc, .inl (cI, 16, .inl (upd fc (Int32.toNatClampNeg hand) p1))), (qd, .inl (cI, 16, .inl fd)), (qk, .inl (cZ, 16, .inl fk))] := hD
  refine lv_aload_n hx hb dX2_goOn_30 rfl (lv_at hl 0 rfl) ?_
  refine va_get (D := D) (ci := 2) (v := .ref qd) (C := RX2) (T := TX2) (N := 7) hx hb hts ilX2 hown hK hP 0 rfl rfl 2 (by decide) (hts _ wf_X2_18) (fun _ h9 => h9) rfl dX2_goOn_31 ?_
  refine lv_aload_n hx hb dX2_goOn_34 rfl (lv_at hl 0 rfl) ?_
  refine va_get (D := D) (ci := 2) (v := .int hand) (C := RX2) (T := TX2) (N := 7) hx hb hts ilX2 hown hK hP 0 rfl rfl 4 (by decide) (hts _ wf_X2_25) (fun _ h9 => h9) rfl dX2_goOn_35 ?_
  refine lv_dup2_11 hx hb dX2_goOn_38 rfl rfl ?_
  refine va_iald hx hb hK hP 3 0 rfl rfl hh dX2_goOn_39 ?_
  refine lv_iconst (v := 1) hx hb dX2_goOn_40 (by decide) ?_
  refine lv_iadd hx hb dX2_goOn_41 ?_
  refine va_iast hx hb hK hP hD hS 3 0 rfl rfl hh dX2_goOn_42 (fun H locs hP hD hS => ?_)
  have hP : va_P D classes [(qT, .inr (2, [.ref qp, .ref qc, .ref qd, .ref qk, .int hand, .int hov, .int said])), (qp, .inl (cI, 16, .inl (upd fp (Int32.toNatClampNeg hand) (p0 ||| (fc (Int32.toNatClampNeg hand)))))), (qc, .inl (cI, 16, .inl (upd fc (Int32.toNatClampNeg hand) p1))), (qd, .inl (cI, 16, .inl (upd fd (Int32.toNatClampNeg hand) ((fd (Int32.toNatClampNeg hand)) + 1)))), (qk, .inl (cZ, 16, .inl fk))] H := hP
  have hD : va_D A [(qT, .inr (2, [.ref qp, .ref qc, .ref qd, .ref qk, .int hand, .int hov, .int said])), (qp, .inl (cI, 16, .inl (upd fp (Int32.toNatClampNeg hand) (p0 ||| (fc (Int32.toNatClampNeg hand)))))), (qc, .inl (cI, 16, .inl (upd fc (Int32.toNatClampNeg hand) p1))), (qd, .inl (cI, 16, .inl (upd fd (Int32.toNatClampNeg hand) ((fd (Int32.toNatClampNeg hand)) + 1)))), (qk, .inl (cZ, 16, .inl fk))] := hD
  refine lv_iload_n hx hb dX2_goOn_43 rfl (lv_at hl 3 rfl) ?_
  refine lv_iconst (v := 3) hx hb dX2_goOn_44 (by decide) ?_
  refine ct_merge (fun H locs ls => va_P D classes [(qT, .inr (2, [.ref qp, .ref qc, .ref qd, .ref qk, .int hand, .int hov, .int said])), (qp, .inl (cI, 16, .inl (upd fp (Int32.toNatClampNeg hand) (p0 ||| (fc (Int32.toNatClampNeg hand)))))), (qc, .inl (cI, 16, .inl (upd fc (Int32.toNatClampNeg hand) p1))), (qd, .inl (cI, 16, .inl (upd fd (Int32.toNatClampNeg hand) ((fd (Int32.toNatClampNeg hand)) + 1)))), (qk, .inl (cZ, 16, .inl (j_X2_goOn_65_qk fk hand p2)))] H ∧ va_D A [(qT, .inr (2, [.ref qp, .ref qc, .ref qd, .ref qk, .int hand, .int hov, .int said])), (qp, .inl (cI, 16, .inl (upd fp (Int32.toNatClampNeg hand) (p0 ||| (fc (Int32.toNatClampNeg hand)))))), (qc, .inl (cI, 16, .inl (upd fc (Int32.toNatClampNeg hand) p1))), (qd, .inl (cI, 16, .inl (upd fd (Int32.toNatClampNeg hand) ((fd (Int32.toNatClampNeg hand)) + 1)))), (qk, .inl (cZ, 16, .inl (j_X2_goOn_65_qk fk hand p2)))] ∧ va_S A s.heap H locs ∧ lv_has ls 4 [(0, .ref qT), (1, .int p0), (2, .int p1), (3, .int p2)]) 65 [] ?_ (fun J => ?_)
  · skip
    intro H locs ls hh
    obtain ⟨hP, hD, hS, hl⟩ := hh
    refine lv_aload_n hx hb dX2_goOn_65 rfl (lv_at hl 0 rfl) ?_
    refine va_get (D := D) (ci := 2) (v := .int said) (C := RX2) (T := TX2) (N := 7) hx hb hts ilX2 hown hK hP 0 rfl rfl 6 (by decide) (hts _ wf_X2_29) (fun _ h9 => h9) rfl dX2_goOn_66 ?_
    refine ct_merge (fun H locs ls => va_P D classes [(qT, .inr (2, [.ref qp, .ref qc, .ref qd, .ref qk, .int (j_X2_goOn_80_qT4 fk hand said p2), .int (j_X2_goOn_80_qT5 fk hand hov said p2), .int said])), (qp, .inl (cI, 16, .inl (upd fp (Int32.toNatClampNeg hand) (p0 ||| (fc (Int32.toNatClampNeg hand)))))), (qc, .inl (cI, 16, .inl (upd fc (Int32.toNatClampNeg hand) p1))), (qd, .inl (cI, 16, .inl (upd fd (Int32.toNatClampNeg hand) ((fd (Int32.toNatClampNeg hand)) + 1)))), (qk, .inl (cZ, 16, .inl (j_X2_goOn_65_qk fk hand p2)))] H ∧ va_D A [(qT, .inr (2, [.ref qp, .ref qc, .ref qd, .ref qk, .int (j_X2_goOn_80_qT4 fk hand said p2), .int (j_X2_goOn_80_qT5 fk hand hov said p2), .int said])), (qp, .inl (cI, 16, .inl (upd fp (Int32.toNatClampNeg hand) (p0 ||| (fc (Int32.toNatClampNeg hand)))))), (qc, .inl (cI, 16, .inl (upd fc (Int32.toNatClampNeg hand) p1))), (qd, .inl (cI, 16, .inl (upd fd (Int32.toNatClampNeg hand) ((fd (Int32.toNatClampNeg hand)) + 1)))), (qk, .inl (cZ, 16, .inl (j_X2_goOn_65_qk fk hand p2)))] ∧ va_S A s.heap H locs ∧ lv_has ls 4 [(0, .ref qT), (1, .int p0), (2, .int p1), (3, .int p2)]) 80 [] ?_ (fun J => ?_)
    · skip
      intro H locs ls hh
      obtain ⟨hP, hD, hS, hl⟩ := hh
      refine lv_aload_n hx hb dX2_goOn_80 rfl (lv_at hl 0 rfl) ?_
      refine lv_iload_n hx hb dX2_goOn_81 rfl (lv_at hl 3 rfl) ?_
      refine lv_iconst (v := 2) hx hb dX2_goOn_82 (by decide) ?_
      refine lv_icmp_ne (tgt := 90) hx hb dX2_goOn_83 (by decide) (fun c_1 => ?_) (fun c_1 => ?_)
      · skip
        refine lv_iconst (v := 0) hx hb dX2_goOn_90 (by decide) ?_
        refine va_put (D := D) (ci := 2) (v := .int 0) (ty := (.boolean)) (C := RX2) (T := TX2) (N := 7) hx hb hts ilX2 tyX2 tyX2_ok nmX2 hown hK hP hD hS 0 rfl rfl 6 (by decide) (hts _ wf_X2_29) (fun _ h9 => h9) rfl (by decide +kernel) rfl rfl (Nat.le_of_ble_eq_true rfl) dX2_goOn_91 (fun H locs hP hD hS => ?_)
        have hP : va_P D classes [(qT, .inr (2, [.ref qp, .ref qc, .ref qd, .ref qk, .int (j_X2_goOn_80_qT4 fk hand said p2), .int (j_X2_goOn_80_qT5 fk hand hov said p2), .int 0])), (qp, .inl (cI, 16, .inl (upd fp (Int32.toNatClampNeg hand) (p0 ||| (fc (Int32.toNatClampNeg hand)))))), (qc, .inl (cI, 16, .inl (upd fc (Int32.toNatClampNeg hand) p1))), (qd, .inl (cI, 16, .inl (upd fd (Int32.toNatClampNeg hand) ((fd (Int32.toNatClampNeg hand)) + 1)))), (qk, .inl (cZ, 16, .inl (j_X2_goOn_65_qk fk hand p2)))] H := hP
        have hD : va_D A [(qT, .inr (2, [.ref qp, .ref qc, .ref qd, .ref qk, .int (j_X2_goOn_80_qT4 fk hand said p2), .int (j_X2_goOn_80_qT5 fk hand hov said p2), .int 0])), (qp, .inl (cI, 16, .inl (upd fp (Int32.toNatClampNeg hand) (p0 ||| (fc (Int32.toNatClampNeg hand)))))), (qc, .inl (cI, 16, .inl (upd fc (Int32.toNatClampNeg hand) p1))), (qd, .inl (cI, 16, .inl (upd fd (Int32.toNatClampNeg hand) ((fd (Int32.toNatClampNeg hand)) + 1)))), (qk, .inl (cZ, 16, .inl (j_X2_goOn_65_qk fk hand p2)))] := hD
        have e_1 : z_X2_goOn_qT6 p2 = 0 := by simp only [z_X2_goOn_qT6, if_neg c_1]
        exact ct_vret () hx hb hr hlocks hP hD hS (by rw [e_1]) dX2_goOn_94
      · skip
        refine lv_iconst (v := 1) hx hb dX2_goOn_86 (by decide) ?_
        refine lv_goto (tgt := 91) hx hb dX2_goOn_87 (by decide) ?_
        refine va_put (D := D) (ci := 2) (v := .int 1) (ty := (.boolean)) (C := RX2) (T := TX2) (N := 7) hx hb hts ilX2 tyX2 tyX2_ok nmX2 hown hK hP hD hS 0 rfl rfl 6 (by decide) (hts _ wf_X2_29) (fun _ h9 => h9) rfl (by decide +kernel) rfl rfl (Nat.le_of_ble_eq_true rfl) dX2_goOn_91 (fun H locs hP hD hS => ?_)
        have hP : va_P D classes [(qT, .inr (2, [.ref qp, .ref qc, .ref qd, .ref qk, .int (j_X2_goOn_80_qT4 fk hand said p2), .int (j_X2_goOn_80_qT5 fk hand hov said p2), .int 1])), (qp, .inl (cI, 16, .inl (upd fp (Int32.toNatClampNeg hand) (p0 ||| (fc (Int32.toNatClampNeg hand)))))), (qc, .inl (cI, 16, .inl (upd fc (Int32.toNatClampNeg hand) p1))), (qd, .inl (cI, 16, .inl (upd fd (Int32.toNatClampNeg hand) ((fd (Int32.toNatClampNeg hand)) + 1)))), (qk, .inl (cZ, 16, .inl (j_X2_goOn_65_qk fk hand p2)))] H := hP
        have hD : va_D A [(qT, .inr (2, [.ref qp, .ref qc, .ref qd, .ref qk, .int (j_X2_goOn_80_qT4 fk hand said p2), .int (j_X2_goOn_80_qT5 fk hand hov said p2), .int 1])), (qp, .inl (cI, 16, .inl (upd fp (Int32.toNatClampNeg hand) (p0 ||| (fc (Int32.toNatClampNeg hand)))))), (qc, .inl (cI, 16, .inl (upd fc (Int32.toNatClampNeg hand) p1))), (qd, .inl (cI, 16, .inl (upd fd (Int32.toNatClampNeg hand) ((fd (Int32.toNatClampNeg hand)) + 1)))), (qk, .inl (cZ, 16, .inl (j_X2_goOn_65_qk fk hand p2)))] := hD
        have e_1 : z_X2_goOn_qT6 p2 = 1 := by simp only [z_X2_goOn_qT6, if_pos c_1]
        exact ct_vret () hx hb hr hlocks hP hD hS (by rw [e_1]) dX2_goOn_94
    · skip
      refine lv_if_eq (tgt := 80) hx hb dX2_goOn_69 (by decide) (fun c_2 => ?_) (fun c_2 => ?_)
      · skip
        have hP := hP.sub (ws' := [(qT, .inr (2, [.ref qp, .ref qc, .ref qd, .ref qk, .int hand, .int hov, .int said])), (qp, .inl (cI, 16, .inl (upd fp (Int32.toNatClampNeg hand) (p0 ||| (fc (Int32.toNatClampNeg hand)))))), (qc, .inl (cI, 16, .inl (upd fc (Int32.toNatClampNeg hand) p1))), (qd, .inl (cI, 16, .inl (upd fd (Int32.toNatClampNeg hand) ((fd (Int32.toNatClampNeg hand)) + 1)))), (qk, .inl (cZ, 16, .inl (j_X2_goOn_65_qk fk hand p2)))]) [0, 1, 2, 3, 4] rfl
        have hD := hD.sub (ws' := [(qT, .inr (2, [.ref qp, .ref qc, .ref qd, .ref qk, .int hand, .int hov, .int said])), (qp, .inl (cI, 16, .inl (upd fp (Int32.toNatClampNeg hand) (p0 ||| (fc (Int32.toNatClampNeg hand)))))), (qc, .inl (cI, 16, .inl (upd fc (Int32.toNatClampNeg hand) p1))), (qd, .inl (cI, 16, .inl (upd fd (Int32.toNatClampNeg hand) ((fd (Int32.toNatClampNeg hand)) + 1)))), (qk, .inl (cZ, 16, .inl (j_X2_goOn_65_qk fk hand p2)))]) [0, 1, 2, 3, 4] (by decide) rfl
        have e_1 : j_X2_goOn_80_qT4 fk hand said p2 = hand := by simp only [j_X2_goOn_80_qT4, if_pos c_2]
        have e_2 : j_X2_goOn_80_qT5 fk hand hov said p2 = hov := by simp only [j_X2_goOn_80_qT5, if_pos c_2]
        exact J _ _ _ ⟨(by rw [e_1, e_2]; exact hP), (by rw [e_1, e_2]; exact hD), hS, (lv_sub hl [0, 1, 2, 3] rfl)⟩
      · skip
        refine lv_aload_n hx hb dX2_goOn_72 rfl (lv_at hl 0 rfl) ?_
        refine lv_aload_n hx hb dX2_goOn_73 rfl (lv_at hl 0 rfl) ?_
        refine ctI_V (As := []) (rest := [.ref qT]) (wc := [(qT, .inr (2, [.ref qp, .ref qc, .ref qd, .ref qk, .int hand, .int hov, .int said])), (qp, .inl (cI, 16, .inl (upd fp (Int32.toNatClampNeg hand) (p0 ||| (fc (Int32.toNatClampNeg hand)))))), (qc, .inl (cI, 16, .inl (upd fc (Int32.toNatClampNeg hand) p1))), (qd, .inl (cI, 16, .inl (upd fd (Int32.toNatClampNeg hand) ((fd (Int32.toNatClampNeg hand)) + 1)))), (qk, .inl (cZ, 16, .inl (j_X2_goOn_65_qk fk hand p2)))]) (wr := []) ⟨hx, hb, hml, hown, hts⟩ (c_X2_greatestWoken l D cI cZ qT qp qc qd qk (upd fp (Int32.toNatClampNeg hand) (p0 ||| (fc (Int32.toNatClampNeg hand)))) (upd fc (Int32.toNatClampNeg hand) p1) (upd fd (Int32.toNatClampNeg hand) ((fd (Int32.toNatClampNeg hand)) + 1)) (j_X2_goOn_65_qk fk hand p2) hand hov said) (cwV 0 hts (gd_V wm_X2_33 wi_X2_greatestWoken ws_X2_greatestWoken wz_X2 wo_X2_greatestWoken) rfl rfl rfl (by decide +kernel) ⟨Nat.le_of_ble_eq_true rfl, Nat.le_of_ble_eq_true rfl⟩) hK hP hD hS hA 0 rfl rfl rfl [0, 1, 2, 3, 4] [] rfl rfl (by decide) (by decide) (by decide) rfl rfl hl.1 (Nat.le_of_ble_eq_true rfl) dX2_goOn_74 ⟨Nat.le_of_ble_eq_true rfl, Nat.le_of_ble_eq_true rfl⟩ (fun H locs hP hD hS => ?_)
        have hP : va_P D classes [(qT, .inr (2, [.ref qp, .ref qc, .ref qd, .ref qk, .int hand, .int hov, .int said])), (qp, .inl (cI, 16, .inl (upd fp (Int32.toNatClampNeg hand) (p0 ||| (fc (Int32.toNatClampNeg hand)))))), (qc, .inl (cI, 16, .inl (upd fc (Int32.toNatClampNeg hand) p1))), (qd, .inl (cI, 16, .inl (upd fd (Int32.toNatClampNeg hand) ((fd (Int32.toNatClampNeg hand)) + 1)))), (qk, .inl (cZ, 16, .inl (j_X2_goOn_65_qk fk hand p2)))] H := hP
        have hD : va_D A [(qT, .inr (2, [.ref qp, .ref qc, .ref qd, .ref qk, .int hand, .int hov, .int said])), (qp, .inl (cI, 16, .inl (upd fp (Int32.toNatClampNeg hand) (p0 ||| (fc (Int32.toNatClampNeg hand)))))), (qc, .inl (cI, 16, .inl (upd fc (Int32.toNatClampNeg hand) p1))), (qd, .inl (cI, 16, .inl (upd fd (Int32.toNatClampNeg hand) ((fd (Int32.toNatClampNeg hand)) + 1)))), (qk, .inl (cZ, 16, .inl (j_X2_goOn_65_qk fk hand p2)))] := hD
        refine ctV_V (As := [.int (r_X2_greatestWoken (j_X2_goOn_65_qk fk hand p2))]) (rest := []) (wc := [(qT, .inr (2, [.ref qp, .ref qc, .ref qd, .ref qk, .int hand, .int hov, .int said])), (qp, .inl (cI, 16, .inl (upd fp (Int32.toNatClampNeg hand) (p0 ||| (fc (Int32.toNatClampNeg hand)))))), (qc, .inl (cI, 16, .inl (upd fc (Int32.toNatClampNeg hand) p1))), (qd, .inl (cI, 16, .inl (upd fd (Int32.toNatClampNeg hand) ((fd (Int32.toNatClampNeg hand)) + 1)))), (qk, .inl (cZ, 16, .inl (j_X2_goOn_65_qk fk hand p2)))]) (wr := []) ⟨hx, hb, hml, hown, hts⟩ (c_X2_giveTo l D cI cZ qT qp qc qd qk (upd fp (Int32.toNatClampNeg hand) (p0 ||| (fc (Int32.toNatClampNeg hand)))) (upd fc (Int32.toNatClampNeg hand) p1) (upd fd (Int32.toNatClampNeg hand) ((fd (Int32.toNatClampNeg hand)) + 1)) (j_X2_goOn_65_qk fk hand p2) hand hov said (r_X2_greatestWoken (j_X2_goOn_65_qk fk hand p2))) (cwV 1 hts (gd_V wm_X2_37 wi_X2_giveTo ws_X2_giveTo wz_X2 wo_X2_giveTo) rfl rfl rfl (by decide +kernel) ⟨Nat.le_of_ble_eq_true rfl, Nat.le_of_ble_eq_true rfl⟩) hK hP hD hS hA 0 rfl rfl rfl [0, 1, 2, 3, 4] [] rfl rfl (by decide) (by decide) (by decide) rfl rfl hl.1 (Nat.le_of_ble_eq_true rfl) dX2_goOn_77 ⟨Nat.le_of_ble_eq_true rfl, Nat.le_of_ble_eq_true rfl⟩ (fun u H locs hP hD hS => ?_)
        have hP : va_P D classes [(qT, .inr (2, [.ref qp, .ref qc, .ref qd, .ref qk, .int (z_X2_giveTo_qT4 hand (r_X2_greatestWoken (j_X2_goOn_65_qk fk hand p2))), .int (z_X2_giveTo_qT5 hand hov (r_X2_greatestWoken (j_X2_goOn_65_qk fk hand p2))), .int said])), (qp, .inl (cI, 16, .inl (upd fp (Int32.toNatClampNeg hand) (p0 ||| (fc (Int32.toNatClampNeg hand)))))), (qc, .inl (cI, 16, .inl (upd fc (Int32.toNatClampNeg hand) p1))), (qd, .inl (cI, 16, .inl (upd fd (Int32.toNatClampNeg hand) ((fd (Int32.toNatClampNeg hand)) + 1)))), (qk, .inl (cZ, 16, .inl (j_X2_goOn_65_qk fk hand p2)))] H := hP
        have hD : va_D A [(qT, .inr (2, [.ref qp, .ref qc, .ref qd, .ref qk, .int (z_X2_giveTo_qT4 hand (r_X2_greatestWoken (j_X2_goOn_65_qk fk hand p2))), .int (z_X2_giveTo_qT5 hand hov (r_X2_greatestWoken (j_X2_goOn_65_qk fk hand p2))), .int said])), (qp, .inl (cI, 16, .inl (upd fp (Int32.toNatClampNeg hand) (p0 ||| (fc (Int32.toNatClampNeg hand)))))), (qc, .inl (cI, 16, .inl (upd fc (Int32.toNatClampNeg hand) p1))), (qd, .inl (cI, 16, .inl (upd fd (Int32.toNatClampNeg hand) ((fd (Int32.toNatClampNeg hand)) + 1)))), (qk, .inl (cZ, 16, .inl (j_X2_goOn_65_qk fk hand p2)))] := hD
        have hP := hP.sub (ws' := [(qT, .inr (2, [.ref qp, .ref qc, .ref qd, .ref qk, .int (z_X2_giveTo_qT4 hand (r_X2_greatestWoken (j_X2_goOn_65_qk fk hand p2))), .int (z_X2_giveTo_qT5 hand hov (r_X2_greatestWoken (j_X2_goOn_65_qk fk hand p2))), .int said])), (qp, .inl (cI, 16, .inl (upd fp (Int32.toNatClampNeg hand) (p0 ||| (fc (Int32.toNatClampNeg hand)))))), (qc, .inl (cI, 16, .inl (upd fc (Int32.toNatClampNeg hand) p1))), (qd, .inl (cI, 16, .inl (upd fd (Int32.toNatClampNeg hand) ((fd (Int32.toNatClampNeg hand)) + 1)))), (qk, .inl (cZ, 16, .inl (j_X2_goOn_65_qk fk hand p2)))]) [0, 1, 2, 3, 4] rfl
        have hD := hD.sub (ws' := [(qT, .inr (2, [.ref qp, .ref qc, .ref qd, .ref qk, .int (z_X2_giveTo_qT4 hand (r_X2_greatestWoken (j_X2_goOn_65_qk fk hand p2))), .int (z_X2_giveTo_qT5 hand hov (r_X2_greatestWoken (j_X2_goOn_65_qk fk hand p2))), .int said])), (qp, .inl (cI, 16, .inl (upd fp (Int32.toNatClampNeg hand) (p0 ||| (fc (Int32.toNatClampNeg hand)))))), (qc, .inl (cI, 16, .inl (upd fc (Int32.toNatClampNeg hand) p1))), (qd, .inl (cI, 16, .inl (upd fd (Int32.toNatClampNeg hand) ((fd (Int32.toNatClampNeg hand)) + 1)))), (qk, .inl (cZ, 16, .inl (j_X2_goOn_65_qk fk hand p2)))]) [0, 1, 2, 3, 4] (by decide) rfl
        have e_1 : j_X2_goOn_80_qT4 fk hand said p2 = z_X2_giveTo_qT4 hand (r_X2_greatestWoken (j_X2_goOn_65_qk fk hand p2)) := by simp only [j_X2_goOn_80_qT4, if_neg c_2]
        have e_2 : j_X2_goOn_80_qT5 fk hand hov said p2 = z_X2_giveTo_qT5 hand hov (r_X2_greatestWoken (j_X2_goOn_65_qk fk hand p2)) := by simp only [j_X2_goOn_80_qT5, if_neg c_2]
        exact J _ _ _ ⟨(by rw [e_1, e_2]; exact hP), (by rw [e_1, e_2]; exact hD), hS, (lv_sub hl [0, 1, 2, 3] rfl)⟩
  · skip
    refine lv_icmp_ne (tgt := 65) hx hb dX2_goOn_45 (by decide) (fun c_3 => ?_) (fun c_3 => ?_)
    · skip
      have hP := hP.sub (ws' := [(qT, .inr (2, [.ref qp, .ref qc, .ref qd, .ref qk, .int hand, .int hov, .int said])), (qp, .inl (cI, 16, .inl (upd fp (Int32.toNatClampNeg hand) (p0 ||| (fc (Int32.toNatClampNeg hand)))))), (qc, .inl (cI, 16, .inl (upd fc (Int32.toNatClampNeg hand) p1))), (qd, .inl (cI, 16, .inl (upd fd (Int32.toNatClampNeg hand) ((fd (Int32.toNatClampNeg hand)) + 1)))), (qk, .inl (cZ, 16, .inl fk))]) [0, 1, 2, 3, 4] rfl
      have hD := hD.sub (ws' := [(qT, .inr (2, [.ref qp, .ref qc, .ref qd, .ref qk, .int hand, .int hov, .int said])), (qp, .inl (cI, 16, .inl (upd fp (Int32.toNatClampNeg hand) (p0 ||| (fc (Int32.toNatClampNeg hand)))))), (qc, .inl (cI, 16, .inl (upd fc (Int32.toNatClampNeg hand) p1))), (qd, .inl (cI, 16, .inl (upd fd (Int32.toNatClampNeg hand) ((fd (Int32.toNatClampNeg hand)) + 1)))), (qk, .inl (cZ, 16, .inl fk))]) [0, 1, 2, 3, 4] (by decide) rfl
      have e_1 : j_X2_goOn_65_qk fk hand p2 = fk := by simp only [j_X2_goOn_65_qk, if_neg c_3]
      exact J _ _ _ ⟨(by rw [e_1]; exact hP), (by rw [e_1]; exact hD), hS, (lv_sub hl [0, 1, 2, 3] rfl)⟩
    · skip
      refine lv_aload_n hx hb dX2_goOn_48 rfl (lv_at hl 0 rfl) ?_
      refine va_get (D := D) (ci := 2) (v := .int hand) (C := RX2) (T := TX2) (N := 7) hx hb hts ilX2 hown hK hP 0 rfl rfl 4 (by decide) (hts _ wf_X2_25) (fun _ h9 => h9) rfl dX2_goOn_49 ?_
      refine lv_if_eq (tgt := 65) hx hb dX2_goOn_52 (by decide) (fun c_4 => ?_) (fun c_4 => ?_)
      · skip
        have hP := hP.sub (ws' := [(qT, .inr (2, [.ref qp, .ref qc, .ref qd, .ref qk, .int hand, .int hov, .int said])), (qp, .inl (cI, 16, .inl (upd fp (Int32.toNatClampNeg hand) (p0 ||| (fc (Int32.toNatClampNeg hand)))))), (qc, .inl (cI, 16, .inl (upd fc (Int32.toNatClampNeg hand) p1))), (qd, .inl (cI, 16, .inl (upd fd (Int32.toNatClampNeg hand) ((fd (Int32.toNatClampNeg hand)) + 1)))), (qk, .inl (cZ, 16, .inl fk))]) [0, 1, 2, 3, 4] rfl
        have hD := hD.sub (ws' := [(qT, .inr (2, [.ref qp, .ref qc, .ref qd, .ref qk, .int hand, .int hov, .int said])), (qp, .inl (cI, 16, .inl (upd fp (Int32.toNatClampNeg hand) (p0 ||| (fc (Int32.toNatClampNeg hand)))))), (qc, .inl (cI, 16, .inl (upd fc (Int32.toNatClampNeg hand) p1))), (qd, .inl (cI, 16, .inl (upd fd (Int32.toNatClampNeg hand) ((fd (Int32.toNatClampNeg hand)) + 1)))), (qk, .inl (cZ, 16, .inl fk))]) [0, 1, 2, 3, 4] (by decide) rfl
        have e_1 : j_X2_goOn_65_qk fk hand p2 = fk := by simp only [j_X2_goOn_65_qk, if_pos c_3, if_pos c_4]
        exact J _ _ _ ⟨(by rw [e_1]; exact hP), (by rw [e_1]; exact hD), hS, (lv_sub hl [0, 1, 2, 3] rfl)⟩
      · skip
        refine lv_aload_n hx hb dX2_goOn_55 rfl (lv_at hl 0 rfl) ?_
        refine va_get (D := D) (ci := 2) (v := .ref qk) (C := RX2) (T := TX2) (N := 7) hx hb hts ilX2 hown hK hP 0 rfl rfl 3 (by decide) (hts _ wf_X2_21) (fun _ h9 => h9) rfl dX2_goOn_56 ?_
        refine lv_aload_n hx hb dX2_goOn_59 rfl (lv_at hl 0 rfl) ?_
        refine va_get (D := D) (ci := 2) (v := .int hand) (C := RX2) (T := TX2) (N := 7) hx hb hts ilX2 hown hK hP 0 rfl rfl 4 (by decide) (hts _ wf_X2_25) (fun _ h9 => h9) rfl dX2_goOn_60 ?_
        refine lv_iconst (v := 0) hx hb dX2_goOn_63 (by decide) ?_
        refine va_zast hx hb hK hP hD hS 4 1 rfl rfl hh dX2_goOn_64 (fun H locs hP hD hS => ?_)
        have hP : va_P D classes [(qT, .inr (2, [.ref qp, .ref qc, .ref qd, .ref qk, .int hand, .int hov, .int said])), (qp, .inl (cI, 16, .inl (upd fp (Int32.toNatClampNeg hand) (p0 ||| (fc (Int32.toNatClampNeg hand)))))), (qc, .inl (cI, 16, .inl (upd fc (Int32.toNatClampNeg hand) p1))), (qd, .inl (cI, 16, .inl (upd fd (Int32.toNatClampNeg hand) ((fd (Int32.toNatClampNeg hand)) + 1)))), (qk, .inl (cZ, 16, .inl (upd fk (Int32.toNatClampNeg hand) 0)))] H := hP
        have hD : va_D A [(qT, .inr (2, [.ref qp, .ref qc, .ref qd, .ref qk, .int hand, .int hov, .int said])), (qp, .inl (cI, 16, .inl (upd fp (Int32.toNatClampNeg hand) (p0 ||| (fc (Int32.toNatClampNeg hand)))))), (qc, .inl (cI, 16, .inl (upd fc (Int32.toNatClampNeg hand) p1))), (qd, .inl (cI, 16, .inl (upd fd (Int32.toNatClampNeg hand) ((fd (Int32.toNatClampNeg hand)) + 1)))), (qk, .inl (cZ, 16, .inl (upd fk (Int32.toNatClampNeg hand) 0)))] := hD
        have hP := hP.sub (ws' := [(qT, .inr (2, [.ref qp, .ref qc, .ref qd, .ref qk, .int hand, .int hov, .int said])), (qp, .inl (cI, 16, .inl (upd fp (Int32.toNatClampNeg hand) (p0 ||| (fc (Int32.toNatClampNeg hand)))))), (qc, .inl (cI, 16, .inl (upd fc (Int32.toNatClampNeg hand) p1))), (qd, .inl (cI, 16, .inl (upd fd (Int32.toNatClampNeg hand) ((fd (Int32.toNatClampNeg hand)) + 1)))), (qk, .inl (cZ, 16, .inl (upd fk (Int32.toNatClampNeg hand) 0)))]) [0, 1, 2, 3, 4] rfl
        have hD := hD.sub (ws' := [(qT, .inr (2, [.ref qp, .ref qc, .ref qd, .ref qk, .int hand, .int hov, .int said])), (qp, .inl (cI, 16, .inl (upd fp (Int32.toNatClampNeg hand) (p0 ||| (fc (Int32.toNatClampNeg hand)))))), (qc, .inl (cI, 16, .inl (upd fc (Int32.toNatClampNeg hand) p1))), (qd, .inl (cI, 16, .inl (upd fd (Int32.toNatClampNeg hand) ((fd (Int32.toNatClampNeg hand)) + 1)))), (qk, .inl (cZ, 16, .inl (upd fk (Int32.toNatClampNeg hand) 0)))]) [0, 1, 2, 3, 4] (by decide) rfl
        have e_1 : j_X2_goOn_65_qk fk hand p2 = upd fk (Int32.toNatClampNeg hand) 0 := by simp only [j_X2_goOn_65_qk, if_pos c_3, if_neg c_4]
        exact J _ _ _ ⟨(by rw [e_1]; exact hP), (by rw [e_1]; exact hD), hS, (lv_sub hl [0, 1, 2, 3] rfl)⟩
end
end
section
section
set_option maxHeartbeats 4000000 in
set_option maxRecDepth 100000 in
theorem c_X3_init (l : Launch) (D : va_G) (cI cZ : ClassId) (qx : Nat) (rT : Int32) (rL : Int32) (rC : Int32) (rIn : Int32) (cyc : Int32) (wai : Int32) : CtV l D classes [(cI, .int), (cZ, .boolean)] yX3_init w_X3_init { frames := 2, cells := 12, slots := 2913, locals := 32 } [.ref qx] [(qx, .inr (3, [.null, .null, .null, .null, .null, .null, .int rT, .int rL, .int rC, .int rIn, .int cyc, .int wai]))] (fun (u : Nat × Nat × Nat × Nat × Nat × Nat × Nat × Nat × Nat × Nat × Nat × Nat) => match u with | (qR, qC, qI, qM, qW, qT, qp, qc, qd, qk, qO, qo) => [(qx, .inr (3, [.ref qR, .ref qC, .ref qI, .ref qM, .ref qT, .ref qO, .int rT, .int rL, .int rC, .int rIn, .int cyc, .int wai])), (qR, .inl (cI, 32, .inl (fun _ => 0))), (qC, .inl (cI, 256, .inl (fun _ => 0))), (qI, .inl (cI, 1024, .inl (fun _ => 0))), (qM, .inr (0, [.ref qW, .int 0, .int 5])), (qW, .inl (cI, 1024, .inl (fun _ => 0))), (qT, .inr (2, [.ref qp, .ref qc, .ref qd, .ref qk, .int 0, .int 0, .int 0])), (qp, .inl (cI, 16, .inl (fun _ => 0))), (qc, .inl (cI, 16, .inl (fun _ => 0))), (qd, .inl (cI, 16, .inl (fun _ => 0))), (qk, .inl (cZ, 16, .inl (upd (fun _ => 0) (Int32.toNatClampNeg 0) 1))), (qO, .inr (1, [.ref qo, .int 0, .int 0])), (qo, .inl (cI, 500, .inl (fun _ => 0)))]) 12 2913 := by
  refine CtV.mk (cc := cX3_init) (maxL := 1) (ret := none) (by decide) rfl (Nat.le_of_ble_eq_true rfl) ?_
  intro p e s m below meth c A hBeg ls hl
  obtain ⟨hx, hb, hr, hml, hts0, hown, hlocks, hin, hA, hK, hP, hD, hS⟩ := hBeg
  have hts := fun w h => hts0 w (List.mem_cons_of_mem _ h)
  have hown : s.vm.findClass RX3 = some m.cls := hown
  have hl : lv_has ls 1 [(0, .ref qx)] := hl
  skip
  refine lv_aload_n hx hb dX3_init_0 rfl (lv_at hl 0 rfl) ?_
  refine W.objInit hx hb hown (hts _ wm_X3_3) (hts _ wi_obj) (hts _ wo_obj) rfl (by rw [hml]; exact hl.1) rfl dX3_init_1 (Nat.le_of_ble_eq_true rfl) (Nat.le_of_ble_eq_true rfl) ?_
  refine W.eq (g2 := F0 m 4 ls []) rfl ?_
  refine lv_aload_n hx hb dX3_init_4 rfl (lv_at hl 0 rfl) ?_
  refine lv_bipush (v := 32) hx hb dX3_init_5 (by decide) ?_
  refine va_newa (atype := .int) (ty := .int) (N' := 32) (a0 := (32, .inl (fun _ => 0))) hx hb (hts _ wa_int) rfl hK hP hD hS hA (fun _ => rfl) (by decide) (by decide) (by decide) (Nat.le_of_ble_eq_true rfl) (Nat.le_of_ble_eq_true rfl) dX3_init_7 (fun q1 cA1 H hK1 hP hD hS => ?_)
  have hcA : cI = cA1 := Option.some.inj ((va_nm_int (hK.2 0 (cI, .int) rfl).2).symm.trans (va_nm_int (hK1.2 2 (cA1, .int) rfl).2))
  subst hcA
  clear hK1
  have hP : va_P D classes [(qx, .inr (3, [.null, .null, .null, .null, .null, .null, .int rT, .int rL, .int rC, .int rIn, .int cyc, .int wai])), (q1, .inl (cI, 32, .inl (fun _ => 0)))] H := hP
  have hD : va_D A [(qx, .inr (3, [.null, .null, .null, .null, .null, .null, .int rT, .int rL, .int rC, .int rIn, .int cyc, .int wai])), (q1, .inl (cI, 32, .inl (fun _ => 0)))] := hD
  refine W.widen (k := 1) (n := 32) (by omega) (by omega) ?_
  refine va_putF (D := D) (ci := 3) (v := .ref q1) (ty := (.array .int)) (C := RX3) (T := TX3) (N := 12) hx hb hts ilX3 tyX3 tyX3_ok nmX3 hown hK hP hD hS 0 rfl rfl 0 (by decide) (hts _ wf_X3_9) (fun _ h9 => h9) rfl hin rfl (by decide +kernel) rfl rfl (Nat.le_of_ble_eq_true rfl) dX3_init_9 (fun H locs hP hD hS => ?_)
  have hP : va_P D classes [(qx, .inr (3, [.ref q1, .null, .null, .null, .null, .null, .int rT, .int rL, .int rC, .int rIn, .int cyc, .int wai])), (q1, .inl (cI, 32, .inl (fun _ => 0)))] H := hP
  have hD : va_D A [(qx, .inr (3, [.ref q1, .null, .null, .null, .null, .null, .int rT, .int rL, .int rC, .int rIn, .int cyc, .int wai])), (q1, .inl (cI, 32, .inl (fun _ => 0)))] := hD
  refine lv_aload_n hx hb dX3_init_12 rfl (lv_at hl 0 rfl) ?_
  refine lv_sipush (v := 256) hx hb dX3_init_13 (by decide) ?_
  refine va_newa (atype := .int) (ty := .int) (N' := 256) (a0 := (256, .inl (fun _ => 0))) hx hb (hts _ wa_int) rfl hK hP hD hS hA (fun _ => rfl) (by decide) (by decide) (by decide) (Nat.le_of_ble_eq_true rfl) (Nat.le_of_ble_eq_true rfl) dX3_init_16 (fun q2 cA2 H hK1 hP hD hS => ?_)
  have hcA : cI = cA2 := Option.some.inj ((va_nm_int (hK.2 0 (cI, .int) rfl).2).symm.trans (va_nm_int (hK1.2 2 (cA2, .int) rfl).2))
  subst hcA
  clear hK1
  have hP : va_P D classes [(qx, .inr (3, [.ref q1, .null, .null, .null, .null, .null, .int rT, .int rL, .int rC, .int rIn, .int cyc, .int wai])), (q1, .inl (cI, 32, .inl (fun _ => 0))), (q2, .inl (cI, 256, .inl (fun _ => 0)))] H := hP
  have hD : va_D A [(qx, .inr (3, [.ref q1, .null, .null, .null, .null, .null, .int rT, .int rL, .int rC, .int rIn, .int cyc, .int wai])), (q1, .inl (cI, 32, .inl (fun _ => 0))), (q2, .inl (cI, 256, .inl (fun _ => 0)))] := hD
  refine W.widen (k := 2) (n := 288) (by omega) (by omega) ?_
  refine va_putF (D := D) (ci := 3) (v := .ref q2) (ty := (.array .int)) (C := RX3) (T := TX3) (N := 12) hx hb hts ilX3 tyX3 tyX3_ok nmX3 hown hK hP hD hS 0 rfl rfl 1 (by decide) (hts _ wf_X3_13) (fun _ h9 => h9) rfl hin rfl (by decide +kernel) rfl rfl (Nat.le_of_ble_eq_true rfl) dX3_init_18 (fun H locs hP hD hS => ?_)
  have hP : va_P D classes [(qx, .inr (3, [.ref q1, .ref q2, .null, .null, .null, .null, .int rT, .int rL, .int rC, .int rIn, .int cyc, .int wai])), (q1, .inl (cI, 32, .inl (fun _ => 0))), (q2, .inl (cI, 256, .inl (fun _ => 0)))] H := hP
  have hD : va_D A [(qx, .inr (3, [.ref q1, .ref q2, .null, .null, .null, .null, .int rT, .int rL, .int rC, .int rIn, .int cyc, .int wai])), (q1, .inl (cI, 32, .inl (fun _ => 0))), (q2, .inl (cI, 256, .inl (fun _ => 0)))] := hD
  refine lv_aload_n hx hb dX3_init_21 rfl (lv_at hl 0 rfl) ?_
  refine lv_sipush (v := 1024) hx hb dX3_init_22 (by decide) ?_
  refine va_newa (atype := .int) (ty := .int) (N' := 1024) (a0 := (1024, .inl (fun _ => 0))) hx hb (hts _ wa_int) rfl hK hP hD hS hA (fun _ => rfl) (by decide) (by decide) (by decide) (Nat.le_of_ble_eq_true rfl) (Nat.le_of_ble_eq_true rfl) dX3_init_25 (fun q3 cA3 H hK1 hP hD hS => ?_)
  have hcA : cI = cA3 := Option.some.inj ((va_nm_int (hK.2 0 (cI, .int) rfl).2).symm.trans (va_nm_int (hK1.2 2 (cA3, .int) rfl).2))
  subst hcA
  clear hK1
  have hP : va_P D classes [(qx, .inr (3, [.ref q1, .ref q2, .null, .null, .null, .null, .int rT, .int rL, .int rC, .int rIn, .int cyc, .int wai])), (q1, .inl (cI, 32, .inl (fun _ => 0))), (q2, .inl (cI, 256, .inl (fun _ => 0))), (q3, .inl (cI, 1024, .inl (fun _ => 0)))] H := hP
  have hD : va_D A [(qx, .inr (3, [.ref q1, .ref q2, .null, .null, .null, .null, .int rT, .int rL, .int rC, .int rIn, .int cyc, .int wai])), (q1, .inl (cI, 32, .inl (fun _ => 0))), (q2, .inl (cI, 256, .inl (fun _ => 0))), (q3, .inl (cI, 1024, .inl (fun _ => 0)))] := hD
  refine W.widen (k := 3) (n := 1312) (by omega) (by omega) ?_
  refine va_putF (D := D) (ci := 3) (v := .ref q3) (ty := (.array .int)) (C := RX3) (T := TX3) (N := 12) hx hb hts ilX3 tyX3 tyX3_ok nmX3 hown hK hP hD hS 0 rfl rfl 2 (by decide) (hts _ wf_X3_16) (fun _ h9 => h9) rfl hin rfl (by decide +kernel) rfl rfl (Nat.le_of_ble_eq_true rfl) dX3_init_27 (fun H locs hP hD hS => ?_)
  have hP : va_P D classes [(qx, .inr (3, [.ref q1, .ref q2, .ref q3, .null, .null, .null, .int rT, .int rL, .int rC, .int rIn, .int cyc, .int wai])), (q1, .inl (cI, 32, .inl (fun _ => 0))), (q2, .inl (cI, 256, .inl (fun _ => 0))), (q3, .inl (cI, 1024, .inl (fun _ => 0)))] H := hP
  have hD : va_D A [(qx, .inr (3, [.ref q1, .ref q2, .ref q3, .null, .null, .null, .int rT, .int rL, .int rC, .int rIn, .int cyc, .int wai])), (q1, .inl (cI, 32, .inl (fun _ => 0))), (q2, .inl (cI, 256, .inl (fun _ => 0))), (q3, .inl (cI, 1024, .inl (fun _ => 0)))] := hD
  refine lv_aload_n hx hb dX3_init_30 rfl (lv_at hl 0 rfl) ?_
  refine va_new (ci := 0) (fs := [.null, .int 0, .int 0]) (C := RX0) (T := TX0) (N := 3) hx hb hts ilX0 tyX0 tyX0_ok hown (hts _ wc_X3_19) (hts _ wn_X0) (hts _ wz_X0) hK hP hD hS hA rfl (fun j hj => by rcases (show j = 0 ∨ j = 1 ∨ j = 2 by omega) with rfl | rfl | rfl <;> rfl) (Nat.le_of_ble_eq_true rfl) (Nat.le_of_ble_eq_true rfl) dX3_init_31 (fun q4 H hP hD hS => ?_)
  have hP : va_P D classes [(qx, .inr (3, [.ref q1, .ref q2, .ref q3, .null, .null, .null, .int rT, .int rL, .int rC, .int rIn, .int cyc, .int wai])), (q1, .inl (cI, 32, .inl (fun _ => 0))), (q2, .inl (cI, 256, .inl (fun _ => 0))), (q3, .inl (cI, 1024, .inl (fun _ => 0))), (q4, .inr (0, [.null, .int 0, .int 0]))] H := hP
  have hD : va_D A [(qx, .inr (3, [.ref q1, .ref q2, .ref q3, .null, .null, .null, .int rT, .int rL, .int rC, .int rIn, .int cyc, .int wai])), (q1, .inl (cI, 32, .inl (fun _ => 0))), (q2, .inl (cI, 256, .inl (fun _ => 0))), (q3, .inl (cI, 1024, .inl (fun _ => 0))), (q4, .inr (0, [.null, .int 0, .int 0]))] := hD
  refine W.widen (k := 4) (n := 1315) (by omega) (by omega) ?_
  refine lv_dup hx hb dX3_init_34 rfl ?_
  refine ctV_I (As := []) (rest := [.ref q4, .ref qx]) (wc := [(q4, .inr (0, [.null, .int 0, .int 0]))]) (wr := [(qx, .inr (3, [.ref q1, .ref q2, .ref q3, .null, .null, .null, .int rT, .int rL, .int rC, .int rIn, .int cyc, .int wai])), (q1, .inl (cI, 32, .inl (fun _ => 0))), (q2, .inl (cI, 256, .inl (fun _ => 0))), (q3, .inl (cI, 1024, .inl (fun _ => 0)))]) ⟨hx, hb, hml, hown, hts⟩ (c_X0_init l D cI cZ q4 0 0) (cwI 0 hts (gd_C wo_X0_init) rfl rfl rfl (hts _ wz_X0) (hts _ wm_X3_21) (hts _ wi_X0_init) rfl (by decide +kernel) ⟨Nat.le_of_ble_eq_true rfl, Nat.le_of_ble_eq_true rfl⟩) hK hP hD hS hA [4] [0, 1, 2, 3] rfl rfl (by decide) (by decide) (by decide) rfl rfl hl.1 (Nat.le_of_ble_eq_true rfl) dX3_init_35 ⟨Nat.le_of_ble_eq_true rfl, Nat.le_of_ble_eq_true rfl⟩ (fun u H locs hP hD hS => ?_)
  obtain ⟨q5, rfl⟩ : ∃ z, z = u := ⟨_, rfl⟩
  have hP : va_P D classes [(qx, .inr (3, [.ref q1, .ref q2, .ref q3, .null, .null, .null, .int rT, .int rL, .int rC, .int rIn, .int cyc, .int wai])), (q1, .inl (cI, 32, .inl (fun _ => 0))), (q2, .inl (cI, 256, .inl (fun _ => 0))), (q3, .inl (cI, 1024, .inl (fun _ => 0))), (q4, .inr (0, [.ref q5, .int 0, .int 5])), (q5, .inl (cI, 1024, .inl (fun _ => 0)))] H := hP
  have hD : va_D A [(qx, .inr (3, [.ref q1, .ref q2, .ref q3, .null, .null, .null, .int rT, .int rL, .int rC, .int rIn, .int cyc, .int wai])), (q1, .inl (cI, 32, .inl (fun _ => 0))), (q2, .inl (cI, 256, .inl (fun _ => 0))), (q3, .inl (cI, 1024, .inl (fun _ => 0))), (q4, .inr (0, [.ref q5, .int 0, .int 5])), (q5, .inl (cI, 1024, .inl (fun _ => 0)))] := hD
  refine W.widen (k := 5) (n := 2339) (by omega) (by omega) ?_
  refine va_putF (D := D) (ci := 3) (v := .ref q4) (ty := (.object "MicroTasks$Memory")) (C := RX3) (T := TX3) (N := 12) hx hb hts ilX3 tyX3 tyX3_ok nmX3 hown hK hP hD hS 0 rfl rfl 3 (by decide) (hts _ wf_X3_22) (fun _ h9 => h9) rfl hin rfl (by decide +kernel) rfl rfl (Nat.le_of_ble_eq_true rfl) dX3_init_38 (fun H locs hP hD hS => ?_)
  have hP : va_P D classes [(qx, .inr (3, [.ref q1, .ref q2, .ref q3, .ref q4, .null, .null, .int rT, .int rL, .int rC, .int rIn, .int cyc, .int wai])), (q1, .inl (cI, 32, .inl (fun _ => 0))), (q2, .inl (cI, 256, .inl (fun _ => 0))), (q3, .inl (cI, 1024, .inl (fun _ => 0))), (q4, .inr (0, [.ref q5, .int 0, .int 5])), (q5, .inl (cI, 1024, .inl (fun _ => 0)))] H := hP
  have hD : va_D A [(qx, .inr (3, [.ref q1, .ref q2, .ref q3, .ref q4, .null, .null, .int rT, .int rL, .int rC, .int rIn, .int cyc, .int wai])), (q1, .inl (cI, 32, .inl (fun _ => 0))), (q2, .inl (cI, 256, .inl (fun _ => 0))), (q3, .inl (cI, 1024, .inl (fun _ => 0))), (q4, .inr (0, [.ref q5, .int 0, .int 5])), (q5, .inl (cI, 1024, .inl (fun _ => 0)))] := hD
  refine lv_aload_n hx hb dX3_init_41 rfl (lv_at hl 0 rfl) ?_
  refine va_new (ci := 2) (fs := [.null, .null, .null, .null, .int 0, .int 0, .int 0]) (C := RX2) (T := TX2) (N := 7) hx hb hts ilX2 tyX2 tyX2_ok hown (hts _ wc_X3_26) (hts _ wn_X2) (hts _ wz_X2) hK hP hD hS hA rfl (fun j hj => by rcases (show j = 0 ∨ j = 1 ∨ j = 2 ∨ j = 3 ∨ j = 4 ∨ j = 5 ∨ j = 6 by omega) with rfl | rfl | rfl | rfl | rfl | rfl | rfl <;> rfl) (Nat.le_of_ble_eq_true rfl) (Nat.le_of_ble_eq_true rfl) dX3_init_42 (fun q6 H hP hD hS => ?_)
  have hP : va_P D classes [(qx, .inr (3, [.ref q1, .ref q2, .ref q3, .ref q4, .null, .null, .int rT, .int rL, .int rC, .int rIn, .int cyc, .int wai])), (q1, .inl (cI, 32, .inl (fun _ => 0))), (q2, .inl (cI, 256, .inl (fun _ => 0))), (q3, .inl (cI, 1024, .inl (fun _ => 0))), (q4, .inr (0, [.ref q5, .int 0, .int 5])), (q5, .inl (cI, 1024, .inl (fun _ => 0))), (q6, .inr (2, [.null, .null, .null, .null, .int 0, .int 0, .int 0]))] H := hP
  have hD : va_D A [(qx, .inr (3, [.ref q1, .ref q2, .ref q3, .ref q4, .null, .null, .int rT, .int rL, .int rC, .int rIn, .int cyc, .int wai])), (q1, .inl (cI, 32, .inl (fun _ => 0))), (q2, .inl (cI, 256, .inl (fun _ => 0))), (q3, .inl (cI, 1024, .inl (fun _ => 0))), (q4, .inr (0, [.ref q5, .int 0, .int 5])), (q5, .inl (cI, 1024, .inl (fun _ => 0))), (q6, .inr (2, [.null, .null, .null, .null, .int 0, .int 0, .int 0]))] := hD
  refine W.widen (k := 6) (n := 2346) (by omega) (by omega) ?_
  refine lv_dup hx hb dX3_init_45 rfl ?_
  refine ctV_I (As := []) (rest := [.ref q6, .ref qx]) (wc := [(q6, .inr (2, [.null, .null, .null, .null, .int 0, .int 0, .int 0]))]) (wr := [(qx, .inr (3, [.ref q1, .ref q2, .ref q3, .ref q4, .null, .null, .int rT, .int rL, .int rC, .int rIn, .int cyc, .int wai])), (q1, .inl (cI, 32, .inl (fun _ => 0))), (q2, .inl (cI, 256, .inl (fun _ => 0))), (q3, .inl (cI, 1024, .inl (fun _ => 0))), (q4, .inr (0, [.ref q5, .int 0, .int 5])), (q5, .inl (cI, 1024, .inl (fun _ => 0)))]) ⟨hx, hb, hml, hown, hts⟩ (c_X2_init l D cI cZ q6 0 0 0) (cwI 0 hts (gd_C wo_X2_init) rfl rfl rfl (hts _ wz_X2) (hts _ wm_X3_28) (hts _ wi_X2_init) rfl (by decide +kernel) ⟨Nat.le_of_ble_eq_true rfl, Nat.le_of_ble_eq_true rfl⟩) hK hP hD hS hA [6] [0, 1, 2, 3, 4, 5] rfl rfl (by decide) (by decide) (by decide) rfl rfl hl.1 (Nat.le_of_ble_eq_true rfl) dX3_init_46 ⟨Nat.le_of_ble_eq_true rfl, Nat.le_of_ble_eq_true rfl⟩ (fun u H locs hP hD hS => ?_)
  obtain ⟨q7, q8, q9, q10⟩ := u
  have hP : va_P D classes [(qx, .inr (3, [.ref q1, .ref q2, .ref q3, .ref q4, .null, .null, .int rT, .int rL, .int rC, .int rIn, .int cyc, .int wai])), (q1, .inl (cI, 32, .inl (fun _ => 0))), (q2, .inl (cI, 256, .inl (fun _ => 0))), (q3, .inl (cI, 1024, .inl (fun _ => 0))), (q4, .inr (0, [.ref q5, .int 0, .int 5])), (q5, .inl (cI, 1024, .inl (fun _ => 0))), (q6, .inr (2, [.ref q7, .ref q8, .ref q9, .ref q10, .int 0, .int 0, .int 0])), (q7, .inl (cI, 16, .inl (fun _ => 0))), (q8, .inl (cI, 16, .inl (fun _ => 0))), (q9, .inl (cI, 16, .inl (fun _ => 0))), (q10, .inl (cZ, 16, .inl (upd (fun _ => 0) (Int32.toNatClampNeg 0) 1)))] H := hP
  have hD : va_D A [(qx, .inr (3, [.ref q1, .ref q2, .ref q3, .ref q4, .null, .null, .int rT, .int rL, .int rC, .int rIn, .int cyc, .int wai])), (q1, .inl (cI, 32, .inl (fun _ => 0))), (q2, .inl (cI, 256, .inl (fun _ => 0))), (q3, .inl (cI, 1024, .inl (fun _ => 0))), (q4, .inr (0, [.ref q5, .int 0, .int 5])), (q5, .inl (cI, 1024, .inl (fun _ => 0))), (q6, .inr (2, [.ref q7, .ref q8, .ref q9, .ref q10, .int 0, .int 0, .int 0])), (q7, .inl (cI, 16, .inl (fun _ => 0))), (q8, .inl (cI, 16, .inl (fun _ => 0))), (q9, .inl (cI, 16, .inl (fun _ => 0))), (q10, .inl (cZ, 16, .inl (upd (fun _ => 0) (Int32.toNatClampNeg 0) 1)))] := hD
  refine W.widen (k := 10) (n := 2410) (by omega) (by omega) ?_
  refine va_putF (D := D) (ci := 3) (v := .ref q6) (ty := (.object "MicroTasks$Tasks")) (C := RX3) (T := TX3) (N := 12) hx hb hts ilX3 tyX3 tyX3_ok nmX3 hown hK hP hD hS 0 rfl rfl 4 (by decide) (hts _ wf_X3_29) (fun _ h9 => h9) rfl hin rfl (by decide +kernel) rfl rfl (Nat.le_of_ble_eq_true rfl) dX3_init_49 (fun H locs hP hD hS => ?_)
  have hP : va_P D classes [(qx, .inr (3, [.ref q1, .ref q2, .ref q3, .ref q4, .ref q6, .null, .int rT, .int rL, .int rC, .int rIn, .int cyc, .int wai])), (q1, .inl (cI, 32, .inl (fun _ => 0))), (q2, .inl (cI, 256, .inl (fun _ => 0))), (q3, .inl (cI, 1024, .inl (fun _ => 0))), (q4, .inr (0, [.ref q5, .int 0, .int 5])), (q5, .inl (cI, 1024, .inl (fun _ => 0))), (q6, .inr (2, [.ref q7, .ref q8, .ref q9, .ref q10, .int 0, .int 0, .int 0])), (q7, .inl (cI, 16, .inl (fun _ => 0))), (q8, .inl (cI, 16, .inl (fun _ => 0))), (q9, .inl (cI, 16, .inl (fun _ => 0))), (q10, .inl (cZ, 16, .inl (upd (fun _ => 0) (Int32.toNatClampNeg 0) 1)))] H := hP
  have hD : va_D A [(qx, .inr (3, [.ref q1, .ref q2, .ref q3, .ref q4, .ref q6, .null, .int rT, .int rL, .int rC, .int rIn, .int cyc, .int wai])), (q1, .inl (cI, 32, .inl (fun _ => 0))), (q2, .inl (cI, 256, .inl (fun _ => 0))), (q3, .inl (cI, 1024, .inl (fun _ => 0))), (q4, .inr (0, [.ref q5, .int 0, .int 5])), (q5, .inl (cI, 1024, .inl (fun _ => 0))), (q6, .inr (2, [.ref q7, .ref q8, .ref q9, .ref q10, .int 0, .int 0, .int 0])), (q7, .inl (cI, 16, .inl (fun _ => 0))), (q8, .inl (cI, 16, .inl (fun _ => 0))), (q9, .inl (cI, 16, .inl (fun _ => 0))), (q10, .inl (cZ, 16, .inl (upd (fun _ => 0) (Int32.toNatClampNeg 0) 1)))] := hD
  refine lv_aload_n hx hb dX3_init_52 rfl (lv_at hl 0 rfl) ?_
  refine va_new (ci := 1) (fs := [.null, .int 0, .int 0]) (C := RX1) (T := TX1) (N := 3) hx hb hts ilX1 tyX1 tyX1_ok hown (hts _ wc_X3_33) (hts _ wn_X1) (hts _ wz_X1) hK hP hD hS hA rfl (fun j hj => by rcases (show j = 0 ∨ j = 1 ∨ j = 2 by omega) with rfl | rfl | rfl <;> rfl) (Nat.le_of_ble_eq_true rfl) (Nat.le_of_ble_eq_true rfl) dX3_init_53 (fun q11 H hP hD hS => ?_)
  have hP : va_P D classes [(qx, .inr (3, [.ref q1, .ref q2, .ref q3, .ref q4, .ref q6, .null, .int rT, .int rL, .int rC, .int rIn, .int cyc, .int wai])), (q1, .inl (cI, 32, .inl (fun _ => 0))), (q2, .inl (cI, 256, .inl (fun _ => 0))), (q3, .inl (cI, 1024, .inl (fun _ => 0))), (q4, .inr (0, [.ref q5, .int 0, .int 5])), (q5, .inl (cI, 1024, .inl (fun _ => 0))), (q6, .inr (2, [.ref q7, .ref q8, .ref q9, .ref q10, .int 0, .int 0, .int 0])), (q7, .inl (cI, 16, .inl (fun _ => 0))), (q8, .inl (cI, 16, .inl (fun _ => 0))), (q9, .inl (cI, 16, .inl (fun _ => 0))), (q10, .inl (cZ, 16, .inl (upd (fun _ => 0) (Int32.toNatClampNeg 0) 1))), (q11, .inr (1, [.null, .int 0, .int 0]))] H := hP
  have hD : va_D A [(qx, .inr (3, [.ref q1, .ref q2, .ref q3, .ref q4, .ref q6, .null, .int rT, .int rL, .int rC, .int rIn, .int cyc, .int wai])), (q1, .inl (cI, 32, .inl (fun _ => 0))), (q2, .inl (cI, 256, .inl (fun _ => 0))), (q3, .inl (cI, 1024, .inl (fun _ => 0))), (q4, .inr (0, [.ref q5, .int 0, .int 5])), (q5, .inl (cI, 1024, .inl (fun _ => 0))), (q6, .inr (2, [.ref q7, .ref q8, .ref q9, .ref q10, .int 0, .int 0, .int 0])), (q7, .inl (cI, 16, .inl (fun _ => 0))), (q8, .inl (cI, 16, .inl (fun _ => 0))), (q9, .inl (cI, 16, .inl (fun _ => 0))), (q10, .inl (cZ, 16, .inl (upd (fun _ => 0) (Int32.toNatClampNeg 0) 1))), (q11, .inr (1, [.null, .int 0, .int 0]))] := hD
  refine W.widen (k := 11) (n := 2413) (by omega) (by omega) ?_
  refine lv_dup hx hb dX3_init_56 rfl ?_
  refine ctV_I (As := []) (rest := [.ref q11, .ref qx]) (wc := [(q11, .inr (1, [.null, .int 0, .int 0]))]) (wr := [(qx, .inr (3, [.ref q1, .ref q2, .ref q3, .ref q4, .ref q6, .null, .int rT, .int rL, .int rC, .int rIn, .int cyc, .int wai])), (q1, .inl (cI, 32, .inl (fun _ => 0))), (q2, .inl (cI, 256, .inl (fun _ => 0))), (q3, .inl (cI, 1024, .inl (fun _ => 0))), (q4, .inr (0, [.ref q5, .int 0, .int 5])), (q5, .inl (cI, 1024, .inl (fun _ => 0))), (q6, .inr (2, [.ref q7, .ref q8, .ref q9, .ref q10, .int 0, .int 0, .int 0])), (q7, .inl (cI, 16, .inl (fun _ => 0))), (q8, .inl (cI, 16, .inl (fun _ => 0))), (q9, .inl (cI, 16, .inl (fun _ => 0))), (q10, .inl (cZ, 16, .inl (upd (fun _ => 0) (Int32.toNatClampNeg 0) 1)))]) ⟨hx, hb, hml, hown, hts⟩ (c_X1_init l D cI cZ q11 0 0) (cwI 0 hts (gd_C wo_X1_init) rfl rfl rfl (hts _ wz_X1) (hts _ wm_X3_35) (hts _ wi_X1_init) rfl (by decide +kernel) ⟨Nat.le_of_ble_eq_true rfl, Nat.le_of_ble_eq_true rfl⟩) hK hP hD hS hA [11] [0, 1, 2, 3, 4, 5, 6, 7, 8, 9, 10] rfl rfl (by decide) (by decide) (by decide) rfl rfl hl.1 (Nat.le_of_ble_eq_true rfl) dX3_init_57 ⟨Nat.le_of_ble_eq_true rfl, Nat.le_of_ble_eq_true rfl⟩ (fun u H locs hP hD hS => ?_)
  obtain ⟨q12, rfl⟩ : ∃ z, z = u := ⟨_, rfl⟩
  have hP : va_P D classes [(qx, .inr (3, [.ref q1, .ref q2, .ref q3, .ref q4, .ref q6, .null, .int rT, .int rL, .int rC, .int rIn, .int cyc, .int wai])), (q1, .inl (cI, 32, .inl (fun _ => 0))), (q2, .inl (cI, 256, .inl (fun _ => 0))), (q3, .inl (cI, 1024, .inl (fun _ => 0))), (q4, .inr (0, [.ref q5, .int 0, .int 5])), (q5, .inl (cI, 1024, .inl (fun _ => 0))), (q6, .inr (2, [.ref q7, .ref q8, .ref q9, .ref q10, .int 0, .int 0, .int 0])), (q7, .inl (cI, 16, .inl (fun _ => 0))), (q8, .inl (cI, 16, .inl (fun _ => 0))), (q9, .inl (cI, 16, .inl (fun _ => 0))), (q10, .inl (cZ, 16, .inl (upd (fun _ => 0) (Int32.toNatClampNeg 0) 1))), (q11, .inr (1, [.ref q12, .int 0, .int 0])), (q12, .inl (cI, 500, .inl (fun _ => 0)))] H := hP
  have hD : va_D A [(qx, .inr (3, [.ref q1, .ref q2, .ref q3, .ref q4, .ref q6, .null, .int rT, .int rL, .int rC, .int rIn, .int cyc, .int wai])), (q1, .inl (cI, 32, .inl (fun _ => 0))), (q2, .inl (cI, 256, .inl (fun _ => 0))), (q3, .inl (cI, 1024, .inl (fun _ => 0))), (q4, .inr (0, [.ref q5, .int 0, .int 5])), (q5, .inl (cI, 1024, .inl (fun _ => 0))), (q6, .inr (2, [.ref q7, .ref q8, .ref q9, .ref q10, .int 0, .int 0, .int 0])), (q7, .inl (cI, 16, .inl (fun _ => 0))), (q8, .inl (cI, 16, .inl (fun _ => 0))), (q9, .inl (cI, 16, .inl (fun _ => 0))), (q10, .inl (cZ, 16, .inl (upd (fun _ => 0) (Int32.toNatClampNeg 0) 1))), (q11, .inr (1, [.ref q12, .int 0, .int 0])), (q12, .inl (cI, 500, .inl (fun _ => 0)))] := hD
  refine W.widen (k := 12) (n := 2913) (by omega) (by omega) ?_
  refine va_putF (D := D) (ci := 3) (v := .ref q11) (ty := (.object "MicroTasks$Output")) (C := RX3) (T := TX3) (N := 12) hx hb hts ilX3 tyX3 tyX3_ok nmX3 hown hK hP hD hS 0 rfl rfl 5 (by decide) (hts _ wf_X3_36) (fun _ h9 => h9) rfl hin rfl (by decide +kernel) rfl rfl (Nat.le_of_ble_eq_true rfl) dX3_init_60 (fun H locs hP hD hS => ?_)
  have hP : va_P D classes [(qx, .inr (3, [.ref q1, .ref q2, .ref q3, .ref q4, .ref q6, .ref q11, .int rT, .int rL, .int rC, .int rIn, .int cyc, .int wai])), (q1, .inl (cI, 32, .inl (fun _ => 0))), (q2, .inl (cI, 256, .inl (fun _ => 0))), (q3, .inl (cI, 1024, .inl (fun _ => 0))), (q4, .inr (0, [.ref q5, .int 0, .int 5])), (q5, .inl (cI, 1024, .inl (fun _ => 0))), (q6, .inr (2, [.ref q7, .ref q8, .ref q9, .ref q10, .int 0, .int 0, .int 0])), (q7, .inl (cI, 16, .inl (fun _ => 0))), (q8, .inl (cI, 16, .inl (fun _ => 0))), (q9, .inl (cI, 16, .inl (fun _ => 0))), (q10, .inl (cZ, 16, .inl (upd (fun _ => 0) (Int32.toNatClampNeg 0) 1))), (q11, .inr (1, [.ref q12, .int 0, .int 0])), (q12, .inl (cI, 500, .inl (fun _ => 0)))] H := hP
  have hD : va_D A [(qx, .inr (3, [.ref q1, .ref q2, .ref q3, .ref q4, .ref q6, .ref q11, .int rT, .int rL, .int rC, .int rIn, .int cyc, .int wai])), (q1, .inl (cI, 32, .inl (fun _ => 0))), (q2, .inl (cI, 256, .inl (fun _ => 0))), (q3, .inl (cI, 1024, .inl (fun _ => 0))), (q4, .inr (0, [.ref q5, .int 0, .int 5])), (q5, .inl (cI, 1024, .inl (fun _ => 0))), (q6, .inr (2, [.ref q7, .ref q8, .ref q9, .ref q10, .int 0, .int 0, .int 0])), (q7, .inl (cI, 16, .inl (fun _ => 0))), (q8, .inl (cI, 16, .inl (fun _ => 0))), (q9, .inl (cI, 16, .inl (fun _ => 0))), (q10, .inl (cZ, 16, .inl (upd (fun _ => 0) (Int32.toNatClampNeg 0) 1))), (q11, .inr (1, [.ref q12, .int 0, .int 0])), (q12, .inl (cI, 500, .inl (fun _ => 0)))] := hD
  exact ct_vret (q1, q2, q3, q4, q5, q6, q7, q8, q9, q10, q11, q12) hx hb hr hlocks hP hD hS rfl dX3_init_63
def z_X3_keep_qa (fa : Nat → Int32) (n : Nat) (p0 : Int32) (p1 : Int32) : Nat → Int32 := (if p0 < 0 then fa else (if p0 < (Int32.ofNat n) then upd fa (Int32.toNatClampNeg p0) p1 else fa))
def r_X3_keep (n : Nat) (p0 : Int32) : Int32 := (if p0 < 0 then 0 else (if p0 < (Int32.ofNat n) then 1 else 0))
set_option maxHeartbeats 4000000 in
set_option maxRecDepth 100000 in
theorem c_X3_keep (l : Launch) (D : va_G) (cI cZ : ClassId) (qa : Nat) (fa : Nat → Int32) (n : Nat) (p0 : Int32) (p1 : Int32) (hn : n < 2147483648) : CtI l D classes [(cI, .int), (cZ, .boolean)] yX3_keep w_X3_keep { frames := 0, cells := 0, slots := 0, locals := 0 } [.ref qa, .int p0, .int p1] [(qa, .inl (cI, n, .inl fa))] [(qa, .inl (cI, n, .inl (z_X3_keep_qa fa n p0 p1)))] (r_X3_keep n p0) := by
  refine CtI.mk (cc := cX3_keep) (maxL := 3) (ret := (some .boolean)) (by decide) rfl (Nat.le_of_ble_eq_true rfl) ?_
  intro p e s m below meth c A hBeg ls hl
  obtain ⟨hx, hb, hr, hml, hts0, hown, hlocks, hin, hA, hK, hP, hD, hS⟩ := hBeg
  have hts := fun w h => hts0 w (List.mem_cons_of_mem _ h)
  have hown : s.vm.findClass RX3 = some m.cls := hown
  have hl : lv_has ls 3 [(0, .ref qa), (1, .int p0), (2, .int p1)] := hl
  skip
  refine lv_iload_n hx hb dX3_keep_0 rfl (lv_at hl 1 rfl) ?_
  refine lv_if_lt (tgt := 10) hx hb dX3_keep_1 (by decide) (fun c_1 => ?_) (fun c_1 => ?_)
  · skip
    refine lv_iconst (v := 0) hx hb dX3_keep_10 (by decide) ?_
    have e_1 : z_X3_keep_qa fa n p0 p1 = fa := by simp only [z_X3_keep_qa, if_pos c_1]
    have e_2 : r_X3_keep n p0 = 0 := by simp only [r_X3_keep, if_pos c_1]
    exact ct_zret hx hb hr hlocks hP hD hS (by rw [e_1]) (by rw [e_2]) (Or.inl rfl) dX3_keep_11
  · skip
    refine lv_iload_n hx hb dX3_keep_4 rfl (lv_at hl 1 rfl) ?_
    refine lv_aload_n hx hb dX3_keep_5 rfl (lv_at hl 0 rfl) ?_
    refine va_alen (v := Int32.ofNat n) hx hb hK hP 0 0 rfl rfl rfl dX3_keep_6 ?_
    refine lv_icmp_lt (tgt := 12) hx hb dX3_keep_7 (by decide) (fun c_2 => ?_) (fun c_2 => ?_)
    · skip
      refine lv_aload_n hx hb dX3_keep_12 rfl (lv_at hl 0 rfl) ?_
      refine lv_iload_n hx hb dX3_keep_13 rfl (lv_at hl 1 rfl) ?_
      refine lv_iload_n hx hb dX3_keep_14 rfl (lv_at hl 2 rfl) ?_
      refine va_iast hx hb hK hP hD hS 0 0 rfl rfl (vp_of4 hn c_1 c_2) dX3_keep_15 (fun H locs hP hD hS => ?_)
      have hP : va_P D classes [(qa, .inl (cI, n, .inl (upd fa (Int32.toNatClampNeg p0) p1)))] H := hP
      have hD : va_D A [(qa, .inl (cI, n, .inl (upd fa (Int32.toNatClampNeg p0) p1)))] := hD
      refine lv_iconst (v := 1) hx hb dX3_keep_16 (by decide) ?_
      have e_1 : z_X3_keep_qa fa n p0 p1 = upd fa (Int32.toNatClampNeg p0) p1 := by simp only [z_X3_keep_qa, if_neg c_1, if_pos c_2]
      have e_2 : r_X3_keep n p0 = 1 := by simp only [r_X3_keep, if_neg c_1, if_pos c_2]
      exact ct_zret hx hb hr hlocks hP hD hS (by rw [e_1]) (by rw [e_2]) (Or.inr rfl) dX3_keep_17
    · skip
      refine lv_iconst (v := 0) hx hb dX3_keep_10 (by decide) ?_
      have e_1 : z_X3_keep_qa fa n p0 p1 = fa := by simp only [z_X3_keep_qa, if_neg c_1, if_neg c_2]
      have e_2 : r_X3_keep n p0 = 0 := by simp only [r_X3_keep, if_neg c_1, if_neg c_2]
      exact ct_zret hx hb hr hlocks hP hD hS (by rw [e_1]) (by rw [e_2]) (Or.inl rfl) dX3_keep_11
theorem b_X3_keep (n : Nat) (p0 : Int32) : r_X3_keep n p0 = 0 ∨ r_X3_keep n p0 = 1 := by
  unfold r_X3_keep
  repeat' split
  all_goals first | exact Or.inl rfl | exact Or.inr rfl
def r_X3_ask (fa : Nat → Int32) (n : Nat) (p0 : Int32) : Int32 := (if p0 < 0 then (-1) else (if (Int32.ofNat n) ≤ p0 then (-1) else fa (Int32.toNatClampNeg p0)))
set_option maxHeartbeats 4000000 in
set_option maxRecDepth 100000 in
theorem c_X3_ask (l : Launch) (D : va_G) (cI cZ : ClassId) (qa : Nat) (fa : Nat → Int32) (n : Nat) (p0 : Int32) (hn : n < 2147483648) : CtI l D classes [(cI, .int), (cZ, .boolean)] yX3_ask w_X3_ask { frames := 0, cells := 0, slots := 0, locals := 0 } [.ref qa, .int p0] [(qa, .inl (cI, n, .inl fa))] [(qa, .inl (cI, n, .inl fa))] (r_X3_ask fa n p0) := by
  refine CtI.mk (cc := cX3_ask) (maxL := 2) (ret := (some .int)) (by decide) rfl (Nat.le_of_ble_eq_true rfl) ?_
  intro p e s m below meth c A hBeg ls hl
  obtain ⟨hx, hb, hr, hml, hts0, hown, hlocks, hin, hA, hK, hP, hD, hS⟩ := hBeg
  have hts := fun w h => hts0 w (List.mem_cons_of_mem _ h)
  have hown : s.vm.findClass RX3 = some m.cls := hown
  have hl : lv_has ls 2 [(0, .ref qa), (1, .int p0)] := hl
  skip
  refine lv_iload_n hx hb dX3_ask_0 rfl (lv_at hl 1 rfl) ?_
  refine lv_if_lt (tgt := 16) hx hb dX3_ask_1 (by decide) (fun c_1 => ?_) (fun c_1 => ?_)
  · skip
    refine lv_iconst (v := (-1)) hx hb dX3_ask_16 (by decide) ?_
    have e_1 : r_X3_ask fa n p0 = (-1) := by simp only [r_X3_ask, if_pos c_1]
    exact ct_iret hx hb hr hlocks hP hD hS rfl (by rw [e_1]) dX3_ask_17
  · skip
    refine lv_iload_n hx hb dX3_ask_4 rfl (lv_at hl 1 rfl) ?_
    refine lv_aload_n hx hb dX3_ask_5 rfl (lv_at hl 0 rfl) ?_
    refine va_alen (v := Int32.ofNat n) hx hb hK hP 0 0 rfl rfl rfl dX3_ask_6 ?_
    refine lv_icmp_ge (tgt := 16) hx hb dX3_ask_7 (by decide) (fun c_2 => ?_) (fun c_2 => ?_)
    · skip
      refine lv_iconst (v := (-1)) hx hb dX3_ask_16 (by decide) ?_
      have e_1 : r_X3_ask fa n p0 = (-1) := by simp only [r_X3_ask, if_neg c_1, if_pos c_2]
      exact ct_iret hx hb hr hlocks hP hD hS rfl (by rw [e_1]) dX3_ask_17
    · skip
      refine lv_aload_n hx hb dX3_ask_10 rfl (lv_at hl 0 rfl) ?_
      refine lv_iload_n hx hb dX3_ask_11 rfl (lv_at hl 1 rfl) ?_
      refine va_iald hx hb hK hP 0 0 rfl rfl (vp_of3 hn c_1 c_2) dX3_ask_12 ?_
      refine lv_goto (tgt := 17) hx hb dX3_ask_13 (by decide) ?_
      have e_1 : r_X3_ask fa n p0 = fa (Int32.toNatClampNeg p0) := by simp only [r_X3_ask, if_neg c_1, if_neg c_2]
      exact ct_iret hx hb hr hlocks hP hD hS rfl (by rw [e_1]) dX3_ask_17
def r_X3_isTask (p0 : Int32) : Int32 := (if p0 < 0 then 0 else (if 16 ≤ p0 then 0 else 1))
set_option maxHeartbeats 4000000 in
set_option maxRecDepth 100000 in
theorem c_X3_isTask (l : Launch) (D : va_G) (cI cZ : ClassId) (p0 : Int32) : CtI l D classes [(cI, .int), (cZ, .boolean)] yX3_isTask w_X3_isTask { frames := 0, cells := 0, slots := 0, locals := 0 } [.int p0] [] [] (r_X3_isTask p0) := by
  refine CtI.mk (cc := cX3_isTask) (maxL := 1) (ret := (some .boolean)) (by decide) rfl (Nat.le_of_ble_eq_true rfl) ?_
  intro p e s m below meth c A hBeg ls hl
  obtain ⟨hx, hb, hr, hml, hts0, hown, hlocks, hin, hA, hK, hP, hD, hS⟩ := hBeg
  have hts := fun w h => hts0 w (List.mem_cons_of_mem _ h)
  have hown : s.vm.findClass RX3 = some m.cls := hown
  have hl : lv_has ls 1 [(0, .int p0)] := hl
  skip
  refine lv_iload_n hx hb dX3_isTask_0 rfl (lv_at hl 0 rfl) ?_
  refine lv_if_lt (tgt := 14) hx hb dX3_isTask_1 (by decide) (fun c_1 => ?_) (fun c_1 => ?_)
  · skip
    refine lv_iconst (v := 0) hx hb dX3_isTask_14 (by decide) ?_
    have e_1 : r_X3_isTask p0 = 0 := by simp only [r_X3_isTask, if_pos c_1]
    exact ct_zret hx hb hr hlocks hP hD hS rfl (by rw [e_1]) (Or.inl rfl) dX3_isTask_15
  · skip
    refine lv_iload_n hx hb dX3_isTask_4 rfl (lv_at hl 0 rfl) ?_
    refine lv_bipush (v := 16) hx hb dX3_isTask_5 (by decide) ?_
    refine lv_icmp_ge (tgt := 14) hx hb dX3_isTask_7 (by decide) (fun c_2 => ?_) (fun c_2 => ?_)
    · skip
      refine lv_iconst (v := 0) hx hb dX3_isTask_14 (by decide) ?_
      have e_1 : r_X3_isTask p0 = 0 := by simp only [r_X3_isTask, if_neg c_1, if_pos c_2]
      exact ct_zret hx hb hr hlocks hP hD hS rfl (by rw [e_1]) (Or.inl rfl) dX3_isTask_15
    · skip
      refine lv_iconst (v := 1) hx hb dX3_isTask_10 (by decide) ?_
      refine lv_goto (tgt := 15) hx hb dX3_isTask_11 (by decide) ?_
      have e_1 : r_X3_isTask p0 = 1 := by simp only [r_X3_isTask, if_neg c_1, if_neg c_2]
      exact ct_zret hx hb hr hlocks hP hD hS rfl (by rw [e_1]) (Or.inr rfl) dX3_isTask_15
theorem isTask_in {p0 : Int32} (h : ¬ r_X3_isTask p0 = 0) : vp_in p0 16 := by
  unfold r_X3_isTask at h
  by_cases h0 : p0 < 0
  · rw [if_pos h0] at h; exact absurd rfl h
  · by_cases h1 : 16 ≤ p0
    · rw [if_neg h0, if_pos h1] at h; exact absurd rfl h
    · exact vp_of2 (y := 16) (by decide) h0 h1
def r_X3_givesAluToT (p0 : Int32) : Int32 := (if p0 = 0 then 1 else (if p0 = 1 then 0 else (if p0 = 2 then 1 else (if p0 = 3 then 0 else (if p0 = 4 then 0 else (if p0 = 5 then 1 else (if p0 = 6 then 1 else (if p0 = 7 then 0 else (if p0 = 8 then 0 else (if p0 = 9 then 0 else (if p0 = 10 then 1 else (if p0 = 11 then 1 else (if p0 = 12 then 1 else 0)))))))))))))
set_option maxHeartbeats 4000000 in
set_option maxRecDepth 100000 in
theorem c_X3_givesAluToT (l : Launch) (D : va_G) (cI cZ : ClassId) (p0 : Int32) : CtI l D classes [(cI, .int), (cZ, .boolean)] yX3_givesAluToT w_X3_givesAluToT { frames := 0, cells := 0, slots := 0, locals := 0 } [.int p0] [] [] (r_X3_givesAluToT p0) := by
  refine CtI.mk (cc := cX3_givesAluToT) (maxL := 1) (ret := (some .boolean)) (by decide) rfl (Nat.le_of_ble_eq_true rfl) ?_
  intro p e s m below meth c A hBeg ls hl
  obtain ⟨hx, hb, hr, hml, hts0, hown, hlocks, hin, hA, hK, hP, hD, hS⟩ := hBeg
  have hts := fun w h => hts0 w (List.mem_cons_of_mem _ h)
  have hown : s.vm.findClass RX3 = some m.cls := hown
  have hl : lv_has ls 1 [(0, .int p0)] := hl
  skip
  refine lv_iload_n hx hb dX3_givesAluToT_0 rfl (lv_at hl 0 rfl) ?_
  by_cases s_1 : p0 = 0
  · skip
    refine lv_tableIn (tgt := 68) (off := 67) hx hb dX3_givesAluToT_1 (by rw [s_1]; decide) (by rw [s_1]; decide) (by rw [s_1]; rfl) (by decide) ?_
    refine lv_iconst (v := 1) hx hb dX3_givesAluToT_68 (by decide) ?_
    have e_1 : r_X3_givesAluToT p0 = 1 := by simp only [r_X3_givesAluToT, if_pos s_1]
    exact ct_zret hx hb hr hlocks hP hD hS rfl (by rw [e_1]) (Or.inr rfl) dX3_givesAluToT_69
  by_cases s_2 : p0 = 1
  · skip
    refine lv_tableIn (tgt := 70) (off := 69) hx hb dX3_givesAluToT_1 (by rw [s_2]; decide) (by rw [s_2]; decide) (by rw [s_2]; rfl) (by decide) ?_
    refine lv_iconst (v := 0) hx hb dX3_givesAluToT_70 (by decide) ?_
    have e_1 : r_X3_givesAluToT p0 = 0 := by simp only [r_X3_givesAluToT, if_neg s_1, if_pos s_2]
    exact ct_zret hx hb hr hlocks hP hD hS rfl (by rw [e_1]) (Or.inl rfl) dX3_givesAluToT_71
  by_cases s_3 : p0 = 2
  · skip
    refine lv_tableIn (tgt := 68) (off := 67) hx hb dX3_givesAluToT_1 (by rw [s_3]; decide) (by rw [s_3]; decide) (by rw [s_3]; rfl) (by decide) ?_
    refine lv_iconst (v := 1) hx hb dX3_givesAluToT_68 (by decide) ?_
    have e_1 : r_X3_givesAluToT p0 = 1 := by simp only [r_X3_givesAluToT, if_neg s_1, if_neg s_2, if_pos s_3]
    exact ct_zret hx hb hr hlocks hP hD hS rfl (by rw [e_1]) (Or.inr rfl) dX3_givesAluToT_69
  by_cases s_4 : p0 = 3
  · skip
    refine lv_tableIn (tgt := 70) (off := 69) hx hb dX3_givesAluToT_1 (by rw [s_4]; decide) (by rw [s_4]; decide) (by rw [s_4]; rfl) (by decide) ?_
    refine lv_iconst (v := 0) hx hb dX3_givesAluToT_70 (by decide) ?_
    have e_1 : r_X3_givesAluToT p0 = 0 := by simp only [r_X3_givesAluToT, if_neg s_1, if_neg s_2, if_neg s_3, if_pos s_4]
    exact ct_zret hx hb hr hlocks hP hD hS rfl (by rw [e_1]) (Or.inl rfl) dX3_givesAluToT_71
  by_cases s_5 : p0 = 4
  · skip
    refine lv_tableIn (tgt := 70) (off := 69) hx hb dX3_givesAluToT_1 (by rw [s_5]; decide) (by rw [s_5]; decide) (by rw [s_5]; rfl) (by decide) ?_
    refine lv_iconst (v := 0) hx hb dX3_givesAluToT_70 (by decide) ?_
    have e_1 : r_X3_givesAluToT p0 = 0 := by simp only [r_X3_givesAluToT, if_neg s_1, if_neg s_2, if_neg s_3, if_neg s_4, if_pos s_5]
    exact ct_zret hx hb hr hlocks hP hD hS rfl (by rw [e_1]) (Or.inl rfl) dX3_givesAluToT_71
  by_cases s_6 : p0 = 5
  · skip
    refine lv_tableIn (tgt := 68) (off := 67) hx hb dX3_givesAluToT_1 (by rw [s_6]; decide) (by rw [s_6]; decide) (by rw [s_6]; rfl) (by decide) ?_
    refine lv_iconst (v := 1) hx hb dX3_givesAluToT_68 (by decide) ?_
    have e_1 : r_X3_givesAluToT p0 = 1 := by simp only [r_X3_givesAluToT, if_neg s_1, if_neg s_2, if_neg s_3, if_neg s_4, if_neg s_5, if_pos s_6]
    exact ct_zret hx hb hr hlocks hP hD hS rfl (by rw [e_1]) (Or.inr rfl) dX3_givesAluToT_69
  by_cases s_7 : p0 = 6
  · skip
    refine lv_tableIn (tgt := 68) (off := 67) hx hb dX3_givesAluToT_1 (by rw [s_7]; decide) (by rw [s_7]; decide) (by rw [s_7]; rfl) (by decide) ?_
    refine lv_iconst (v := 1) hx hb dX3_givesAluToT_68 (by decide) ?_
    have e_1 : r_X3_givesAluToT p0 = 1 := by simp only [r_X3_givesAluToT, if_neg s_1, if_neg s_2, if_neg s_3, if_neg s_4, if_neg s_5, if_neg s_6, if_pos s_7]
    exact ct_zret hx hb hr hlocks hP hD hS rfl (by rw [e_1]) (Or.inr rfl) dX3_givesAluToT_69
  by_cases s_8 : p0 = 7
  · skip
    refine lv_tableIn (tgt := 70) (off := 69) hx hb dX3_givesAluToT_1 (by rw [s_8]; decide) (by rw [s_8]; decide) (by rw [s_8]; rfl) (by decide) ?_
    refine lv_iconst (v := 0) hx hb dX3_givesAluToT_70 (by decide) ?_
    have e_1 : r_X3_givesAluToT p0 = 0 := by simp only [r_X3_givesAluToT, if_neg s_1, if_neg s_2, if_neg s_3, if_neg s_4, if_neg s_5, if_neg s_6, if_neg s_7, if_pos s_8]
    exact ct_zret hx hb hr hlocks hP hD hS rfl (by rw [e_1]) (Or.inl rfl) dX3_givesAluToT_71
  by_cases s_9 : p0 = 8
  · skip
    refine lv_tableIn (tgt := 70) (off := 69) hx hb dX3_givesAluToT_1 (by rw [s_9]; decide) (by rw [s_9]; decide) (by rw [s_9]; rfl) (by decide) ?_
    refine lv_iconst (v := 0) hx hb dX3_givesAluToT_70 (by decide) ?_
    have e_1 : r_X3_givesAluToT p0 = 0 := by simp only [r_X3_givesAluToT, if_neg s_1, if_neg s_2, if_neg s_3, if_neg s_4, if_neg s_5, if_neg s_6, if_neg s_7, if_neg s_8, if_pos s_9]
    exact ct_zret hx hb hr hlocks hP hD hS rfl (by rw [e_1]) (Or.inl rfl) dX3_givesAluToT_71
  by_cases s_10 : p0 = 9
  · skip
    refine lv_tableIn (tgt := 70) (off := 69) hx hb dX3_givesAluToT_1 (by rw [s_10]; decide) (by rw [s_10]; decide) (by rw [s_10]; rfl) (by decide) ?_
    refine lv_iconst (v := 0) hx hb dX3_givesAluToT_70 (by decide) ?_
    have e_1 : r_X3_givesAluToT p0 = 0 := by simp only [r_X3_givesAluToT, if_neg s_1, if_neg s_2, if_neg s_3, if_neg s_4, if_neg s_5, if_neg s_6, if_neg s_7, if_neg s_8, if_neg s_9, if_pos s_10]
    exact ct_zret hx hb hr hlocks hP hD hS rfl (by rw [e_1]) (Or.inl rfl) dX3_givesAluToT_71
  by_cases s_11 : p0 = 10
  · skip
    refine lv_tableIn (tgt := 68) (off := 67) hx hb dX3_givesAluToT_1 (by rw [s_11]; decide) (by rw [s_11]; decide) (by rw [s_11]; rfl) (by decide) ?_
    refine lv_iconst (v := 1) hx hb dX3_givesAluToT_68 (by decide) ?_
    have e_1 : r_X3_givesAluToT p0 = 1 := by simp only [r_X3_givesAluToT, if_neg s_1, if_neg s_2, if_neg s_3, if_neg s_4, if_neg s_5, if_neg s_6, if_neg s_7, if_neg s_8, if_neg s_9, if_neg s_10, if_pos s_11]
    exact ct_zret hx hb hr hlocks hP hD hS rfl (by rw [e_1]) (Or.inr rfl) dX3_givesAluToT_69
  by_cases s_12 : p0 = 11
  · skip
    refine lv_tableIn (tgt := 68) (off := 67) hx hb dX3_givesAluToT_1 (by rw [s_12]; decide) (by rw [s_12]; decide) (by rw [s_12]; rfl) (by decide) ?_
    refine lv_iconst (v := 1) hx hb dX3_givesAluToT_68 (by decide) ?_
    have e_1 : r_X3_givesAluToT p0 = 1 := by simp only [r_X3_givesAluToT, if_neg s_1, if_neg s_2, if_neg s_3, if_neg s_4, if_neg s_5, if_neg s_6, if_neg s_7, if_neg s_8, if_neg s_9, if_neg s_10, if_neg s_11, if_pos s_12]
    exact ct_zret hx hb hr hlocks hP hD hS rfl (by rw [e_1]) (Or.inr rfl) dX3_givesAluToT_69
  by_cases s_13 : p0 = 12
  · skip
    refine lv_tableIn (tgt := 68) (off := 67) hx hb dX3_givesAluToT_1 (by rw [s_13]; decide) (by rw [s_13]; decide) (by rw [s_13]; rfl) (by decide) ?_
    refine lv_iconst (v := 1) hx hb dX3_givesAluToT_68 (by decide) ?_
    have e_1 : r_X3_givesAluToT p0 = 1 := by simp only [r_X3_givesAluToT, if_neg s_1, if_neg s_2, if_neg s_3, if_neg s_4, if_neg s_5, if_neg s_6, if_neg s_7, if_neg s_8, if_neg s_9, if_neg s_10, if_neg s_11, if_neg s_12, if_pos s_13]
    exact ct_zret hx hb hr hlocks hP hD hS rfl (by rw [e_1]) (Or.inr rfl) dX3_givesAluToT_69
  refine lv_tableOut (tgt := 70) hx hb dX3_givesAluToT_1 (by have h_s_1 := lv_neT (k := 0) (a := 0) s_1 (by decide); have h_s_2 := lv_neT (k := 1) (a := 1) s_2 (by decide); have h_s_3 := lv_neT (k := 2) (a := 2) s_3 (by decide); have h_s_4 := lv_neT (k := 3) (a := 3) s_4 (by decide); have h_s_5 := lv_neT (k := 4) (a := 4) s_5 (by decide); have h_s_6 := lv_neT (k := 5) (a := 5) s_6 (by decide); have h_s_7 := lv_neT (k := 6) (a := 6) s_7 (by decide); have h_s_8 := lv_neT (k := 7) (a := 7) s_8 (by decide); have h_s_9 := lv_neT (k := 8) (a := 8) s_9 (by decide); have h_s_10 := lv_neT (k := 9) (a := 9) s_10 (by decide); have h_s_11 := lv_neT (k := 10) (a := 10) s_11 (by decide); have h_s_12 := lv_neT (k := 11) (a := 11) s_12 (by decide); have h_s_13 := lv_neT (k := 12) (a := 12) s_13 (by decide); omega) (by decide) ?_
  refine lv_iconst (v := 0) hx hb dX3_givesAluToT_70 (by decide) ?_
  have e_1 : r_X3_givesAluToT p0 = 0 := by simp only [r_X3_givesAluToT, if_neg s_1, if_neg s_2, if_neg s_3, if_neg s_4, if_neg s_5, if_neg s_6, if_neg s_7, if_neg s_8, if_neg s_9, if_neg s_10, if_neg s_11, if_neg s_12, if_neg s_13]
  exact ct_zret hx hb hr hlocks hP hD hS rfl (by rw [e_1]) (Or.inl rfl) dX3_givesAluToT_71
set_option maxHeartbeats 4000000 in
set_option maxRecDepth 100000 in
theorem c_X3_rselOf (l : Launch) (D : va_G) (cI cZ : ClassId) (p0 : Int32) : CtI l D classes [(cI, .int), (cZ, .boolean)] yX3_rselOf w_X3_rselOf { frames := 0, cells := 0, slots := 0, locals := 0 } [.int p0] [] [] (jushr p0 27) := by
  refine CtI.mk (cc := cX3_rselOf) (maxL := 1) (ret := (some .int)) (by decide) rfl (Nat.le_of_ble_eq_true rfl) ?_
  intro p e s m below meth c A hBeg ls hl
  obtain ⟨hx, hb, hr, hml, hts0, hown, hlocks, hin, hA, hK, hP, hD, hS⟩ := hBeg
  have hts := fun w h => hts0 w (List.mem_cons_of_mem _ h)
  have hown : s.vm.findClass RX3 = some m.cls := hown
  have hl : lv_has ls 1 [(0, .int p0)] := hl
  skip
  refine lv_iload_n hx hb dX3_rselOf_0 rfl (lv_at hl 0 rfl) ?_
  refine lv_bipush (v := 27) hx hb dX3_rselOf_1 (by decide) ?_
  refine lv_iushr (v := jushr p0 27) hx hb dX3_rselOf_3 rfl ?_
  exact ct_iret hx hb hr hlocks hP hD hS rfl rfl dX3_rselOf_4
set_option maxHeartbeats 4000000 in
set_option maxRecDepth 100000 in
theorem c_X3_alufOf (l : Launch) (D : va_G) (cI cZ : ClassId) (p0 : Int32) : CtI l D classes [(cI, .int), (cZ, .boolean)] yX3_alufOf w_X3_alufOf { frames := 0, cells := 0, slots := 0, locals := 0 } [.int p0] [] [] ((p0 >>> (23 &&& 31)) &&& 15) := by
  refine CtI.mk (cc := cX3_alufOf) (maxL := 1) (ret := (some .int)) (by decide) rfl (Nat.le_of_ble_eq_true rfl) ?_
  intro p e s m below meth c A hBeg ls hl
  obtain ⟨hx, hb, hr, hml, hts0, hown, hlocks, hin, hA, hK, hP, hD, hS⟩ := hBeg
  have hts := fun w h => hts0 w (List.mem_cons_of_mem _ h)
  have hown : s.vm.findClass RX3 = some m.cls := hown
  have hl : lv_has ls 1 [(0, .int p0)] := hl
  skip
  refine lv_iload_n hx hb dX3_alufOf_0 rfl (lv_at hl 0 rfl) ?_
  refine lv_bipush (v := 23) hx hb dX3_alufOf_1 (by decide) ?_
  refine lv_ishr hx hb dX3_alufOf_3 ?_
  refine lv_bipush (v := 15) hx hb dX3_alufOf_4 (by decide) ?_
  refine lv_iand hx hb dX3_alufOf_6 ?_
  exact ct_iret hx hb hr hlocks hP hD hS rfl rfl dX3_alufOf_7
set_option maxHeartbeats 4000000 in
set_option maxRecDepth 100000 in
theorem c_X3_bsOf (l : Launch) (D : va_G) (cI cZ : ClassId) (p0 : Int32) : CtI l D classes [(cI, .int), (cZ, .boolean)] yX3_bsOf w_X3_bsOf { frames := 0, cells := 0, slots := 0, locals := 0 } [.int p0] [] [] ((p0 >>> (20 &&& 31)) &&& 7) := by
  refine CtI.mk (cc := cX3_bsOf) (maxL := 1) (ret := (some .int)) (by decide) rfl (Nat.le_of_ble_eq_true rfl) ?_
  intro p e s m below meth c A hBeg ls hl
  obtain ⟨hx, hb, hr, hml, hts0, hown, hlocks, hin, hA, hK, hP, hD, hS⟩ := hBeg
  have hts := fun w h => hts0 w (List.mem_cons_of_mem _ h)
  have hown : s.vm.findClass RX3 = some m.cls := hown
  have hl : lv_has ls 1 [(0, .int p0)] := hl
  skip
  refine lv_iload_n hx hb dX3_bsOf_0 rfl (lv_at hl 0 rfl) ?_
  refine lv_bipush (v := 20) hx hb dX3_bsOf_1 (by decide) ?_
  refine lv_ishr hx hb dX3_bsOf_3 ?_
  refine lv_bipush (v := 7) hx hb dX3_bsOf_4 (by decide) ?_
  refine lv_iand hx hb dX3_bsOf_6 ?_
  exact ct_iret hx hb hr hlocks hP hD hS rfl rfl dX3_bsOf_7
set_option maxHeartbeats 4000000 in
set_option maxRecDepth 100000 in
theorem c_X3_f1Of (l : Launch) (D : va_G) (cI cZ : ClassId) (p0 : Int32) : CtI l D classes [(cI, .int), (cZ, .boolean)] yX3_f1Of w_X3_f1Of { frames := 0, cells := 0, slots := 0, locals := 0 } [.int p0] [] [] ((p0 >>> (16 &&& 31)) &&& 15) := by
  refine CtI.mk (cc := cX3_f1Of) (maxL := 1) (ret := (some .int)) (by decide) rfl (Nat.le_of_ble_eq_true rfl) ?_
  intro p e s m below meth c A hBeg ls hl
  obtain ⟨hx, hb, hr, hml, hts0, hown, hlocks, hin, hA, hK, hP, hD, hS⟩ := hBeg
  have hts := fun w h => hts0 w (List.mem_cons_of_mem _ h)
  have hown : s.vm.findClass RX3 = some m.cls := hown
  have hl : lv_has ls 1 [(0, .int p0)] := hl
  skip
  refine lv_iload_n hx hb dX3_f1Of_0 rfl (lv_at hl 0 rfl) ?_
  refine lv_bipush (v := 16) hx hb dX3_f1Of_1 (by decide) ?_
  refine lv_ishr hx hb dX3_f1Of_3 ?_
  refine lv_bipush (v := 15) hx hb dX3_f1Of_4 (by decide) ?_
  refine lv_iand hx hb dX3_f1Of_6 ?_
  exact ct_iret hx hb hr hlocks hP hD hS rfl rfl dX3_f1Of_7
set_option maxHeartbeats 4000000 in
set_option maxRecDepth 100000 in
theorem c_X3_f2Of (l : Launch) (D : va_G) (cI cZ : ClassId) (p0 : Int32) : CtI l D classes [(cI, .int), (cZ, .boolean)] yX3_f2Of w_X3_f2Of { frames := 0, cells := 0, slots := 0, locals := 0 } [.int p0] [] [] ((p0 >>> (12 &&& 31)) &&& 15) := by
  refine CtI.mk (cc := cX3_f2Of) (maxL := 1) (ret := (some .int)) (by decide) rfl (Nat.le_of_ble_eq_true rfl) ?_
  intro p e s m below meth c A hBeg ls hl
  obtain ⟨hx, hb, hr, hml, hts0, hown, hlocks, hin, hA, hK, hP, hD, hS⟩ := hBeg
  have hts := fun w h => hts0 w (List.mem_cons_of_mem _ h)
  have hown : s.vm.findClass RX3 = some m.cls := hown
  have hl : lv_has ls 1 [(0, .int p0)] := hl
  skip
  refine lv_iload_n hx hb dX3_f2Of_0 rfl (lv_at hl 0 rfl) ?_
  refine lv_bipush (v := 12) hx hb dX3_f2Of_1 (by decide) ?_
  refine lv_ishr hx hb dX3_f2Of_3 ?_
  refine lv_bipush (v := 15) hx hb dX3_f2Of_4 (by decide) ?_
  refine lv_iand hx hb dX3_f2Of_6 ?_
  exact ct_iret hx hb hr hlocks hP hD hS rfl rfl dX3_f2Of_7
def r_X3_loadsT (p0 : Int32) : Int32 := (if ((p0 >>> (11 &&& 31)) &&& 1) = 1 then 1 else 0)
set_option maxHeartbeats 4000000 in
set_option maxRecDepth 100000 in
theorem c_X3_loadsT (l : Launch) (D : va_G) (cI cZ : ClassId) (p0 : Int32) : CtI l D classes [(cI, .int), (cZ, .boolean)] yX3_loadsT w_X3_loadsT { frames := 0, cells := 0, slots := 0, locals := 0 } [.int p0] [] [] (r_X3_loadsT p0) := by
  refine CtI.mk (cc := cX3_loadsT) (maxL := 1) (ret := (some .boolean)) (by decide) rfl (Nat.le_of_ble_eq_true rfl) ?_
  intro p e s m below meth c A hBeg ls hl
  obtain ⟨hx, hb, hr, hml, hts0, hown, hlocks, hin, hA, hK, hP, hD, hS⟩ := hBeg
  have hts := fun w h => hts0 w (List.mem_cons_of_mem _ h)
  have hown : s.vm.findClass RX3 = some m.cls := hown
  have hl : lv_has ls 1 [(0, .int p0)] := hl
  skip
  refine lv_iload_n hx hb dX3_loadsT_0 rfl (lv_at hl 0 rfl) ?_
  refine lv_bipush (v := 11) hx hb dX3_loadsT_1 (by decide) ?_
  refine lv_ishr hx hb dX3_loadsT_3 ?_
  refine lv_iconst (v := 1) hx hb dX3_loadsT_4 (by decide) ?_
  refine lv_iand hx hb dX3_loadsT_5 ?_
  refine lv_iconst (v := 1) hx hb dX3_loadsT_6 (by decide) ?_
  refine lv_icmp_ne (tgt := 14) hx hb dX3_loadsT_7 (by decide) (fun c_1 => ?_) (fun c_1 => ?_)
  · skip
    refine lv_iconst (v := 0) hx hb dX3_loadsT_14 (by decide) ?_
    have e_1 : r_X3_loadsT p0 = 0 := by simp only [r_X3_loadsT, if_neg c_1]
    exact ct_zret hx hb hr hlocks hP hD hS rfl (by rw [e_1]) (Or.inl rfl) dX3_loadsT_15
  · skip
    refine lv_iconst (v := 1) hx hb dX3_loadsT_10 (by decide) ?_
    refine lv_goto (tgt := 15) hx hb dX3_loadsT_11 (by decide) ?_
    have e_1 : r_X3_loadsT p0 = 1 := by simp only [r_X3_loadsT, if_pos c_1]
    exact ct_zret hx hb hr hlocks hP hD hS rfl (by rw [e_1]) (Or.inr rfl) dX3_loadsT_15
def r_X3_loadsL (p0 : Int32) : Int32 := (if ((p0 >>> (10 &&& 31)) &&& 1) = 1 then 1 else 0)
set_option maxHeartbeats 4000000 in
set_option maxRecDepth 100000 in
theorem c_X3_loadsL (l : Launch) (D : va_G) (cI cZ : ClassId) (p0 : Int32) : CtI l D classes [(cI, .int), (cZ, .boolean)] yX3_loadsL w_X3_loadsL { frames := 0, cells := 0, slots := 0, locals := 0 } [.int p0] [] [] (r_X3_loadsL p0) := by
  refine CtI.mk (cc := cX3_loadsL) (maxL := 1) (ret := (some .boolean)) (by decide) rfl (Nat.le_of_ble_eq_true rfl) ?_
  intro p e s m below meth c A hBeg ls hl
  obtain ⟨hx, hb, hr, hml, hts0, hown, hlocks, hin, hA, hK, hP, hD, hS⟩ := hBeg
  have hts := fun w h => hts0 w (List.mem_cons_of_mem _ h)
  have hown : s.vm.findClass RX3 = some m.cls := hown
  have hl : lv_has ls 1 [(0, .int p0)] := hl
  skip
  refine lv_iload_n hx hb dX3_loadsL_0 rfl (lv_at hl 0 rfl) ?_
  refine lv_bipush (v := 10) hx hb dX3_loadsL_1 (by decide) ?_
  refine lv_ishr hx hb dX3_loadsL_3 ?_
  refine lv_iconst (v := 1) hx hb dX3_loadsL_4 (by decide) ?_
  refine lv_iand hx hb dX3_loadsL_5 ?_
  refine lv_iconst (v := 1) hx hb dX3_loadsL_6 (by decide) ?_
  refine lv_icmp_ne (tgt := 14) hx hb dX3_loadsL_7 (by decide) (fun c_1 => ?_) (fun c_1 => ?_)
  · skip
    refine lv_iconst (v := 0) hx hb dX3_loadsL_14 (by decide) ?_
    have e_1 : r_X3_loadsL p0 = 0 := by simp only [r_X3_loadsL, if_neg c_1]
    exact ct_zret hx hb hr hlocks hP hD hS rfl (by rw [e_1]) (Or.inl rfl) dX3_loadsL_15
  · skip
    refine lv_iconst (v := 1) hx hb dX3_loadsL_10 (by decide) ?_
    refine lv_goto (tgt := 15) hx hb dX3_loadsL_11 (by decide) ?_
    have e_1 : r_X3_loadsL p0 = 1 := by simp only [r_X3_loadsL, if_pos c_1]
    exact ct_zret hx hb hr hlocks hP hD hS rfl (by rw [e_1]) (Or.inr rfl) dX3_loadsL_15
set_option maxHeartbeats 4000000 in
set_option maxRecDepth 100000 in
theorem c_X3_nextOf (l : Launch) (D : va_G) (cI cZ : ClassId) (p0 : Int32) : CtI l D classes [(cI, .int), (cZ, .boolean)] yX3_nextOf w_X3_nextOf { frames := 0, cells := 0, slots := 0, locals := 0 } [.int p0] [] [] (p0 &&& 1023) := by
  refine CtI.mk (cc := cX3_nextOf) (maxL := 1) (ret := (some .int)) (by decide) rfl (Nat.le_of_ble_eq_true rfl) ?_
  intro p e s m below meth c A hBeg ls hl
  obtain ⟨hx, hb, hr, hml, hts0, hown, hlocks, hin, hA, hK, hP, hD, hS⟩ := hBeg
  have hts := fun w h => hts0 w (List.mem_cons_of_mem _ h)
  have hown : s.vm.findClass RX3 = some m.cls := hown
  have hl : lv_has ls 1 [(0, .int p0)] := hl
  skip
  refine lv_iload_n hx hb dX3_nextOf_0 rfl (lv_at hl 0 rfl) ?_
  refine lv_sipush (v := 1023) hx hb dX3_nextOf_1 (by decide) ?_
  refine lv_iand hx hb dX3_nextOf_4 ?_
  exact ct_iret hx hb hr hlocks hP hD hS rfl rfl dX3_nextOf_5
def r_X3_hasConstant (p0 : Int32) : Int32 := (if ((p0 >>> (16 &&& 31)) &&& 15) = 7 then 1 else (if ((p0 >>> (12 &&& 31)) &&& 15) = 7 then 1 else 0))
set_option maxHeartbeats 4000000 in
set_option maxRecDepth 100000 in
theorem c_X3_hasConstant (l : Launch) (D : va_G) (cI cZ : ClassId) (p0 : Int32) : CtI l D classes [(cI, .int), (cZ, .boolean)] yX3_hasConstant w_X3_hasConstant { frames := 1, cells := 0, slots := 0, locals := 20 } [.int p0] [] [] (r_X3_hasConstant p0) := by
  refine CtI.mk (cc := cX3_hasConstant) (maxL := 1) (ret := (some .boolean)) (by decide) rfl (Nat.le_of_ble_eq_true rfl) ?_
  intro p e s m below meth c A hBeg ls hl
  obtain ⟨hx, hb, hr, hml, hts0, hown, hlocks, hin, hA, hK, hP, hD, hS⟩ := hBeg
  have hts := fun w h => hts0 w (List.mem_cons_of_mem _ h)
  have hown : s.vm.findClass RX3 = some m.cls := hown
  have hl : lv_has ls 1 [(0, .int p0)] := hl
  skip
  refine lv_iload_n hx hb dX3_hasConstant_0 rfl (lv_at hl 0 rfl) ?_
  refine ctI_S (As := [.int p0]) (rest := []) (wc := []) (wr := []) ⟨hx, hb, hml, hown, hts⟩ (c_X3_f1Of l D cI cZ p0) (cwS 1 hts (gd_S wm_X3_131 wt_X3_f1Of wz_X3 wo_X3_f1Of) rfl rfl rfl (by decide +kernel) ⟨Nat.le_of_ble_eq_true rfl, Nat.le_of_ble_eq_true rfl⟩) hK hP hD hS hA [] [] rfl rfl (by decide) (by decide) (by decide) rfl rfl hl.1 (Nat.le_of_ble_eq_true rfl) dX3_hasConstant_1 ⟨Nat.le_of_ble_eq_true rfl, Nat.le_of_ble_eq_true rfl⟩ (fun H locs hP hD hS => ?_)
  have hP : va_P D classes [] H := hP
  have hD : va_D A [] := hD
  refine lv_bipush (v := 7) hx hb dX3_hasConstant_4 (by decide) ?_
  refine lv_icmp_eq (tgt := 18) hx hb dX3_hasConstant_6 (by decide) (fun c_1 => ?_) (fun c_1 => ?_)
  · skip
    refine lv_iconst (v := 1) hx hb dX3_hasConstant_18 (by decide) ?_
    refine lv_goto (tgt := 23) hx hb dX3_hasConstant_19 (by decide) ?_
    have e_1 : r_X3_hasConstant p0 = 1 := by simp only [r_X3_hasConstant, if_pos c_1]
    exact ct_zret hx hb hr hlocks hP hD hS rfl (by rw [e_1]) (Or.inr rfl) dX3_hasConstant_23
  · skip
    refine lv_iload_n hx hb dX3_hasConstant_9 rfl (lv_at hl 0 rfl) ?_
    refine ctI_S (As := [.int p0]) (rest := []) (wc := []) (wr := []) ⟨hx, hb, hml, hown, hts⟩ (c_X3_f2Of l D cI cZ p0) (cwS 1 hts (gd_S wm_X3_134 wt_X3_f2Of wz_X3 wo_X3_f2Of) rfl rfl rfl (by decide +kernel) ⟨Nat.le_of_ble_eq_true rfl, Nat.le_of_ble_eq_true rfl⟩) hK hP hD hS hA [] [] rfl rfl (by decide) (by decide) (by decide) rfl rfl hl.1 (Nat.le_of_ble_eq_true rfl) dX3_hasConstant_10 ⟨Nat.le_of_ble_eq_true rfl, Nat.le_of_ble_eq_true rfl⟩ (fun H locs hP hD hS => ?_)
    have hP : va_P D classes [] H := hP
    have hD : va_D A [] := hD
    refine lv_bipush (v := 7) hx hb dX3_hasConstant_13 (by decide) ?_
    refine lv_icmp_ne (tgt := 22) hx hb dX3_hasConstant_15 (by decide) (fun c_2 => ?_) (fun c_2 => ?_)
    · skip
      refine lv_iconst (v := 0) hx hb dX3_hasConstant_22 (by decide) ?_
      have e_1 : r_X3_hasConstant p0 = 0 := by simp only [r_X3_hasConstant, if_neg c_1, if_neg c_2]
      exact ct_zret hx hb hr hlocks hP hD hS rfl (by rw [e_1]) (Or.inl rfl) dX3_hasConstant_23
    · skip
      refine lv_iconst (v := 1) hx hb dX3_hasConstant_18 (by decide) ?_
      refine lv_goto (tgt := 23) hx hb dX3_hasConstant_19 (by decide) ?_
      have e_1 : r_X3_hasConstant p0 = 1 := by simp only [r_X3_hasConstant, if_neg c_1, if_pos c_2]
      exact ct_zret hx hb hr hlocks hP hD hS rfl (by rw [e_1]) (Or.inr rfl) dX3_hasConstant_23
end
end
section
section
set_option maxHeartbeats 4000000 in
set_option maxRecDepth 100000 in
theorem c_X3_store (l : Launch) (D : va_G) (cI cZ : ClassId) (qx : Nat) (qR : Nat) (qC : Nat) (qI : Nat) (qM : Nat) (qW : Nat) (qT : Nat) (qp : Nat) (qc : Nat) (qd : Nat) (qk : Nat) (qO : Nat) (qo : Nat) (fR : Nat → Int32) (fC : Nat → Int32) (fI : Nat → Int32) (fW : Nat → Int32) (fp : Nat → Int32) (fc : Nat → Int32) (fd : Nat → Int32) (fk : Nat → Int32) (fo : Nat → Int32) (rT : Int32) (rL : Int32) (rC : Int32) (rIn : Int32) (cyc : Int32) (wai : Int32) (mar : Int32) (rst : Int32) (hand : Int32) (hov : Int32) (said : Int32) (kept : Int32) (gone : Int32) (p0 : Int32) (p1 : Int32) : CtI l D classes [(cI, .int), (cZ, .boolean)] yX3_store w_X3_store { frames := 1, cells := 0, slots := 0, locals := 22 } [.ref qx, .int p0, .int p1] [(qx, .inr (3, [.ref qR, .ref qC, .ref qI, .ref qM, .ref qT, .ref qO, .int rT, .int rL, .int rC, .int rIn, .int cyc, .int wai])), (qR, .inl (cI, 32, .inl fR)), (qC, .inl (cI, 256, .inl fC)), (qI, .inl (cI, 1024, .inl fI)), (qM, .inr (0, [.ref qW, .int mar, .int rst])), (qW, .inl (cI, 1024, .inl fW)), (qT, .inr (2, [.ref qp, .ref qc, .ref qd, .ref qk, .int hand, .int hov, .int said])), (qp, .inl (cI, 16, .inl fp)), (qc, .inl (cI, 16, .inl fc)), (qd, .inl (cI, 16, .inl fd)), (qk, .inl (cZ, 16, .inl fk)), (qO, .inr (1, [.ref qo, .int kept, .int gone])), (qo, .inl (cI, 500, .inl fo))] [(qx, .inr (3, [.ref qR, .ref qC, .ref qI, .ref qM, .ref qT, .ref qO, .int rT, .int rL, .int rC, .int rIn, .int cyc, .int wai])), (qR, .inl (cI, 32, .inl fR)), (qC, .inl (cI, 256, .inl fC)), (qI, .inl (cI, 1024, .inl (z_X3_keep_qa fI 1024 p0 p1))), (qM, .inr (0, [.ref qW, .int mar, .int rst])), (qW, .inl (cI, 1024, .inl fW)), (qT, .inr (2, [.ref qp, .ref qc, .ref qd, .ref qk, .int hand, .int hov, .int said])), (qp, .inl (cI, 16, .inl fp)), (qc, .inl (cI, 16, .inl fc)), (qd, .inl (cI, 16, .inl fd)), (qk, .inl (cZ, 16, .inl fk)), (qO, .inr (1, [.ref qo, .int kept, .int gone])), (qo, .inl (cI, 500, .inl fo))] (r_X3_keep 1024 p0) := by
  refine CtI.mk (cc := cX3_store) (maxL := 3) (ret := (some .boolean)) (by decide) rfl (Nat.le_of_ble_eq_true rfl) ?_
  intro p e s m below meth c A hBeg ls hl
  obtain ⟨hx, hb, hr, hml, hts0, hown, hlocks, hin, hA, hK, hP, hD, hS⟩ := hBeg
  have hts := fun w h => hts0 w (List.mem_cons_of_mem _ h)
  have hown : s.vm.findClass RX3 = some m.cls := hown
  have hl : lv_has ls 3 [(0, .ref qx), (1, .int p0), (2, .int p1)] := hl
  skip
  refine lv_aload_n hx hb dX3_store_0 rfl (lv_at hl 0 rfl) ?_
  refine va_get (D := D) (ci := 3) (v := .ref qI) (C := RX3) (T := TX3) (N := 12) hx hb hts ilX3 hown hK hP 0 rfl rfl 2 (by decide) (hts _ wf_X3_16) (fun _ h9 => h9) rfl dX3_store_1 ?_
  refine lv_iload_n hx hb dX3_store_4 rfl (lv_at hl 1 rfl) ?_
  refine lv_iload_n hx hb dX3_store_5 rfl (lv_at hl 2 rfl) ?_
  refine ctI_S (As := [.ref qI, .int p0, .int p1]) (rest := []) (wc := [(qI, .inl (cI, 1024, .inl fI))]) (wr := [(qx, .inr (3, [.ref qR, .ref qC, .ref qI, .ref qM, .ref qT, .ref qO, .int rT, .int rL, .int rC, .int rIn, .int cyc, .int wai])), (qR, .inl (cI, 32, .inl fR)), (qC, .inl (cI, 256, .inl fC)), (qM, .inr (0, [.ref qW, .int mar, .int rst])), (qW, .inl (cI, 1024, .inl fW)), (qT, .inr (2, [.ref qp, .ref qc, .ref qd, .ref qk, .int hand, .int hov, .int said])), (qp, .inl (cI, 16, .inl fp)), (qc, .inl (cI, 16, .inl fc)), (qd, .inl (cI, 16, .inl fd)), (qk, .inl (cZ, 16, .inl fk)), (qO, .inr (1, [.ref qo, .int kept, .int gone])), (qo, .inl (cI, 500, .inl fo))]) ⟨hx, hb, hml, hown, hts⟩ (c_X3_keep l D cI cZ qI fI 1024 p0 p1 (by decide)) (cwS 3 hts (gd_S wm_X3_40 wt_X3_keep wz_X3 wo_X3_keep) rfl rfl rfl (by decide +kernel) ⟨Nat.le_of_ble_eq_true rfl, Nat.le_of_ble_eq_true rfl⟩) hK hP hD hS hA [3] [0, 1, 2, 4, 5, 6, 7, 8, 9, 10, 11, 12] rfl rfl (by decide) (by decide) (by decide) rfl rfl hl.1 (Nat.le_of_ble_eq_true rfl) dX3_store_6 ⟨Nat.le_of_ble_eq_true rfl, Nat.le_of_ble_eq_true rfl⟩ (fun H locs hP hD hS => ?_)
  have hP : va_P D classes [(qx, .inr (3, [.ref qR, .ref qC, .ref qI, .ref qM, .ref qT, .ref qO, .int rT, .int rL, .int rC, .int rIn, .int cyc, .int wai])), (qR, .inl (cI, 32, .inl fR)), (qC, .inl (cI, 256, .inl fC)), (qM, .inr (0, [.ref qW, .int mar, .int rst])), (qW, .inl (cI, 1024, .inl fW)), (qT, .inr (2, [.ref qp, .ref qc, .ref qd, .ref qk, .int hand, .int hov, .int said])), (qp, .inl (cI, 16, .inl fp)), (qc, .inl (cI, 16, .inl fc)), (qd, .inl (cI, 16, .inl fd)), (qk, .inl (cZ, 16, .inl fk)), (qO, .inr (1, [.ref qo, .int kept, .int gone])), (qo, .inl (cI, 500, .inl fo)), (qI, .inl (cI, 1024, .inl (z_X3_keep_qa fI 1024 p0 p1)))] H := hP
  have hD : va_D A [(qx, .inr (3, [.ref qR, .ref qC, .ref qI, .ref qM, .ref qT, .ref qO, .int rT, .int rL, .int rC, .int rIn, .int cyc, .int wai])), (qR, .inl (cI, 32, .inl fR)), (qC, .inl (cI, 256, .inl fC)), (qM, .inr (0, [.ref qW, .int mar, .int rst])), (qW, .inl (cI, 1024, .inl fW)), (qT, .inr (2, [.ref qp, .ref qc, .ref qd, .ref qk, .int hand, .int hov, .int said])), (qp, .inl (cI, 16, .inl fp)), (qc, .inl (cI, 16, .inl fc)), (qd, .inl (cI, 16, .inl fd)), (qk, .inl (cZ, 16, .inl fk)), (qO, .inr (1, [.ref qo, .int kept, .int gone])), (qo, .inl (cI, 500, .inl fo)), (qI, .inl (cI, 1024, .inl (z_X3_keep_qa fI 1024 p0 p1)))] := hD
  have hP := hP.sub (ws' := [(qx, .inr (3, [.ref qR, .ref qC, .ref qI, .ref qM, .ref qT, .ref qO, .int rT, .int rL, .int rC, .int rIn, .int cyc, .int wai])), (qR, .inl (cI, 32, .inl fR)), (qC, .inl (cI, 256, .inl fC)), (qI, .inl (cI, 1024, .inl (z_X3_keep_qa fI 1024 p0 p1))), (qM, .inr (0, [.ref qW, .int mar, .int rst])), (qW, .inl (cI, 1024, .inl fW)), (qT, .inr (2, [.ref qp, .ref qc, .ref qd, .ref qk, .int hand, .int hov, .int said])), (qp, .inl (cI, 16, .inl fp)), (qc, .inl (cI, 16, .inl fc)), (qd, .inl (cI, 16, .inl fd)), (qk, .inl (cZ, 16, .inl fk)), (qO, .inr (1, [.ref qo, .int kept, .int gone])), (qo, .inl (cI, 500, .inl fo))]) [0, 1, 2, 12, 3, 4, 5, 6, 7, 8, 9, 10, 11] rfl
  have hD := hD.sub (ws' := [(qx, .inr (3, [.ref qR, .ref qC, .ref qI, .ref qM, .ref qT, .ref qO, .int rT, .int rL, .int rC, .int rIn, .int cyc, .int wai])), (qR, .inl (cI, 32, .inl fR)), (qC, .inl (cI, 256, .inl fC)), (qI, .inl (cI, 1024, .inl (z_X3_keep_qa fI 1024 p0 p1))), (qM, .inr (0, [.ref qW, .int mar, .int rst])), (qW, .inl (cI, 1024, .inl fW)), (qT, .inr (2, [.ref qp, .ref qc, .ref qd, .ref qk, .int hand, .int hov, .int said])), (qp, .inl (cI, 16, .inl fp)), (qc, .inl (cI, 16, .inl fc)), (qd, .inl (cI, 16, .inl fd)), (qk, .inl (cZ, 16, .inl fk)), (qO, .inr (1, [.ref qo, .int kept, .int gone])), (qo, .inl (cI, 500, .inl fo))]) [0, 1, 2, 12, 3, 4, 5, 6, 7, 8, 9, 10, 11] (by decide) rfl
  exact ct_zret hx hb hr hlocks hP hD hS rfl rfl (b_X3_keep _ _) dX3_store_9
set_option maxHeartbeats 4000000 in
set_option maxRecDepth 100000 in
theorem c_X3_constant (l : Launch) (D : va_G) (cI cZ : ClassId) (qx : Nat) (qR : Nat) (qC : Nat) (qI : Nat) (qM : Nat) (qW : Nat) (qT : Nat) (qp : Nat) (qc : Nat) (qd : Nat) (qk : Nat) (qO : Nat) (qo : Nat) (fR : Nat → Int32) (fC : Nat → Int32) (fI : Nat → Int32) (fW : Nat → Int32) (fp : Nat → Int32) (fc : Nat → Int32) (fd : Nat → Int32) (fk : Nat → Int32) (fo : Nat → Int32) (rT : Int32) (rL : Int32) (rC : Int32) (rIn : Int32) (cyc : Int32) (wai : Int32) (mar : Int32) (rst : Int32) (hand : Int32) (hov : Int32) (said : Int32) (kept : Int32) (gone : Int32) (p0 : Int32) (p1 : Int32) : CtI l D classes [(cI, .int), (cZ, .boolean)] yX3_constant w_X3_constant { frames := 1, cells := 0, slots := 0, locals := 22 } [.ref qx, .int p0, .int p1] [(qx, .inr (3, [.ref qR, .ref qC, .ref qI, .ref qM, .ref qT, .ref qO, .int rT, .int rL, .int rC, .int rIn, .int cyc, .int wai])), (qR, .inl (cI, 32, .inl fR)), (qC, .inl (cI, 256, .inl fC)), (qI, .inl (cI, 1024, .inl fI)), (qM, .inr (0, [.ref qW, .int mar, .int rst])), (qW, .inl (cI, 1024, .inl fW)), (qT, .inr (2, [.ref qp, .ref qc, .ref qd, .ref qk, .int hand, .int hov, .int said])), (qp, .inl (cI, 16, .inl fp)), (qc, .inl (cI, 16, .inl fc)), (qd, .inl (cI, 16, .inl fd)), (qk, .inl (cZ, 16, .inl fk)), (qO, .inr (1, [.ref qo, .int kept, .int gone])), (qo, .inl (cI, 500, .inl fo))] [(qx, .inr (3, [.ref qR, .ref qC, .ref qI, .ref qM, .ref qT, .ref qO, .int rT, .int rL, .int rC, .int rIn, .int cyc, .int wai])), (qR, .inl (cI, 32, .inl fR)), (qC, .inl (cI, 256, .inl (z_X3_keep_qa fC 256 p0 (p1 &&& 65535)))), (qI, .inl (cI, 1024, .inl fI)), (qM, .inr (0, [.ref qW, .int mar, .int rst])), (qW, .inl (cI, 1024, .inl fW)), (qT, .inr (2, [.ref qp, .ref qc, .ref qd, .ref qk, .int hand, .int hov, .int said])), (qp, .inl (cI, 16, .inl fp)), (qc, .inl (cI, 16, .inl fc)), (qd, .inl (cI, 16, .inl fd)), (qk, .inl (cZ, 16, .inl fk)), (qO, .inr (1, [.ref qo, .int kept, .int gone])), (qo, .inl (cI, 500, .inl fo))] (r_X3_keep 256 p0) := by
  refine CtI.mk (cc := cX3_constant) (maxL := 3) (ret := (some .boolean)) (by decide) rfl (Nat.le_of_ble_eq_true rfl) ?_
  intro p e s m below meth c A hBeg ls hl
  obtain ⟨hx, hb, hr, hml, hts0, hown, hlocks, hin, hA, hK, hP, hD, hS⟩ := hBeg
  have hts := fun w h => hts0 w (List.mem_cons_of_mem _ h)
  have hown : s.vm.findClass RX3 = some m.cls := hown
  have hl : lv_has ls 3 [(0, .ref qx), (1, .int p0), (2, .int p1)] := hl
  skip
  refine lv_aload_n hx hb dX3_constant_0 rfl (lv_at hl 0 rfl) ?_
  refine va_get (D := D) (ci := 3) (v := .ref qC) (C := RX3) (T := TX3) (N := 12) hx hb hts ilX3 hown hK hP 0 rfl rfl 1 (by decide) (hts _ wf_X3_13) (fun _ h9 => h9) rfl dX3_constant_1 ?_
  refine lv_iload_n hx hb dX3_constant_4 rfl (lv_at hl 1 rfl) ?_
  refine lv_iload_n hx hb dX3_constant_5 rfl (lv_at hl 2 rfl) ?_
  refine lv_ldc (v := 65535) hx hb hown (hts _ wk_X3_44) dX3_constant_6 ?_
  refine lv_iand hx hb dX3_constant_8 ?_
  refine ctI_S (As := [.ref qC, .int p0, .int (p1 &&& 65535)]) (rest := []) (wc := [(qC, .inl (cI, 256, .inl fC))]) (wr := [(qx, .inr (3, [.ref qR, .ref qC, .ref qI, .ref qM, .ref qT, .ref qO, .int rT, .int rL, .int rC, .int rIn, .int cyc, .int wai])), (qR, .inl (cI, 32, .inl fR)), (qI, .inl (cI, 1024, .inl fI)), (qM, .inr (0, [.ref qW, .int mar, .int rst])), (qW, .inl (cI, 1024, .inl fW)), (qT, .inr (2, [.ref qp, .ref qc, .ref qd, .ref qk, .int hand, .int hov, .int said])), (qp, .inl (cI, 16, .inl fp)), (qc, .inl (cI, 16, .inl fc)), (qd, .inl (cI, 16, .inl fd)), (qk, .inl (cZ, 16, .inl fk)), (qO, .inr (1, [.ref qo, .int kept, .int gone])), (qo, .inl (cI, 500, .inl fo))]) ⟨hx, hb, hml, hown, hts⟩ (c_X3_keep l D cI cZ qC fC 256 p0 (p1 &&& 65535) (by decide)) (cwS 3 hts (gd_S wm_X3_40 wt_X3_keep wz_X3 wo_X3_keep) rfl rfl rfl (by decide +kernel) ⟨Nat.le_of_ble_eq_true rfl, Nat.le_of_ble_eq_true rfl⟩) hK hP hD hS hA [2] [0, 1, 3, 4, 5, 6, 7, 8, 9, 10, 11, 12] rfl rfl (by decide) (by decide) (by decide) rfl rfl hl.1 (Nat.le_of_ble_eq_true rfl) dX3_constant_9 ⟨Nat.le_of_ble_eq_true rfl, Nat.le_of_ble_eq_true rfl⟩ (fun H locs hP hD hS => ?_)
  have hP : va_P D classes [(qx, .inr (3, [.ref qR, .ref qC, .ref qI, .ref qM, .ref qT, .ref qO, .int rT, .int rL, .int rC, .int rIn, .int cyc, .int wai])), (qR, .inl (cI, 32, .inl fR)), (qI, .inl (cI, 1024, .inl fI)), (qM, .inr (0, [.ref qW, .int mar, .int rst])), (qW, .inl (cI, 1024, .inl fW)), (qT, .inr (2, [.ref qp, .ref qc, .ref qd, .ref qk, .int hand, .int hov, .int said])), (qp, .inl (cI, 16, .inl fp)), (qc, .inl (cI, 16, .inl fc)), (qd, .inl (cI, 16, .inl fd)), (qk, .inl (cZ, 16, .inl fk)), (qO, .inr (1, [.ref qo, .int kept, .int gone])), (qo, .inl (cI, 500, .inl fo)), (qC, .inl (cI, 256, .inl (z_X3_keep_qa fC 256 p0 (p1 &&& 65535))))] H := hP
  have hD : va_D A [(qx, .inr (3, [.ref qR, .ref qC, .ref qI, .ref qM, .ref qT, .ref qO, .int rT, .int rL, .int rC, .int rIn, .int cyc, .int wai])), (qR, .inl (cI, 32, .inl fR)), (qI, .inl (cI, 1024, .inl fI)), (qM, .inr (0, [.ref qW, .int mar, .int rst])), (qW, .inl (cI, 1024, .inl fW)), (qT, .inr (2, [.ref qp, .ref qc, .ref qd, .ref qk, .int hand, .int hov, .int said])), (qp, .inl (cI, 16, .inl fp)), (qc, .inl (cI, 16, .inl fc)), (qd, .inl (cI, 16, .inl fd)), (qk, .inl (cZ, 16, .inl fk)), (qO, .inr (1, [.ref qo, .int kept, .int gone])), (qo, .inl (cI, 500, .inl fo)), (qC, .inl (cI, 256, .inl (z_X3_keep_qa fC 256 p0 (p1 &&& 65535))))] := hD
  have hP := hP.sub (ws' := [(qx, .inr (3, [.ref qR, .ref qC, .ref qI, .ref qM, .ref qT, .ref qO, .int rT, .int rL, .int rC, .int rIn, .int cyc, .int wai])), (qR, .inl (cI, 32, .inl fR)), (qC, .inl (cI, 256, .inl (z_X3_keep_qa fC 256 p0 (p1 &&& 65535)))), (qI, .inl (cI, 1024, .inl fI)), (qM, .inr (0, [.ref qW, .int mar, .int rst])), (qW, .inl (cI, 1024, .inl fW)), (qT, .inr (2, [.ref qp, .ref qc, .ref qd, .ref qk, .int hand, .int hov, .int said])), (qp, .inl (cI, 16, .inl fp)), (qc, .inl (cI, 16, .inl fc)), (qd, .inl (cI, 16, .inl fd)), (qk, .inl (cZ, 16, .inl fk)), (qO, .inr (1, [.ref qo, .int kept, .int gone])), (qo, .inl (cI, 500, .inl fo))]) [0, 1, 12, 2, 3, 4, 5, 6, 7, 8, 9, 10, 11] rfl
  have hD := hD.sub (ws' := [(qx, .inr (3, [.ref qR, .ref qC, .ref qI, .ref qM, .ref qT, .ref qO, .int rT, .int rL, .int rC, .int rIn, .int cyc, .int wai])), (qR, .inl (cI, 32, .inl fR)), (qC, .inl (cI, 256, .inl (z_X3_keep_qa fC 256 p0 (p1 &&& 65535)))), (qI, .inl (cI, 1024, .inl fI)), (qM, .inr (0, [.ref qW, .int mar, .int rst])), (qW, .inl (cI, 1024, .inl fW)), (qT, .inr (2, [.ref qp, .ref qc, .ref qd, .ref qk, .int hand, .int hov, .int said])), (qp, .inl (cI, 16, .inl fp)), (qc, .inl (cI, 16, .inl fc)), (qd, .inl (cI, 16, .inl fd)), (qk, .inl (cZ, 16, .inl fk)), (qO, .inr (1, [.ref qo, .int kept, .int gone])), (qo, .inl (cI, 500, .inl fo))]) [0, 1, 12, 2, 3, 4, 5, 6, 7, 8, 9, 10, 11] (by decide) rfl
  exact ct_zret hx hb hr hlocks hP hD hS rfl rfl (b_X3_keep _ _) dX3_constant_12
set_option maxHeartbeats 4000000 in
set_option maxRecDepth 100000 in
theorem c_X3_poke (l : Launch) (D : va_G) (cI cZ : ClassId) (qx : Nat) (qR : Nat) (qC : Nat) (qI : Nat) (qM : Nat) (qW : Nat) (qT : Nat) (qp : Nat) (qc : Nat) (qd : Nat) (qk : Nat) (qO : Nat) (qo : Nat) (fR : Nat → Int32) (fC : Nat → Int32) (fI : Nat → Int32) (fW : Nat → Int32) (fp : Nat → Int32) (fc : Nat → Int32) (fd : Nat → Int32) (fk : Nat → Int32) (fo : Nat → Int32) (rT : Int32) (rL : Int32) (rC : Int32) (rIn : Int32) (cyc : Int32) (wai : Int32) (mar : Int32) (rst : Int32) (hand : Int32) (hov : Int32) (said : Int32) (kept : Int32) (gone : Int32) (p0 : Int32) (p1 : Int32) : CtI l D classes [(cI, .int), (cZ, .boolean)] yX3_poke w_X3_poke { frames := 1, cells := 0, slots := 0, locals := 22 } [.ref qx, .int p0, .int p1] [(qx, .inr (3, [.ref qR, .ref qC, .ref qI, .ref qM, .ref qT, .ref qO, .int rT, .int rL, .int rC, .int rIn, .int cyc, .int wai])), (qR, .inl (cI, 32, .inl fR)), (qC, .inl (cI, 256, .inl fC)), (qI, .inl (cI, 1024, .inl fI)), (qM, .inr (0, [.ref qW, .int mar, .int rst])), (qW, .inl (cI, 1024, .inl fW)), (qT, .inr (2, [.ref qp, .ref qc, .ref qd, .ref qk, .int hand, .int hov, .int said])), (qp, .inl (cI, 16, .inl fp)), (qc, .inl (cI, 16, .inl fc)), (qd, .inl (cI, 16, .inl fd)), (qk, .inl (cZ, 16, .inl fk)), (qO, .inr (1, [.ref qo, .int kept, .int gone])), (qo, .inl (cI, 500, .inl fo))] [(qx, .inr (3, [.ref qR, .ref qC, .ref qI, .ref qM, .ref qT, .ref qO, .int rT, .int rL, .int rC, .int rIn, .int cyc, .int wai])), (qR, .inl (cI, 32, .inl fR)), (qC, .inl (cI, 256, .inl fC)), (qI, .inl (cI, 1024, .inl fI)), (qM, .inr (0, [.ref qW, .int mar, .int rst])), (qW, .inl (cI, 1024, .inl (z_X3_keep_qa fW 1024 p0 (p1 &&& 65535)))), (qT, .inr (2, [.ref qp, .ref qc, .ref qd, .ref qk, .int hand, .int hov, .int said])), (qp, .inl (cI, 16, .inl fp)), (qc, .inl (cI, 16, .inl fc)), (qd, .inl (cI, 16, .inl fd)), (qk, .inl (cZ, 16, .inl fk)), (qO, .inr (1, [.ref qo, .int kept, .int gone])), (qo, .inl (cI, 500, .inl fo))] (r_X3_keep 1024 p0) := by
  refine CtI.mk (cc := cX3_poke) (maxL := 3) (ret := (some .boolean)) (by decide) rfl (Nat.le_of_ble_eq_true rfl) ?_
  intro p e s m below meth c A hBeg ls hl
  obtain ⟨hx, hb, hr, hml, hts0, hown, hlocks, hin, hA, hK, hP, hD, hS⟩ := hBeg
  have hts := fun w h => hts0 w (List.mem_cons_of_mem _ h)
  have hown : s.vm.findClass RX3 = some m.cls := hown
  have hl : lv_has ls 3 [(0, .ref qx), (1, .int p0), (2, .int p1)] := hl
  skip
  refine lv_aload_n hx hb dX3_poke_0 rfl (lv_at hl 0 rfl) ?_
  refine va_get (D := D) (ci := 3) (v := .ref qM) (C := RX3) (T := TX3) (N := 12) hx hb hts ilX3 hown hK hP 0 rfl rfl 3 (by decide) (hts _ wf_X3_22) (fun _ h9 => h9) rfl dX3_poke_1 ?_
  refine va_get (D := D) (ci := 0) (v := .ref qW) (C := RX0) (T := TX0) (N := 3) hx hb hts ilX0 hown hK hP 4 rfl rfl 0 (by decide) (hts _ wf_X3_45) (fun _ h9 => h9) rfl dX3_poke_4 ?_
  refine lv_iload_n hx hb dX3_poke_7 rfl (lv_at hl 1 rfl) ?_
  refine lv_iload_n hx hb dX3_poke_8 rfl (lv_at hl 2 rfl) ?_
  refine lv_ldc (v := 65535) hx hb hown (hts _ wk_X3_44) dX3_poke_9 ?_
  refine lv_iand hx hb dX3_poke_11 ?_
  refine ctI_S (As := [.ref qW, .int p0, .int (p1 &&& 65535)]) (rest := []) (wc := [(qW, .inl (cI, 1024, .inl fW))]) (wr := [(qx, .inr (3, [.ref qR, .ref qC, .ref qI, .ref qM, .ref qT, .ref qO, .int rT, .int rL, .int rC, .int rIn, .int cyc, .int wai])), (qR, .inl (cI, 32, .inl fR)), (qC, .inl (cI, 256, .inl fC)), (qI, .inl (cI, 1024, .inl fI)), (qM, .inr (0, [.ref qW, .int mar, .int rst])), (qT, .inr (2, [.ref qp, .ref qc, .ref qd, .ref qk, .int hand, .int hov, .int said])), (qp, .inl (cI, 16, .inl fp)), (qc, .inl (cI, 16, .inl fc)), (qd, .inl (cI, 16, .inl fd)), (qk, .inl (cZ, 16, .inl fk)), (qO, .inr (1, [.ref qo, .int kept, .int gone])), (qo, .inl (cI, 500, .inl fo))]) ⟨hx, hb, hml, hown, hts⟩ (c_X3_keep l D cI cZ qW fW 1024 p0 (p1 &&& 65535) (by decide)) (cwS 3 hts (gd_S wm_X3_40 wt_X3_keep wz_X3 wo_X3_keep) rfl rfl rfl (by decide +kernel) ⟨Nat.le_of_ble_eq_true rfl, Nat.le_of_ble_eq_true rfl⟩) hK hP hD hS hA [5] [0, 1, 2, 3, 4, 6, 7, 8, 9, 10, 11, 12] rfl rfl (by decide) (by decide) (by decide) rfl rfl hl.1 (Nat.le_of_ble_eq_true rfl) dX3_poke_12 ⟨Nat.le_of_ble_eq_true rfl, Nat.le_of_ble_eq_true rfl⟩ (fun H locs hP hD hS => ?_)
  have hP : va_P D classes [(qx, .inr (3, [.ref qR, .ref qC, .ref qI, .ref qM, .ref qT, .ref qO, .int rT, .int rL, .int rC, .int rIn, .int cyc, .int wai])), (qR, .inl (cI, 32, .inl fR)), (qC, .inl (cI, 256, .inl fC)), (qI, .inl (cI, 1024, .inl fI)), (qM, .inr (0, [.ref qW, .int mar, .int rst])), (qT, .inr (2, [.ref qp, .ref qc, .ref qd, .ref qk, .int hand, .int hov, .int said])), (qp, .inl (cI, 16, .inl fp)), (qc, .inl (cI, 16, .inl fc)), (qd, .inl (cI, 16, .inl fd)), (qk, .inl (cZ, 16, .inl fk)), (qO, .inr (1, [.ref qo, .int kept, .int gone])), (qo, .inl (cI, 500, .inl fo)), (qW, .inl (cI, 1024, .inl (z_X3_keep_qa fW 1024 p0 (p1 &&& 65535))))] H := hP
  have hD : va_D A [(qx, .inr (3, [.ref qR, .ref qC, .ref qI, .ref qM, .ref qT, .ref qO, .int rT, .int rL, .int rC, .int rIn, .int cyc, .int wai])), (qR, .inl (cI, 32, .inl fR)), (qC, .inl (cI, 256, .inl fC)), (qI, .inl (cI, 1024, .inl fI)), (qM, .inr (0, [.ref qW, .int mar, .int rst])), (qT, .inr (2, [.ref qp, .ref qc, .ref qd, .ref qk, .int hand, .int hov, .int said])), (qp, .inl (cI, 16, .inl fp)), (qc, .inl (cI, 16, .inl fc)), (qd, .inl (cI, 16, .inl fd)), (qk, .inl (cZ, 16, .inl fk)), (qO, .inr (1, [.ref qo, .int kept, .int gone])), (qo, .inl (cI, 500, .inl fo)), (qW, .inl (cI, 1024, .inl (z_X3_keep_qa fW 1024 p0 (p1 &&& 65535))))] := hD
  have hP := hP.sub (ws' := [(qx, .inr (3, [.ref qR, .ref qC, .ref qI, .ref qM, .ref qT, .ref qO, .int rT, .int rL, .int rC, .int rIn, .int cyc, .int wai])), (qR, .inl (cI, 32, .inl fR)), (qC, .inl (cI, 256, .inl fC)), (qI, .inl (cI, 1024, .inl fI)), (qM, .inr (0, [.ref qW, .int mar, .int rst])), (qW, .inl (cI, 1024, .inl (z_X3_keep_qa fW 1024 p0 (p1 &&& 65535)))), (qT, .inr (2, [.ref qp, .ref qc, .ref qd, .ref qk, .int hand, .int hov, .int said])), (qp, .inl (cI, 16, .inl fp)), (qc, .inl (cI, 16, .inl fc)), (qd, .inl (cI, 16, .inl fd)), (qk, .inl (cZ, 16, .inl fk)), (qO, .inr (1, [.ref qo, .int kept, .int gone])), (qo, .inl (cI, 500, .inl fo))]) [0, 1, 2, 3, 4, 12, 5, 6, 7, 8, 9, 10, 11] rfl
  have hD := hD.sub (ws' := [(qx, .inr (3, [.ref qR, .ref qC, .ref qI, .ref qM, .ref qT, .ref qO, .int rT, .int rL, .int rC, .int rIn, .int cyc, .int wai])), (qR, .inl (cI, 32, .inl fR)), (qC, .inl (cI, 256, .inl fC)), (qI, .inl (cI, 1024, .inl fI)), (qM, .inr (0, [.ref qW, .int mar, .int rst])), (qW, .inl (cI, 1024, .inl (z_X3_keep_qa fW 1024 p0 (p1 &&& 65535)))), (qT, .inr (2, [.ref qp, .ref qc, .ref qd, .ref qk, .int hand, .int hov, .int said])), (qp, .inl (cI, 16, .inl fp)), (qc, .inl (cI, 16, .inl fc)), (qd, .inl (cI, 16, .inl fd)), (qk, .inl (cZ, 16, .inl fk)), (qO, .inr (1, [.ref qo, .int kept, .int gone])), (qo, .inl (cI, 500, .inl fo))]) [0, 1, 2, 3, 4, 12, 5, 6, 7, 8, 9, 10, 11] (by decide) rfl
  exact ct_zret hx hb hr hlocks hP hD hS rfl rfl (b_X3_keep _ _) dX3_poke_15
set_option maxHeartbeats 4000000 in
set_option maxRecDepth 100000 in
theorem c_X3_set (l : Launch) (D : va_G) (cI cZ : ClassId) (qx : Nat) (qR : Nat) (qC : Nat) (qI : Nat) (qM : Nat) (qW : Nat) (qT : Nat) (qp : Nat) (qc : Nat) (qd : Nat) (qk : Nat) (qO : Nat) (qo : Nat) (fR : Nat → Int32) (fC : Nat → Int32) (fI : Nat → Int32) (fW : Nat → Int32) (fp : Nat → Int32) (fc : Nat → Int32) (fd : Nat → Int32) (fk : Nat → Int32) (fo : Nat → Int32) (rT : Int32) (rL : Int32) (rC : Int32) (rIn : Int32) (cyc : Int32) (wai : Int32) (mar : Int32) (rst : Int32) (hand : Int32) (hov : Int32) (said : Int32) (kept : Int32) (gone : Int32) (p0 : Int32) (p1 : Int32) : CtI l D classes [(cI, .int), (cZ, .boolean)] yX3_set w_X3_set { frames := 1, cells := 0, slots := 0, locals := 22 } [.ref qx, .int p0, .int p1] [(qx, .inr (3, [.ref qR, .ref qC, .ref qI, .ref qM, .ref qT, .ref qO, .int rT, .int rL, .int rC, .int rIn, .int cyc, .int wai])), (qR, .inl (cI, 32, .inl fR)), (qC, .inl (cI, 256, .inl fC)), (qI, .inl (cI, 1024, .inl fI)), (qM, .inr (0, [.ref qW, .int mar, .int rst])), (qW, .inl (cI, 1024, .inl fW)), (qT, .inr (2, [.ref qp, .ref qc, .ref qd, .ref qk, .int hand, .int hov, .int said])), (qp, .inl (cI, 16, .inl fp)), (qc, .inl (cI, 16, .inl fc)), (qd, .inl (cI, 16, .inl fd)), (qk, .inl (cZ, 16, .inl fk)), (qO, .inr (1, [.ref qo, .int kept, .int gone])), (qo, .inl (cI, 500, .inl fo))] [(qx, .inr (3, [.ref qR, .ref qC, .ref qI, .ref qM, .ref qT, .ref qO, .int rT, .int rL, .int rC, .int rIn, .int cyc, .int wai])), (qR, .inl (cI, 32, .inl (z_X3_keep_qa fR 32 p0 (p1 &&& 65535)))), (qC, .inl (cI, 256, .inl fC)), (qI, .inl (cI, 1024, .inl fI)), (qM, .inr (0, [.ref qW, .int mar, .int rst])), (qW, .inl (cI, 1024, .inl fW)), (qT, .inr (2, [.ref qp, .ref qc, .ref qd, .ref qk, .int hand, .int hov, .int said])), (qp, .inl (cI, 16, .inl fp)), (qc, .inl (cI, 16, .inl fc)), (qd, .inl (cI, 16, .inl fd)), (qk, .inl (cZ, 16, .inl fk)), (qO, .inr (1, [.ref qo, .int kept, .int gone])), (qo, .inl (cI, 500, .inl fo))] (r_X3_keep 32 p0) := by
  refine CtI.mk (cc := cX3_set) (maxL := 3) (ret := (some .boolean)) (by decide) rfl (Nat.le_of_ble_eq_true rfl) ?_
  intro p e s m below meth c A hBeg ls hl
  obtain ⟨hx, hb, hr, hml, hts0, hown, hlocks, hin, hA, hK, hP, hD, hS⟩ := hBeg
  have hts := fun w h => hts0 w (List.mem_cons_of_mem _ h)
  have hown : s.vm.findClass RX3 = some m.cls := hown
  have hl : lv_has ls 3 [(0, .ref qx), (1, .int p0), (2, .int p1)] := hl
  skip
  refine lv_aload_n hx hb dX3_set_0 rfl (lv_at hl 0 rfl) ?_
  refine va_get (D := D) (ci := 3) (v := .ref qR) (C := RX3) (T := TX3) (N := 12) hx hb hts ilX3 hown hK hP 0 rfl rfl 0 (by decide) (hts _ wf_X3_9) (fun _ h9 => h9) rfl dX3_set_1 ?_
  refine lv_iload_n hx hb dX3_set_4 rfl (lv_at hl 1 rfl) ?_
  refine lv_iload_n hx hb dX3_set_5 rfl (lv_at hl 2 rfl) ?_
  refine lv_ldc (v := 65535) hx hb hown (hts _ wk_X3_44) dX3_set_6 ?_
  refine lv_iand hx hb dX3_set_8 ?_
  refine ctI_S (As := [.ref qR, .int p0, .int (p1 &&& 65535)]) (rest := []) (wc := [(qR, .inl (cI, 32, .inl fR))]) (wr := [(qx, .inr (3, [.ref qR, .ref qC, .ref qI, .ref qM, .ref qT, .ref qO, .int rT, .int rL, .int rC, .int rIn, .int cyc, .int wai])), (qC, .inl (cI, 256, .inl fC)), (qI, .inl (cI, 1024, .inl fI)), (qM, .inr (0, [.ref qW, .int mar, .int rst])), (qW, .inl (cI, 1024, .inl fW)), (qT, .inr (2, [.ref qp, .ref qc, .ref qd, .ref qk, .int hand, .int hov, .int said])), (qp, .inl (cI, 16, .inl fp)), (qc, .inl (cI, 16, .inl fc)), (qd, .inl (cI, 16, .inl fd)), (qk, .inl (cZ, 16, .inl fk)), (qO, .inr (1, [.ref qo, .int kept, .int gone])), (qo, .inl (cI, 500, .inl fo))]) ⟨hx, hb, hml, hown, hts⟩ (c_X3_keep l D cI cZ qR fR 32 p0 (p1 &&& 65535) (by decide)) (cwS 3 hts (gd_S wm_X3_40 wt_X3_keep wz_X3 wo_X3_keep) rfl rfl rfl (by decide +kernel) ⟨Nat.le_of_ble_eq_true rfl, Nat.le_of_ble_eq_true rfl⟩) hK hP hD hS hA [1] [0, 2, 3, 4, 5, 6, 7, 8, 9, 10, 11, 12] rfl rfl (by decide) (by decide) (by decide) rfl rfl hl.1 (Nat.le_of_ble_eq_true rfl) dX3_set_9 ⟨Nat.le_of_ble_eq_true rfl, Nat.le_of_ble_eq_true rfl⟩ (fun H locs hP hD hS => ?_)
  have hP : va_P D classes [(qx, .inr (3, [.ref qR, .ref qC, .ref qI, .ref qM, .ref qT, .ref qO, .int rT, .int rL, .int rC, .int rIn, .int cyc, .int wai])), (qC, .inl (cI, 256, .inl fC)), (qI, .inl (cI, 1024, .inl fI)), (qM, .inr (0, [.ref qW, .int mar, .int rst])), (qW, .inl (cI, 1024, .inl fW)), (qT, .inr (2, [.ref qp, .ref qc, .ref qd, .ref qk, .int hand, .int hov, .int said])), (qp, .inl (cI, 16, .inl fp)), (qc, .inl (cI, 16, .inl fc)), (qd, .inl (cI, 16, .inl fd)), (qk, .inl (cZ, 16, .inl fk)), (qO, .inr (1, [.ref qo, .int kept, .int gone])), (qo, .inl (cI, 500, .inl fo)), (qR, .inl (cI, 32, .inl (z_X3_keep_qa fR 32 p0 (p1 &&& 65535))))] H := hP
  have hD : va_D A [(qx, .inr (3, [.ref qR, .ref qC, .ref qI, .ref qM, .ref qT, .ref qO, .int rT, .int rL, .int rC, .int rIn, .int cyc, .int wai])), (qC, .inl (cI, 256, .inl fC)), (qI, .inl (cI, 1024, .inl fI)), (qM, .inr (0, [.ref qW, .int mar, .int rst])), (qW, .inl (cI, 1024, .inl fW)), (qT, .inr (2, [.ref qp, .ref qc, .ref qd, .ref qk, .int hand, .int hov, .int said])), (qp, .inl (cI, 16, .inl fp)), (qc, .inl (cI, 16, .inl fc)), (qd, .inl (cI, 16, .inl fd)), (qk, .inl (cZ, 16, .inl fk)), (qO, .inr (1, [.ref qo, .int kept, .int gone])), (qo, .inl (cI, 500, .inl fo)), (qR, .inl (cI, 32, .inl (z_X3_keep_qa fR 32 p0 (p1 &&& 65535))))] := hD
  have hP := hP.sub (ws' := [(qx, .inr (3, [.ref qR, .ref qC, .ref qI, .ref qM, .ref qT, .ref qO, .int rT, .int rL, .int rC, .int rIn, .int cyc, .int wai])), (qR, .inl (cI, 32, .inl (z_X3_keep_qa fR 32 p0 (p1 &&& 65535)))), (qC, .inl (cI, 256, .inl fC)), (qI, .inl (cI, 1024, .inl fI)), (qM, .inr (0, [.ref qW, .int mar, .int rst])), (qW, .inl (cI, 1024, .inl fW)), (qT, .inr (2, [.ref qp, .ref qc, .ref qd, .ref qk, .int hand, .int hov, .int said])), (qp, .inl (cI, 16, .inl fp)), (qc, .inl (cI, 16, .inl fc)), (qd, .inl (cI, 16, .inl fd)), (qk, .inl (cZ, 16, .inl fk)), (qO, .inr (1, [.ref qo, .int kept, .int gone])), (qo, .inl (cI, 500, .inl fo))]) [0, 12, 1, 2, 3, 4, 5, 6, 7, 8, 9, 10, 11] rfl
  have hD := hD.sub (ws' := [(qx, .inr (3, [.ref qR, .ref qC, .ref qI, .ref qM, .ref qT, .ref qO, .int rT, .int rL, .int rC, .int rIn, .int cyc, .int wai])), (qR, .inl (cI, 32, .inl (z_X3_keep_qa fR 32 p0 (p1 &&& 65535)))), (qC, .inl (cI, 256, .inl fC)), (qI, .inl (cI, 1024, .inl fI)), (qM, .inr (0, [.ref qW, .int mar, .int rst])), (qW, .inl (cI, 1024, .inl fW)), (qT, .inr (2, [.ref qp, .ref qc, .ref qd, .ref qk, .int hand, .int hov, .int said])), (qp, .inl (cI, 16, .inl fp)), (qc, .inl (cI, 16, .inl fc)), (qd, .inl (cI, 16, .inl fd)), (qk, .inl (cZ, 16, .inl fk)), (qO, .inr (1, [.ref qo, .int kept, .int gone])), (qo, .inl (cI, 500, .inl fo))]) [0, 12, 1, 2, 3, 4, 5, 6, 7, 8, 9, 10, 11] (by decide) rfl
  exact ct_zret hx hb hr hlocks hP hD hS rfl rfl (b_X3_keep _ _) dX3_set_12
set_option maxHeartbeats 4000000 in
set_option maxRecDepth 100000 in
theorem c_X3_port (l : Launch) (D : va_G) (cI cZ : ClassId) (qx : Nat) (qR : Nat) (qC : Nat) (qI : Nat) (qM : Nat) (qW : Nat) (qT : Nat) (qp : Nat) (qc : Nat) (qd : Nat) (qk : Nat) (qO : Nat) (qo : Nat) (fR : Nat → Int32) (fC : Nat → Int32) (fI : Nat → Int32) (fW : Nat → Int32) (fp : Nat → Int32) (fc : Nat → Int32) (fd : Nat → Int32) (fk : Nat → Int32) (fo : Nat → Int32) (rT : Int32) (rL : Int32) (rC : Int32) (rIn : Int32) (cyc : Int32) (wai : Int32) (mar : Int32) (rst : Int32) (hand : Int32) (hov : Int32) (said : Int32) (kept : Int32) (gone : Int32) (p0 : Int32) : CtV l D classes [(cI, .int), (cZ, .boolean)] yX3_port w_X3_port { frames := 0, cells := 0, slots := 0, locals := 0 } [.ref qx, .int p0] [(qx, .inr (3, [.ref qR, .ref qC, .ref qI, .ref qM, .ref qT, .ref qO, .int rT, .int rL, .int rC, .int rIn, .int cyc, .int wai])), (qR, .inl (cI, 32, .inl fR)), (qC, .inl (cI, 256, .inl fC)), (qI, .inl (cI, 1024, .inl fI)), (qM, .inr (0, [.ref qW, .int mar, .int rst])), (qW, .inl (cI, 1024, .inl fW)), (qT, .inr (2, [.ref qp, .ref qc, .ref qd, .ref qk, .int hand, .int hov, .int said])), (qp, .inl (cI, 16, .inl fp)), (qc, .inl (cI, 16, .inl fc)), (qd, .inl (cI, 16, .inl fd)), (qk, .inl (cZ, 16, .inl fk)), (qO, .inr (1, [.ref qo, .int kept, .int gone])), (qo, .inl (cI, 500, .inl fo))] (fun (_ : Unit) => [(qx, .inr (3, [.ref qR, .ref qC, .ref qI, .ref qM, .ref qT, .ref qO, .int rT, .int rL, .int rC, .int (p0 &&& 65535), .int cyc, .int wai])), (qR, .inl (cI, 32, .inl fR)), (qC, .inl (cI, 256, .inl fC)), (qI, .inl (cI, 1024, .inl fI)), (qM, .inr (0, [.ref qW, .int mar, .int rst])), (qW, .inl (cI, 1024, .inl fW)), (qT, .inr (2, [.ref qp, .ref qc, .ref qd, .ref qk, .int hand, .int hov, .int said])), (qp, .inl (cI, 16, .inl fp)), (qc, .inl (cI, 16, .inl fc)), (qd, .inl (cI, 16, .inl fd)), (qk, .inl (cZ, 16, .inl fk)), (qO, .inr (1, [.ref qo, .int kept, .int gone])), (qo, .inl (cI, 500, .inl fo))]) 0 0 := by
  refine CtV.mk (cc := cX3_port) (maxL := 2) (ret := none) (by decide) rfl (Nat.le_of_ble_eq_true rfl) ?_
  intro p e s m below meth c A hBeg ls hl
  obtain ⟨hx, hb, hr, hml, hts0, hown, hlocks, hin, hA, hK, hP, hD, hS⟩ := hBeg
  have hts := fun w h => hts0 w (List.mem_cons_of_mem _ h)
  have hown : s.vm.findClass RX3 = some m.cls := hown
  have hl : lv_has ls 2 [(0, .ref qx), (1, .int p0)] := hl
  skip
  refine lv_aload_n hx hb dX3_port_0 rfl (lv_at hl 0 rfl) ?_
  refine lv_iload_n hx hb dX3_port_1 rfl (lv_at hl 1 rfl) ?_
  refine lv_ldc (v := 65535) hx hb hown (hts _ wk_X3_44) dX3_port_2 ?_
  refine lv_iand hx hb dX3_port_4 ?_
  refine va_put (D := D) (ci := 3) (v := .int (p0 &&& 65535)) (ty := (.int)) (C := RX3) (T := TX3) (N := 12) hx hb hts ilX3 tyX3 tyX3_ok nmX3 hown hK hP hD hS 0 rfl rfl 9 (by decide) (hts _ wf_X3_48) (fun _ h9 => h9) rfl (by decide +kernel) rfl rfl (Nat.le_of_ble_eq_true rfl) dX3_port_5 (fun H locs hP hD hS => ?_)
  have hP : va_P D classes [(qx, .inr (3, [.ref qR, .ref qC, .ref qI, .ref qM, .ref qT, .ref qO, .int rT, .int rL, .int rC, .int (p0 &&& 65535), .int cyc, .int wai])), (qR, .inl (cI, 32, .inl fR)), (qC, .inl (cI, 256, .inl fC)), (qI, .inl (cI, 1024, .inl fI)), (qM, .inr (0, [.ref qW, .int mar, .int rst])), (qW, .inl (cI, 1024, .inl fW)), (qT, .inr (2, [.ref qp, .ref qc, .ref qd, .ref qk, .int hand, .int hov, .int said])), (qp, .inl (cI, 16, .inl fp)), (qc, .inl (cI, 16, .inl fc)), (qd, .inl (cI, 16, .inl fd)), (qk, .inl (cZ, 16, .inl fk)), (qO, .inr (1, [.ref qo, .int kept, .int gone])), (qo, .inl (cI, 500, .inl fo))] H := hP
  have hD : va_D A [(qx, .inr (3, [.ref qR, .ref qC, .ref qI, .ref qM, .ref qT, .ref qO, .int rT, .int rL, .int rC, .int (p0 &&& 65535), .int cyc, .int wai])), (qR, .inl (cI, 32, .inl fR)), (qC, .inl (cI, 256, .inl fC)), (qI, .inl (cI, 1024, .inl fI)), (qM, .inr (0, [.ref qW, .int mar, .int rst])), (qW, .inl (cI, 1024, .inl fW)), (qT, .inr (2, [.ref qp, .ref qc, .ref qd, .ref qk, .int hand, .int hov, .int said])), (qp, .inl (cI, 16, .inl fp)), (qc, .inl (cI, 16, .inl fc)), (qd, .inl (cI, 16, .inl fd)), (qk, .inl (cZ, 16, .inl fk)), (qO, .inr (1, [.ref qo, .int kept, .int gone])), (qo, .inl (cI, 500, .inl fo))] := hD
  exact ct_vret () hx hb hr hlocks hP hD hS rfl dX3_port_8
def z_X3_wake_qk (fk : Nat → Int32) (p0 : Int32) : Nat → Int32 := (if (r_X3_isTask p0) = 0 then fk else upd fk (Int32.toNatClampNeg p0) 1)
def r_X3_wake (fk : Nat → Int32) (p0 : Int32) : Int32 := (if (r_X3_isTask p0) = 0 then 0 else (if (fk (Int32.toNatClampNeg p0)) = 0 then 0 else 1))
set_option maxHeartbeats 4000000 in
set_option maxRecDepth 100000 in
theorem c_X3_wake (l : Launch) (D : va_G) (cI cZ : ClassId) (qx : Nat) (qR : Nat) (qC : Nat) (qI : Nat) (qM : Nat) (qW : Nat) (qT : Nat) (qp : Nat) (qc : Nat) (qd : Nat) (qk : Nat) (qO : Nat) (qo : Nat) (fR : Nat → Int32) (fC : Nat → Int32) (fI : Nat → Int32) (fW : Nat → Int32) (fp : Nat → Int32) (fc : Nat → Int32) (fd : Nat → Int32) (fk : Nat → Int32) (fo : Nat → Int32) (rT : Int32) (rL : Int32) (rC : Int32) (rIn : Int32) (cyc : Int32) (wai : Int32) (mar : Int32) (rst : Int32) (hand : Int32) (hov : Int32) (said : Int32) (kept : Int32) (gone : Int32) (p0 : Int32) (hz : ∀ j : Nat, fk j = 0 ∨ fk j = 1) : CtI l D classes [(cI, .int), (cZ, .boolean)] yX3_wake w_X3_wake { frames := 1, cells := 0, slots := 0, locals := 22 } [.ref qx, .int p0] [(qx, .inr (3, [.ref qR, .ref qC, .ref qI, .ref qM, .ref qT, .ref qO, .int rT, .int rL, .int rC, .int rIn, .int cyc, .int wai])), (qR, .inl (cI, 32, .inl fR)), (qC, .inl (cI, 256, .inl fC)), (qI, .inl (cI, 1024, .inl fI)), (qM, .inr (0, [.ref qW, .int mar, .int rst])), (qW, .inl (cI, 1024, .inl fW)), (qT, .inr (2, [.ref qp, .ref qc, .ref qd, .ref qk, .int hand, .int hov, .int said])), (qp, .inl (cI, 16, .inl fp)), (qc, .inl (cI, 16, .inl fc)), (qd, .inl (cI, 16, .inl fd)), (qk, .inl (cZ, 16, .inl fk)), (qO, .inr (1, [.ref qo, .int kept, .int gone])), (qo, .inl (cI, 500, .inl fo))] [(qx, .inr (3, [.ref qR, .ref qC, .ref qI, .ref qM, .ref qT, .ref qO, .int rT, .int rL, .int rC, .int rIn, .int cyc, .int wai])), (qR, .inl (cI, 32, .inl fR)), (qC, .inl (cI, 256, .inl fC)), (qI, .inl (cI, 1024, .inl fI)), (qM, .inr (0, [.ref qW, .int mar, .int rst])), (qW, .inl (cI, 1024, .inl fW)), (qT, .inr (2, [.ref qp, .ref qc, .ref qd, .ref qk, .int hand, .int hov, .int said])), (qp, .inl (cI, 16, .inl fp)), (qc, .inl (cI, 16, .inl fc)), (qd, .inl (cI, 16, .inl fd)), (qk, .inl (cZ, 16, .inl (z_X3_wake_qk fk p0))), (qO, .inr (1, [.ref qo, .int kept, .int gone])), (qo, .inl (cI, 500, .inl fo))] (r_X3_wake fk p0) := by
  refine CtI.mk (cc := cX3_wake) (maxL := 2) (ret := (some .boolean)) (by decide) rfl (Nat.le_of_ble_eq_true rfl) ?_
  intro p e s m below meth c A hBeg ls hl
  obtain ⟨hx, hb, hr, hml, hts0, hown, hlocks, hin, hA, hK, hP, hD, hS⟩ := hBeg
  have hts := fun w h => hts0 w (List.mem_cons_of_mem _ h)
  have hown : s.vm.findClass RX3 = some m.cls := hown
  have hl : lv_has ls 2 [(0, .ref qx), (1, .int p0)] := hl
  skip
  refine lv_iload_n hx hb dX3_wake_0 rfl (lv_at hl 1 rfl) ?_
  refine ctI_S (As := [.int p0]) (rest := []) (wc := []) (wr := [(qx, .inr (3, [.ref qR, .ref qC, .ref qI, .ref qM, .ref qT, .ref qO, .int rT, .int rL, .int rC, .int rIn, .int cyc, .int wai])), (qR, .inl (cI, 32, .inl fR)), (qC, .inl (cI, 256, .inl fC)), (qI, .inl (cI, 1024, .inl fI)), (qM, .inr (0, [.ref qW, .int mar, .int rst])), (qW, .inl (cI, 1024, .inl fW)), (qT, .inr (2, [.ref qp, .ref qc, .ref qd, .ref qk, .int hand, .int hov, .int said])), (qp, .inl (cI, 16, .inl fp)), (qc, .inl (cI, 16, .inl fc)), (qd, .inl (cI, 16, .inl fd)), (qk, .inl (cZ, 16, .inl fk)), (qO, .inr (1, [.ref qo, .int kept, .int gone])), (qo, .inl (cI, 500, .inl fo))]) ⟨hx, hb, hml, hown, hts⟩ (c_X3_isTask l D cI cZ p0) (cwS 1 hts (gd_S wm_X3_52 wt_X3_isTask wz_X3 wo_X3_isTask) rfl rfl rfl (by decide +kernel) ⟨Nat.le_of_ble_eq_true rfl, Nat.le_of_ble_eq_true rfl⟩) hK hP hD hS hA [] [0, 1, 2, 3, 4, 5, 6, 7, 8, 9, 10, 11, 12] rfl rfl (by decide) (by decide) (by decide) rfl rfl hl.1 (Nat.le_of_ble_eq_true rfl) dX3_wake_1 ⟨Nat.le_of_ble_eq_true rfl, Nat.le_of_ble_eq_true rfl⟩ (fun H locs hP hD hS => ?_)
  have hP : va_P D classes [(qx, .inr (3, [.ref qR, .ref qC, .ref qI, .ref qM, .ref qT, .ref qO, .int rT, .int rL, .int rC, .int rIn, .int cyc, .int wai])), (qR, .inl (cI, 32, .inl fR)), (qC, .inl (cI, 256, .inl fC)), (qI, .inl (cI, 1024, .inl fI)), (qM, .inr (0, [.ref qW, .int mar, .int rst])), (qW, .inl (cI, 1024, .inl fW)), (qT, .inr (2, [.ref qp, .ref qc, .ref qd, .ref qk, .int hand, .int hov, .int said])), (qp, .inl (cI, 16, .inl fp)), (qc, .inl (cI, 16, .inl fc)), (qd, .inl (cI, 16, .inl fd)), (qk, .inl (cZ, 16, .inl fk)), (qO, .inr (1, [.ref qo, .int kept, .int gone])), (qo, .inl (cI, 500, .inl fo))] H := hP
  have hD : va_D A [(qx, .inr (3, [.ref qR, .ref qC, .ref qI, .ref qM, .ref qT, .ref qO, .int rT, .int rL, .int rC, .int rIn, .int cyc, .int wai])), (qR, .inl (cI, 32, .inl fR)), (qC, .inl (cI, 256, .inl fC)), (qI, .inl (cI, 1024, .inl fI)), (qM, .inr (0, [.ref qW, .int mar, .int rst])), (qW, .inl (cI, 1024, .inl fW)), (qT, .inr (2, [.ref qp, .ref qc, .ref qd, .ref qk, .int hand, .int hov, .int said])), (qp, .inl (cI, 16, .inl fp)), (qc, .inl (cI, 16, .inl fc)), (qd, .inl (cI, 16, .inl fd)), (qk, .inl (cZ, 16, .inl fk)), (qO, .inr (1, [.ref qo, .int kept, .int gone])), (qo, .inl (cI, 500, .inl fo))] := hD
  refine lv_if_eq (tgt := 22) hx hb dX3_wake_4 (by decide) (fun c_1 => ?_) (fun c_1 => ?_)
  · skip
    refine lv_iconst (v := 0) hx hb dX3_wake_22 (by decide) ?_
    have e_1 : z_X3_wake_qk fk p0 = fk := by simp only [z_X3_wake_qk, if_pos c_1]
    have e_2 : r_X3_wake fk p0 = 0 := by simp only [r_X3_wake, if_pos c_1]
    exact ct_zret hx hb hr hlocks hP hD hS (by rw [e_1]) (by rw [e_2]) (Or.inl rfl) dX3_wake_23
  · skip
    refine lv_aload_n hx hb dX3_wake_7 rfl (lv_at hl 0 rfl) ?_
    refine va_get (D := D) (ci := 3) (v := .ref qT) (C := RX3) (T := TX3) (N := 12) hx hb hts ilX3 hown hK hP 0 rfl rfl 4 (by decide) (hts _ wf_X3_29) (fun _ h9 => h9) rfl dX3_wake_8 ?_
    refine lv_iload_n hx hb dX3_wake_11 rfl (lv_at hl 1 rfl) ?_
    refine ctI_V (As := [.int p0]) (rest := []) (wc := [(qT, .inr (2, [.ref qp, .ref qc, .ref qd, .ref qk, .int hand, .int hov, .int said])), (qp, .inl (cI, 16, .inl fp)), (qc, .inl (cI, 16, .inl fc)), (qd, .inl (cI, 16, .inl fd)), (qk, .inl (cZ, 16, .inl fk))]) (wr := [(qx, .inr (3, [.ref qR, .ref qC, .ref qI, .ref qM, .ref qT, .ref qO, .int rT, .int rL, .int rC, .int rIn, .int cyc, .int wai])), (qR, .inl (cI, 32, .inl fR)), (qC, .inl (cI, 256, .inl fC)), (qI, .inl (cI, 1024, .inl fI)), (qM, .inr (0, [.ref qW, .int mar, .int rst])), (qW, .inl (cI, 1024, .inl fW)), (qO, .inr (1, [.ref qo, .int kept, .int gone])), (qo, .inl (cI, 500, .inl fo))]) ⟨hx, hb, hml, hown, hts⟩ (c_X2_rouse l D cI cZ qT qp qc qd qk fp fc fd fk hand hov said p0 (isTask_in c_1) (hz _)) (cwV 1 hts (gd_V wm_X3_56 wi_X2_rouse ws_X2_rouse wz_X2 wo_X2_rouse) rfl rfl rfl (by decide +kernel) ⟨Nat.le_of_ble_eq_true rfl, Nat.le_of_ble_eq_true rfl⟩) hK hP hD hS hA 6 rfl rfl rfl [6, 7, 8, 9, 10] [0, 1, 2, 3, 4, 5, 11, 12] rfl rfl (by decide) (by decide) (by decide) rfl rfl hl.1 (Nat.le_of_ble_eq_true rfl) dX3_wake_12 ⟨Nat.le_of_ble_eq_true rfl, Nat.le_of_ble_eq_true rfl⟩ (fun H locs hP hD hS => ?_)
    have hP : va_P D classes [(qx, .inr (3, [.ref qR, .ref qC, .ref qI, .ref qM, .ref qT, .ref qO, .int rT, .int rL, .int rC, .int rIn, .int cyc, .int wai])), (qR, .inl (cI, 32, .inl fR)), (qC, .inl (cI, 256, .inl fC)), (qI, .inl (cI, 1024, .inl fI)), (qM, .inr (0, [.ref qW, .int mar, .int rst])), (qW, .inl (cI, 1024, .inl fW)), (qO, .inr (1, [.ref qo, .int kept, .int gone])), (qo, .inl (cI, 500, .inl fo)), (qT, .inr (2, [.ref qp, .ref qc, .ref qd, .ref qk, .int hand, .int hov, .int said])), (qp, .inl (cI, 16, .inl fp)), (qc, .inl (cI, 16, .inl fc)), (qd, .inl (cI, 16, .inl fd)), (qk, .inl (cZ, 16, .inl (upd fk (Int32.toNatClampNeg p0) 1)))] H := hP
    have hD : va_D A [(qx, .inr (3, [.ref qR, .ref qC, .ref qI, .ref qM, .ref qT, .ref qO, .int rT, .int rL, .int rC, .int rIn, .int cyc, .int wai])), (qR, .inl (cI, 32, .inl fR)), (qC, .inl (cI, 256, .inl fC)), (qI, .inl (cI, 1024, .inl fI)), (qM, .inr (0, [.ref qW, .int mar, .int rst])), (qW, .inl (cI, 1024, .inl fW)), (qO, .inr (1, [.ref qo, .int kept, .int gone])), (qo, .inl (cI, 500, .inl fo)), (qT, .inr (2, [.ref qp, .ref qc, .ref qd, .ref qk, .int hand, .int hov, .int said])), (qp, .inl (cI, 16, .inl fp)), (qc, .inl (cI, 16, .inl fc)), (qd, .inl (cI, 16, .inl fd)), (qk, .inl (cZ, 16, .inl (upd fk (Int32.toNatClampNeg p0) 1)))] := hD
    refine lv_if_eq (tgt := 22) hx hb dX3_wake_15 (by decide) (fun c_2 => ?_) (fun c_2 => ?_)
    · skip
      refine lv_iconst (v := 0) hx hb dX3_wake_22 (by decide) ?_
      have hP := hP.sub (ws' := [(qx, .inr (3, [.ref qR, .ref qC, .ref qI, .ref qM, .ref qT, .ref qO, .int rT, .int rL, .int rC, .int rIn, .int cyc, .int wai])), (qR, .inl (cI, 32, .inl fR)), (qC, .inl (cI, 256, .inl fC)), (qI, .inl (cI, 1024, .inl fI)), (qM, .inr (0, [.ref qW, .int mar, .int rst])), (qW, .inl (cI, 1024, .inl fW)), (qT, .inr (2, [.ref qp, .ref qc, .ref qd, .ref qk, .int hand, .int hov, .int said])), (qp, .inl (cI, 16, .inl fp)), (qc, .inl (cI, 16, .inl fc)), (qd, .inl (cI, 16, .inl fd)), (qk, .inl (cZ, 16, .inl (upd fk (Int32.toNatClampNeg p0) 1))), (qO, .inr (1, [.ref qo, .int kept, .int gone])), (qo, .inl (cI, 500, .inl fo))]) [0, 1, 2, 3, 4, 5, 8, 9, 10, 11, 12, 6, 7] rfl
      have hD := hD.sub (ws' := [(qx, .inr (3, [.ref qR, .ref qC, .ref qI, .ref qM, .ref qT, .ref qO, .int rT, .int rL, .int rC, .int rIn, .int cyc, .int wai])), (qR, .inl (cI, 32, .inl fR)), (qC, .inl (cI, 256, .inl fC)), (qI, .inl (cI, 1024, .inl fI)), (qM, .inr (0, [.ref qW, .int mar, .int rst])), (qW, .inl (cI, 1024, .inl fW)), (qT, .inr (2, [.ref qp, .ref qc, .ref qd, .ref qk, .int hand, .int hov, .int said])), (qp, .inl (cI, 16, .inl fp)), (qc, .inl (cI, 16, .inl fc)), (qd, .inl (cI, 16, .inl fd)), (qk, .inl (cZ, 16, .inl (upd fk (Int32.toNatClampNeg p0) 1))), (qO, .inr (1, [.ref qo, .int kept, .int gone])), (qo, .inl (cI, 500, .inl fo))]) [0, 1, 2, 3, 4, 5, 8, 9, 10, 11, 12, 6, 7] (by decide) rfl
      have e_1 : z_X3_wake_qk fk p0 = upd fk (Int32.toNatClampNeg p0) 1 := by simp only [z_X3_wake_qk, if_neg c_1, if_pos c_2]
      have e_2 : r_X3_wake fk p0 = 0 := by simp only [r_X3_wake, if_neg c_1, if_pos c_2]
      exact ct_zret hx hb hr hlocks hP hD hS (by rw [e_1]) (by rw [e_2]) (Or.inl rfl) dX3_wake_23
    · skip
      refine lv_iconst (v := 1) hx hb dX3_wake_18 (by decide) ?_
      refine lv_goto (tgt := 23) hx hb dX3_wake_19 (by decide) ?_
      have hP := hP.sub (ws' := [(qx, .inr (3, [.ref qR, .ref qC, .ref qI, .ref qM, .ref qT, .ref qO, .int rT, .int rL, .int rC, .int rIn, .int cyc, .int wai])), (qR, .inl (cI, 32, .inl fR)), (qC, .inl (cI, 256, .inl fC)), (qI, .inl (cI, 1024, .inl fI)), (qM, .inr (0, [.ref qW, .int mar, .int rst])), (qW, .inl (cI, 1024, .inl fW)), (qT, .inr (2, [.ref qp, .ref qc, .ref qd, .ref qk, .int hand, .int hov, .int said])), (qp, .inl (cI, 16, .inl fp)), (qc, .inl (cI, 16, .inl fc)), (qd, .inl (cI, 16, .inl fd)), (qk, .inl (cZ, 16, .inl (upd fk (Int32.toNatClampNeg p0) 1))), (qO, .inr (1, [.ref qo, .int kept, .int gone])), (qo, .inl (cI, 500, .inl fo))]) [0, 1, 2, 3, 4, 5, 8, 9, 10, 11, 12, 6, 7] rfl
      have hD := hD.sub (ws' := [(qx, .inr (3, [.ref qR, .ref qC, .ref qI, .ref qM, .ref qT, .ref qO, .int rT, .int rL, .int rC, .int rIn, .int cyc, .int wai])), (qR, .inl (cI, 32, .inl fR)), (qC, .inl (cI, 256, .inl fC)), (qI, .inl (cI, 1024, .inl fI)), (qM, .inr (0, [.ref qW, .int mar, .int rst])), (qW, .inl (cI, 1024, .inl fW)), (qT, .inr (2, [.ref qp, .ref qc, .ref qd, .ref qk, .int hand, .int hov, .int said])), (qp, .inl (cI, 16, .inl fp)), (qc, .inl (cI, 16, .inl fc)), (qd, .inl (cI, 16, .inl fd)), (qk, .inl (cZ, 16, .inl (upd fk (Int32.toNatClampNeg p0) 1))), (qO, .inr (1, [.ref qo, .int kept, .int gone])), (qo, .inl (cI, 500, .inl fo))]) [0, 1, 2, 3, 4, 5, 8, 9, 10, 11, 12, 6, 7] (by decide) rfl
      have e_1 : z_X3_wake_qk fk p0 = upd fk (Int32.toNatClampNeg p0) 1 := by simp only [z_X3_wake_qk, if_neg c_1, if_neg c_2]
      have e_2 : r_X3_wake fk p0 = 1 := by simp only [r_X3_wake, if_neg c_1, if_neg c_2]
      exact ct_zret hx hb hr hlocks hP hD hS (by rw [e_1]) (by rw [e_2]) (Or.inr rfl) dX3_wake_23
def z_X3_start_qp (fp : Nat → Int32) (p0 : Int32) (p1 : Int32) : Nat → Int32 := (if (r_X3_isTask p0) = 0 then fp else (if p1 < 0 then fp else (if p1 < 1024 then upd fp (Int32.toNatClampNeg p0) p1 else fp)))
def z_X3_start_qc (fc : Nat → Int32) (p0 : Int32) (p1 : Int32) : Nat → Int32 := (if (r_X3_isTask p0) = 0 then fc else (if p1 < 0 then fc else (if p1 < 1024 then upd fc (Int32.toNatClampNeg p0) 0 else fc)))
def r_X3_start (p0 : Int32) (p1 : Int32) : Int32 := (if (r_X3_isTask p0) = 0 then 0 else (if p1 < 0 then 0 else (if p1 < 1024 then 1 else 0)))
set_option maxHeartbeats 4000000 in
set_option maxRecDepth 100000 in
theorem c_X3_start (l : Launch) (D : va_G) (cI cZ : ClassId) (qx : Nat) (qR : Nat) (qC : Nat) (qI : Nat) (qM : Nat) (qW : Nat) (qT : Nat) (qp : Nat) (qc : Nat) (qd : Nat) (qk : Nat) (qO : Nat) (qo : Nat) (fR : Nat → Int32) (fC : Nat → Int32) (fI : Nat → Int32) (fW : Nat → Int32) (fp : Nat → Int32) (fc : Nat → Int32) (fd : Nat → Int32) (fk : Nat → Int32) (fo : Nat → Int32) (rT : Int32) (rL : Int32) (rC : Int32) (rIn : Int32) (cyc : Int32) (wai : Int32) (mar : Int32) (rst : Int32) (hand : Int32) (hov : Int32) (said : Int32) (kept : Int32) (gone : Int32) (p0 : Int32) (p1 : Int32) : CtI l D classes [(cI, .int), (cZ, .boolean)] yX3_start w_X3_start { frames := 1, cells := 0, slots := 0, locals := 20 } [.ref qx, .int p0, .int p1] [(qx, .inr (3, [.ref qR, .ref qC, .ref qI, .ref qM, .ref qT, .ref qO, .int rT, .int rL, .int rC, .int rIn, .int cyc, .int wai])), (qR, .inl (cI, 32, .inl fR)), (qC, .inl (cI, 256, .inl fC)), (qI, .inl (cI, 1024, .inl fI)), (qM, .inr (0, [.ref qW, .int mar, .int rst])), (qW, .inl (cI, 1024, .inl fW)), (qT, .inr (2, [.ref qp, .ref qc, .ref qd, .ref qk, .int hand, .int hov, .int said])), (qp, .inl (cI, 16, .inl fp)), (qc, .inl (cI, 16, .inl fc)), (qd, .inl (cI, 16, .inl fd)), (qk, .inl (cZ, 16, .inl fk)), (qO, .inr (1, [.ref qo, .int kept, .int gone])), (qo, .inl (cI, 500, .inl fo))] [(qx, .inr (3, [.ref qR, .ref qC, .ref qI, .ref qM, .ref qT, .ref qO, .int rT, .int rL, .int rC, .int rIn, .int cyc, .int wai])), (qR, .inl (cI, 32, .inl fR)), (qC, .inl (cI, 256, .inl fC)), (qI, .inl (cI, 1024, .inl fI)), (qM, .inr (0, [.ref qW, .int mar, .int rst])), (qW, .inl (cI, 1024, .inl fW)), (qT, .inr (2, [.ref qp, .ref qc, .ref qd, .ref qk, .int hand, .int hov, .int said])), (qp, .inl (cI, 16, .inl (z_X3_start_qp fp p0 p1))), (qc, .inl (cI, 16, .inl (z_X3_start_qc fc p0 p1))), (qd, .inl (cI, 16, .inl fd)), (qk, .inl (cZ, 16, .inl fk)), (qO, .inr (1, [.ref qo, .int kept, .int gone])), (qo, .inl (cI, 500, .inl fo))] (r_X3_start p0 p1) := by
  refine CtI.mk (cc := cX3_start) (maxL := 3) (ret := (some .boolean)) (by decide) rfl (Nat.le_of_ble_eq_true rfl) ?_
  intro p e s m below meth c A hBeg ls hl
  obtain ⟨hx, hb, hr, hml, hts0, hown, hlocks, hin, hA, hK, hP, hD, hS⟩ := hBeg
  have hts := fun w h => hts0 w (List.mem_cons_of_mem _ h)
  have hown : s.vm.findClass RX3 = some m.cls := hown
  have hl : lv_has ls 3 [(0, .ref qx), (1, .int p0), (2, .int p1)] := hl
  skip
  refine lv_iload_n hx hb dX3_start_0 rfl (lv_at hl 1 rfl) ?_
  refine ctI_S (As := [.int p0]) (rest := []) (wc := []) (wr := [(qx, .inr (3, [.ref qR, .ref qC, .ref qI, .ref qM, .ref qT, .ref qO, .int rT, .int rL, .int rC, .int rIn, .int cyc, .int wai])), (qR, .inl (cI, 32, .inl fR)), (qC, .inl (cI, 256, .inl fC)), (qI, .inl (cI, 1024, .inl fI)), (qM, .inr (0, [.ref qW, .int mar, .int rst])), (qW, .inl (cI, 1024, .inl fW)), (qT, .inr (2, [.ref qp, .ref qc, .ref qd, .ref qk, .int hand, .int hov, .int said])), (qp, .inl (cI, 16, .inl fp)), (qc, .inl (cI, 16, .inl fc)), (qd, .inl (cI, 16, .inl fd)), (qk, .inl (cZ, 16, .inl fk)), (qO, .inr (1, [.ref qo, .int kept, .int gone])), (qo, .inl (cI, 500, .inl fo))]) ⟨hx, hb, hml, hown, hts⟩ (c_X3_isTask l D cI cZ p0) (cwS 1 hts (gd_S wm_X3_52 wt_X3_isTask wz_X3 wo_X3_isTask) rfl rfl rfl (by decide +kernel) ⟨Nat.le_of_ble_eq_true rfl, Nat.le_of_ble_eq_true rfl⟩) hK hP hD hS hA [] [0, 1, 2, 3, 4, 5, 6, 7, 8, 9, 10, 11, 12] rfl rfl (by decide) (by decide) (by decide) rfl rfl hl.1 (Nat.le_of_ble_eq_true rfl) dX3_start_1 ⟨Nat.le_of_ble_eq_true rfl, Nat.le_of_ble_eq_true rfl⟩ (fun H locs hP hD hS => ?_)
  have hP : va_P D classes [(qx, .inr (3, [.ref qR, .ref qC, .ref qI, .ref qM, .ref qT, .ref qO, .int rT, .int rL, .int rC, .int rIn, .int cyc, .int wai])), (qR, .inl (cI, 32, .inl fR)), (qC, .inl (cI, 256, .inl fC)), (qI, .inl (cI, 1024, .inl fI)), (qM, .inr (0, [.ref qW, .int mar, .int rst])), (qW, .inl (cI, 1024, .inl fW)), (qT, .inr (2, [.ref qp, .ref qc, .ref qd, .ref qk, .int hand, .int hov, .int said])), (qp, .inl (cI, 16, .inl fp)), (qc, .inl (cI, 16, .inl fc)), (qd, .inl (cI, 16, .inl fd)), (qk, .inl (cZ, 16, .inl fk)), (qO, .inr (1, [.ref qo, .int kept, .int gone])), (qo, .inl (cI, 500, .inl fo))] H := hP
  have hD : va_D A [(qx, .inr (3, [.ref qR, .ref qC, .ref qI, .ref qM, .ref qT, .ref qO, .int rT, .int rL, .int rC, .int rIn, .int cyc, .int wai])), (qR, .inl (cI, 32, .inl fR)), (qC, .inl (cI, 256, .inl fC)), (qI, .inl (cI, 1024, .inl fI)), (qM, .inr (0, [.ref qW, .int mar, .int rst])), (qW, .inl (cI, 1024, .inl fW)), (qT, .inr (2, [.ref qp, .ref qc, .ref qd, .ref qk, .int hand, .int hov, .int said])), (qp, .inl (cI, 16, .inl fp)), (qc, .inl (cI, 16, .inl fc)), (qd, .inl (cI, 16, .inl fd)), (qk, .inl (cZ, 16, .inl fk)), (qO, .inr (1, [.ref qo, .int kept, .int gone])), (qo, .inl (cI, 500, .inl fo))] := hD
  refine lv_if_eq (tgt := 18) hx hb dX3_start_4 (by decide) (fun c_1 => ?_) (fun c_1 => ?_)
  · skip
    refine lv_iconst (v := 0) hx hb dX3_start_18 (by decide) ?_
    have e_1 : z_X3_start_qp fp p0 p1 = fp := by simp only [z_X3_start_qp, if_pos c_1]
    have e_2 : z_X3_start_qc fc p0 p1 = fc := by simp only [z_X3_start_qc, if_pos c_1]
    have e_3 : r_X3_start p0 p1 = 0 := by simp only [r_X3_start, if_pos c_1]
    exact ct_zret hx hb hr hlocks hP hD hS (by rw [e_1, e_2]) (by rw [e_3]) (Or.inl rfl) dX3_start_19
  · skip
    refine lv_iload_n hx hb dX3_start_7 rfl (lv_at hl 2 rfl) ?_
    refine lv_if_lt (tgt := 18) hx hb dX3_start_8 (by decide) (fun c_2 => ?_) (fun c_2 => ?_)
    · skip
      refine lv_iconst (v := 0) hx hb dX3_start_18 (by decide) ?_
      have e_1 : z_X3_start_qp fp p0 p1 = fp := by simp only [z_X3_start_qp, if_neg c_1, if_pos c_2]
      have e_2 : z_X3_start_qc fc p0 p1 = fc := by simp only [z_X3_start_qc, if_neg c_1, if_pos c_2]
      have e_3 : r_X3_start p0 p1 = 0 := by simp only [r_X3_start, if_neg c_1, if_pos c_2]
      exact ct_zret hx hb hr hlocks hP hD hS (by rw [e_1, e_2]) (by rw [e_3]) (Or.inl rfl) dX3_start_19
    · skip
      refine lv_iload_n hx hb dX3_start_11 rfl (lv_at hl 2 rfl) ?_
      refine lv_sipush (v := 1024) hx hb dX3_start_12 (by decide) ?_
      refine lv_icmp_lt (tgt := 20) hx hb dX3_start_15 (by decide) (fun c_3 => ?_) (fun c_3 => ?_)
      · skip
        refine lv_aload_n hx hb dX3_start_20 rfl (lv_at hl 0 rfl) ?_
        refine va_get (D := D) (ci := 3) (v := .ref qT) (C := RX3) (T := TX3) (N := 12) hx hb hts ilX3 hown hK hP 0 rfl rfl 4 (by decide) (hts _ wf_X3_29) (fun _ h9 => h9) rfl dX3_start_21 ?_
        refine va_get (D := D) (ci := 2) (v := .ref qp) (C := RX2) (T := TX2) (N := 7) hx hb hts ilX2 hown hK hP 6 rfl rfl 0 (by decide) (hts _ wf_X3_59) (fun _ h9 => h9) rfl dX3_start_24 ?_
        refine lv_iload_n hx hb dX3_start_27 rfl (lv_at hl 1 rfl) ?_
        refine lv_iload_n hx hb dX3_start_28 rfl (lv_at hl 2 rfl) ?_
        refine va_iast hx hb hK hP hD hS 7 0 rfl rfl (isTask_in c_1) dX3_start_29 (fun H locs hP hD hS => ?_)
        have hP : va_P D classes [(qx, .inr (3, [.ref qR, .ref qC, .ref qI, .ref qM, .ref qT, .ref qO, .int rT, .int rL, .int rC, .int rIn, .int cyc, .int wai])), (qR, .inl (cI, 32, .inl fR)), (qC, .inl (cI, 256, .inl fC)), (qI, .inl (cI, 1024, .inl fI)), (qM, .inr (0, [.ref qW, .int mar, .int rst])), (qW, .inl (cI, 1024, .inl fW)), (qT, .inr (2, [.ref qp, .ref qc, .ref qd, .ref qk, .int hand, .int hov, .int said])), (qp, .inl (cI, 16, .inl (upd fp (Int32.toNatClampNeg p0) p1))), (qc, .inl (cI, 16, .inl fc)), (qd, .inl (cI, 16, .inl fd)), (qk, .inl (cZ, 16, .inl fk)), (qO, .inr (1, [.ref qo, .int kept, .int gone])), (qo, .inl (cI, 500, .inl fo))] H := hP
        have hD : va_D A [(qx, .inr (3, [.ref qR, .ref qC, .ref qI, .ref qM, .ref qT, .ref qO, .int rT, .int rL, .int rC, .int rIn, .int cyc, .int wai])), (qR, .inl (cI, 32, .inl fR)), (qC, .inl (cI, 256, .inl fC)), (qI, .inl (cI, 1024, .inl fI)), (qM, .inr (0, [.ref qW, .int mar, .int rst])), (qW, .inl (cI, 1024, .inl fW)), (qT, .inr (2, [.ref qp, .ref qc, .ref qd, .ref qk, .int hand, .int hov, .int said])), (qp, .inl (cI, 16, .inl (upd fp (Int32.toNatClampNeg p0) p1))), (qc, .inl (cI, 16, .inl fc)), (qd, .inl (cI, 16, .inl fd)), (qk, .inl (cZ, 16, .inl fk)), (qO, .inr (1, [.ref qo, .int kept, .int gone])), (qo, .inl (cI, 500, .inl fo))] := hD
        refine lv_aload_n hx hb dX3_start_30 rfl (lv_at hl 0 rfl) ?_
        refine va_get (D := D) (ci := 3) (v := .ref qT) (C := RX3) (T := TX3) (N := 12) hx hb hts ilX3 hown hK hP 0 rfl rfl 4 (by decide) (hts _ wf_X3_29) (fun _ h9 => h9) rfl dX3_start_31 ?_
        refine va_get (D := D) (ci := 2) (v := .ref qc) (C := RX2) (T := TX2) (N := 7) hx hb hts ilX2 hown hK hP 6 rfl rfl 1 (by decide) (hts _ wf_X3_62) (fun _ h9 => h9) rfl dX3_start_34 ?_
        refine lv_iload_n hx hb dX3_start_37 rfl (lv_at hl 1 rfl) ?_
        refine lv_iconst (v := 0) hx hb dX3_start_38 (by decide) ?_
        refine va_iast hx hb hK hP hD hS 8 0 rfl rfl (isTask_in c_1) dX3_start_39 (fun H locs hP hD hS => ?_)
        have hP : va_P D classes [(qx, .inr (3, [.ref qR, .ref qC, .ref qI, .ref qM, .ref qT, .ref qO, .int rT, .int rL, .int rC, .int rIn, .int cyc, .int wai])), (qR, .inl (cI, 32, .inl fR)), (qC, .inl (cI, 256, .inl fC)), (qI, .inl (cI, 1024, .inl fI)), (qM, .inr (0, [.ref qW, .int mar, .int rst])), (qW, .inl (cI, 1024, .inl fW)), (qT, .inr (2, [.ref qp, .ref qc, .ref qd, .ref qk, .int hand, .int hov, .int said])), (qp, .inl (cI, 16, .inl (upd fp (Int32.toNatClampNeg p0) p1))), (qc, .inl (cI, 16, .inl (upd fc (Int32.toNatClampNeg p0) 0))), (qd, .inl (cI, 16, .inl fd)), (qk, .inl (cZ, 16, .inl fk)), (qO, .inr (1, [.ref qo, .int kept, .int gone])), (qo, .inl (cI, 500, .inl fo))] H := hP
        have hD : va_D A [(qx, .inr (3, [.ref qR, .ref qC, .ref qI, .ref qM, .ref qT, .ref qO, .int rT, .int rL, .int rC, .int rIn, .int cyc, .int wai])), (qR, .inl (cI, 32, .inl fR)), (qC, .inl (cI, 256, .inl fC)), (qI, .inl (cI, 1024, .inl fI)), (qM, .inr (0, [.ref qW, .int mar, .int rst])), (qW, .inl (cI, 1024, .inl fW)), (qT, .inr (2, [.ref qp, .ref qc, .ref qd, .ref qk, .int hand, .int hov, .int said])), (qp, .inl (cI, 16, .inl (upd fp (Int32.toNatClampNeg p0) p1))), (qc, .inl (cI, 16, .inl (upd fc (Int32.toNatClampNeg p0) 0))), (qd, .inl (cI, 16, .inl fd)), (qk, .inl (cZ, 16, .inl fk)), (qO, .inr (1, [.ref qo, .int kept, .int gone])), (qo, .inl (cI, 500, .inl fo))] := hD
        refine lv_iconst (v := 1) hx hb dX3_start_40 (by decide) ?_
        have e_1 : z_X3_start_qp fp p0 p1 = upd fp (Int32.toNatClampNeg p0) p1 := by simp only [z_X3_start_qp, if_neg c_1, if_neg c_2, if_pos c_3]
        have e_2 : z_X3_start_qc fc p0 p1 = upd fc (Int32.toNatClampNeg p0) 0 := by simp only [z_X3_start_qc, if_neg c_1, if_neg c_2, if_pos c_3]
        have e_3 : r_X3_start p0 p1 = 1 := by simp only [r_X3_start, if_neg c_1, if_neg c_2, if_pos c_3]
        exact ct_zret hx hb hr hlocks hP hD hS (by rw [e_1, e_2]) (by rw [e_3]) (Or.inr rfl) dX3_start_41
      · skip
        refine lv_iconst (v := 0) hx hb dX3_start_18 (by decide) ?_
        have e_1 : z_X3_start_qp fp p0 p1 = fp := by simp only [z_X3_start_qp, if_neg c_1, if_neg c_2, if_neg c_3]
        have e_2 : z_X3_start_qc fc p0 p1 = fc := by simp only [z_X3_start_qc, if_neg c_1, if_neg c_2, if_neg c_3]
        have e_3 : r_X3_start p0 p1 = 0 := by simp only [r_X3_start, if_neg c_1, if_neg c_2, if_neg c_3]
        exact ct_zret hx hb hr hlocks hP hD hS (by rw [e_1, e_2]) (by rw [e_3]) (Or.inl rfl) dX3_start_19
def r_X3_register (fR : Nat → Int32) (rT : Int32) (rL : Int32) (rC : Int32) (mar : Int32) (p0 : Int32) : Int32 := (if p0 = 32 then rT else (if p0 = 33 then rL else (if p0 = 34 then rC else (if p0 = 35 then mar else r_X3_ask fR 32 p0))))
set_option maxHeartbeats 4000000 in
set_option maxRecDepth 100000 in
theorem c_X3_register (l : Launch) (D : va_G) (cI cZ : ClassId) (qx : Nat) (qR : Nat) (qC : Nat) (qI : Nat) (qM : Nat) (qW : Nat) (qT : Nat) (qp : Nat) (qc : Nat) (qd : Nat) (qk : Nat) (qO : Nat) (qo : Nat) (fR : Nat → Int32) (fC : Nat → Int32) (fI : Nat → Int32) (fW : Nat → Int32) (fp : Nat → Int32) (fc : Nat → Int32) (fd : Nat → Int32) (fk : Nat → Int32) (fo : Nat → Int32) (rT : Int32) (rL : Int32) (rC : Int32) (rIn : Int32) (cyc : Int32) (wai : Int32) (mar : Int32) (rst : Int32) (hand : Int32) (hov : Int32) (said : Int32) (kept : Int32) (gone : Int32) (p0 : Int32) : CtI l D classes [(cI, .int), (cZ, .boolean)] yX3_register w_X3_register { frames := 1, cells := 0, slots := 0, locals := 21 } [.ref qx, .int p0] [(qx, .inr (3, [.ref qR, .ref qC, .ref qI, .ref qM, .ref qT, .ref qO, .int rT, .int rL, .int rC, .int rIn, .int cyc, .int wai])), (qR, .inl (cI, 32, .inl fR)), (qC, .inl (cI, 256, .inl fC)), (qI, .inl (cI, 1024, .inl fI)), (qM, .inr (0, [.ref qW, .int mar, .int rst])), (qW, .inl (cI, 1024, .inl fW)), (qT, .inr (2, [.ref qp, .ref qc, .ref qd, .ref qk, .int hand, .int hov, .int said])), (qp, .inl (cI, 16, .inl fp)), (qc, .inl (cI, 16, .inl fc)), (qd, .inl (cI, 16, .inl fd)), (qk, .inl (cZ, 16, .inl fk)), (qO, .inr (1, [.ref qo, .int kept, .int gone])), (qo, .inl (cI, 500, .inl fo))] [(qx, .inr (3, [.ref qR, .ref qC, .ref qI, .ref qM, .ref qT, .ref qO, .int rT, .int rL, .int rC, .int rIn, .int cyc, .int wai])), (qR, .inl (cI, 32, .inl fR)), (qC, .inl (cI, 256, .inl fC)), (qI, .inl (cI, 1024, .inl fI)), (qM, .inr (0, [.ref qW, .int mar, .int rst])), (qW, .inl (cI, 1024, .inl fW)), (qT, .inr (2, [.ref qp, .ref qc, .ref qd, .ref qk, .int hand, .int hov, .int said])), (qp, .inl (cI, 16, .inl fp)), (qc, .inl (cI, 16, .inl fc)), (qd, .inl (cI, 16, .inl fd)), (qk, .inl (cZ, 16, .inl fk)), (qO, .inr (1, [.ref qo, .int kept, .int gone])), (qo, .inl (cI, 500, .inl fo))] (r_X3_register fR rT rL rC mar p0) := by
  refine CtI.mk (cc := cX3_register) (maxL := 2) (ret := (some .int)) (by decide) rfl (Nat.le_of_ble_eq_true rfl) ?_
  intro p e s m below meth c A hBeg ls hl
  obtain ⟨hx, hb, hr, hml, hts0, hown, hlocks, hin, hA, hK, hP, hD, hS⟩ := hBeg
  have hts := fun w h => hts0 w (List.mem_cons_of_mem _ h)
  have hown : s.vm.findClass RX3 = some m.cls := hown
  have hl : lv_has ls 2 [(0, .ref qx), (1, .int p0)] := hl
  skip
  refine lv_iload_n hx hb dX3_register_0 rfl (lv_at hl 1 rfl) ?_
  by_cases s_1 : p0 = 32
  · skip
    refine lv_tableIn (tgt := 32) (off := 31) hx hb dX3_register_1 (by rw [s_1]; decide) (by rw [s_1]; decide) (by rw [s_1]; rfl) (by decide) ?_
    refine lv_aload_n hx hb dX3_register_32 rfl (lv_at hl 0 rfl) ?_
    refine va_get (D := D) (ci := 3) (v := .int rT) (C := RX3) (T := TX3) (N := 12) hx hb hts ilX3 hown hK hP 0 rfl rfl 6 (by decide) (hts _ wf_X3_69) (fun _ h9 => h9) rfl dX3_register_33 ?_
    have e_1 : r_X3_register fR rT rL rC mar p0 = rT := by simp only [r_X3_register, if_pos s_1]
    exact ct_iret hx hb hr hlocks hP hD hS rfl (by rw [e_1]) dX3_register_36
  by_cases s_2 : p0 = 33
  · skip
    refine lv_tableIn (tgt := 37) (off := 36) hx hb dX3_register_1 (by rw [s_2]; decide) (by rw [s_2]; decide) (by rw [s_2]; rfl) (by decide) ?_
    refine lv_aload_n hx hb dX3_register_37 rfl (lv_at hl 0 rfl) ?_
    refine va_get (D := D) (ci := 3) (v := .int rL) (C := RX3) (T := TX3) (N := 12) hx hb hts ilX3 hown hK hP 0 rfl rfl 7 (by decide) (hts _ wf_X3_72) (fun _ h9 => h9) rfl dX3_register_38 ?_
    have e_1 : r_X3_register fR rT rL rC mar p0 = rL := by simp only [r_X3_register, if_neg s_1, if_pos s_2]
    exact ct_iret hx hb hr hlocks hP hD hS rfl (by rw [e_1]) dX3_register_41
  by_cases s_3 : p0 = 34
  · skip
    refine lv_tableIn (tgt := 42) (off := 41) hx hb dX3_register_1 (by rw [s_3]; decide) (by rw [s_3]; decide) (by rw [s_3]; rfl) (by decide) ?_
    refine lv_aload_n hx hb dX3_register_42 rfl (lv_at hl 0 rfl) ?_
    refine va_get (D := D) (ci := 3) (v := .int rC) (C := RX3) (T := TX3) (N := 12) hx hb hts ilX3 hown hK hP 0 rfl rfl 8 (by decide) (hts _ wf_X3_75) (fun _ h9 => h9) rfl dX3_register_43 ?_
    have e_1 : r_X3_register fR rT rL rC mar p0 = rC := by simp only [r_X3_register, if_neg s_1, if_neg s_2, if_pos s_3]
    exact ct_iret hx hb hr hlocks hP hD hS rfl (by rw [e_1]) dX3_register_46
  by_cases s_4 : p0 = 35
  · skip
    refine lv_tableIn (tgt := 47) (off := 46) hx hb dX3_register_1 (by rw [s_4]; decide) (by rw [s_4]; decide) (by rw [s_4]; rfl) (by decide) ?_
    refine lv_aload_n hx hb dX3_register_47 rfl (lv_at hl 0 rfl) ?_
    refine va_get (D := D) (ci := 3) (v := .ref qM) (C := RX3) (T := TX3) (N := 12) hx hb hts ilX3 hown hK hP 0 rfl rfl 3 (by decide) (hts _ wf_X3_22) (fun _ h9 => h9) rfl dX3_register_48 ?_
    refine va_get (D := D) (ci := 0) (v := .int mar) (C := RX0) (T := TX0) (N := 3) hx hb hts ilX0 hown hK hP 4 rfl rfl 1 (by decide) (hts _ wf_X3_78) (fun _ h9 => h9) rfl dX3_register_51 ?_
    have e_1 : r_X3_register fR rT rL rC mar p0 = mar := by simp only [r_X3_register, if_neg s_1, if_neg s_2, if_neg s_3, if_pos s_4]
    exact ct_iret hx hb hr hlocks hP hD hS rfl (by rw [e_1]) dX3_register_54
  refine lv_tableOut (tgt := 55) hx hb dX3_register_1 (by have h_s_1 := lv_neT (k := 32) (a := 32) s_1 (by decide); have h_s_2 := lv_neT (k := 33) (a := 33) s_2 (by decide); have h_s_3 := lv_neT (k := 34) (a := 34) s_3 (by decide); have h_s_4 := lv_neT (k := 35) (a := 35) s_4 (by decide); omega) (by decide) ?_
  refine lv_aload_n hx hb dX3_register_55 rfl (lv_at hl 0 rfl) ?_
  refine va_get (D := D) (ci := 3) (v := .ref qR) (C := RX3) (T := TX3) (N := 12) hx hb hts ilX3 hown hK hP 0 rfl rfl 0 (by decide) (hts _ wf_X3_9) (fun _ h9 => h9) rfl dX3_register_56 ?_
  refine lv_iload_n hx hb dX3_register_59 rfl (lv_at hl 1 rfl) ?_
  refine ctI_S (As := [.ref qR, .int p0]) (rest := []) (wc := [(qR, .inl (cI, 32, .inl fR))]) (wr := [(qx, .inr (3, [.ref qR, .ref qC, .ref qI, .ref qM, .ref qT, .ref qO, .int rT, .int rL, .int rC, .int rIn, .int cyc, .int wai])), (qC, .inl (cI, 256, .inl fC)), (qI, .inl (cI, 1024, .inl fI)), (qM, .inr (0, [.ref qW, .int mar, .int rst])), (qW, .inl (cI, 1024, .inl fW)), (qT, .inr (2, [.ref qp, .ref qc, .ref qd, .ref qk, .int hand, .int hov, .int said])), (qp, .inl (cI, 16, .inl fp)), (qc, .inl (cI, 16, .inl fc)), (qd, .inl (cI, 16, .inl fd)), (qk, .inl (cZ, 16, .inl fk)), (qO, .inr (1, [.ref qo, .int kept, .int gone])), (qo, .inl (cI, 500, .inl fo))]) ⟨hx, hb, hml, hown, hts⟩ (c_X3_ask l D cI cZ qR fR 32 p0 (by decide)) (cwS 2 hts (gd_S wm_X3_81 wt_X3_ask wz_X3 wo_X3_ask) rfl rfl rfl (by decide +kernel) ⟨Nat.le_of_ble_eq_true rfl, Nat.le_of_ble_eq_true rfl⟩) hK hP hD hS hA [1] [0, 2, 3, 4, 5, 6, 7, 8, 9, 10, 11, 12] rfl rfl (by decide) (by decide) (by decide) rfl rfl hl.1 (Nat.le_of_ble_eq_true rfl) dX3_register_60 ⟨Nat.le_of_ble_eq_true rfl, Nat.le_of_ble_eq_true rfl⟩ (fun H locs hP hD hS => ?_)
  have hP : va_P D classes [(qx, .inr (3, [.ref qR, .ref qC, .ref qI, .ref qM, .ref qT, .ref qO, .int rT, .int rL, .int rC, .int rIn, .int cyc, .int wai])), (qC, .inl (cI, 256, .inl fC)), (qI, .inl (cI, 1024, .inl fI)), (qM, .inr (0, [.ref qW, .int mar, .int rst])), (qW, .inl (cI, 1024, .inl fW)), (qT, .inr (2, [.ref qp, .ref qc, .ref qd, .ref qk, .int hand, .int hov, .int said])), (qp, .inl (cI, 16, .inl fp)), (qc, .inl (cI, 16, .inl fc)), (qd, .inl (cI, 16, .inl fd)), (qk, .inl (cZ, 16, .inl fk)), (qO, .inr (1, [.ref qo, .int kept, .int gone])), (qo, .inl (cI, 500, .inl fo)), (qR, .inl (cI, 32, .inl fR))] H := hP
  have hD : va_D A [(qx, .inr (3, [.ref qR, .ref qC, .ref qI, .ref qM, .ref qT, .ref qO, .int rT, .int rL, .int rC, .int rIn, .int cyc, .int wai])), (qC, .inl (cI, 256, .inl fC)), (qI, .inl (cI, 1024, .inl fI)), (qM, .inr (0, [.ref qW, .int mar, .int rst])), (qW, .inl (cI, 1024, .inl fW)), (qT, .inr (2, [.ref qp, .ref qc, .ref qd, .ref qk, .int hand, .int hov, .int said])), (qp, .inl (cI, 16, .inl fp)), (qc, .inl (cI, 16, .inl fc)), (qd, .inl (cI, 16, .inl fd)), (qk, .inl (cZ, 16, .inl fk)), (qO, .inr (1, [.ref qo, .int kept, .int gone])), (qo, .inl (cI, 500, .inl fo)), (qR, .inl (cI, 32, .inl fR))] := hD
  have hP := hP.sub (ws' := [(qx, .inr (3, [.ref qR, .ref qC, .ref qI, .ref qM, .ref qT, .ref qO, .int rT, .int rL, .int rC, .int rIn, .int cyc, .int wai])), (qR, .inl (cI, 32, .inl fR)), (qC, .inl (cI, 256, .inl fC)), (qI, .inl (cI, 1024, .inl fI)), (qM, .inr (0, [.ref qW, .int mar, .int rst])), (qW, .inl (cI, 1024, .inl fW)), (qT, .inr (2, [.ref qp, .ref qc, .ref qd, .ref qk, .int hand, .int hov, .int said])), (qp, .inl (cI, 16, .inl fp)), (qc, .inl (cI, 16, .inl fc)), (qd, .inl (cI, 16, .inl fd)), (qk, .inl (cZ, 16, .inl fk)), (qO, .inr (1, [.ref qo, .int kept, .int gone])), (qo, .inl (cI, 500, .inl fo))]) [0, 12, 1, 2, 3, 4, 5, 6, 7, 8, 9, 10, 11] rfl
  have hD := hD.sub (ws' := [(qx, .inr (3, [.ref qR, .ref qC, .ref qI, .ref qM, .ref qT, .ref qO, .int rT, .int rL, .int rC, .int rIn, .int cyc, .int wai])), (qR, .inl (cI, 32, .inl fR)), (qC, .inl (cI, 256, .inl fC)), (qI, .inl (cI, 1024, .inl fI)), (qM, .inr (0, [.ref qW, .int mar, .int rst])), (qW, .inl (cI, 1024, .inl fW)), (qT, .inr (2, [.ref qp, .ref qc, .ref qd, .ref qk, .int hand, .int hov, .int said])), (qp, .inl (cI, 16, .inl fp)), (qc, .inl (cI, 16, .inl fc)), (qd, .inl (cI, 16, .inl fd)), (qk, .inl (cZ, 16, .inl fk)), (qO, .inr (1, [.ref qo, .int kept, .int gone])), (qo, .inl (cI, 500, .inl fo))]) [0, 12, 1, 2, 3, 4, 5, 6, 7, 8, 9, 10, 11] (by decide) rfl
  have e_1 : r_X3_register fR rT rL rC mar p0 = r_X3_ask fR 32 p0 := by simp only [r_X3_register, if_neg s_1, if_neg s_2, if_neg s_3, if_neg s_4]
  exact ct_iret hx hb hr hlocks hP hD hS rfl (by rw [e_1]) dX3_register_63
set_option maxHeartbeats 4000000 in
set_option maxRecDepth 100000 in
theorem c_X3_peek (l : Launch) (D : va_G) (cI cZ : ClassId) (qx : Nat) (qR : Nat) (qC : Nat) (qI : Nat) (qM : Nat) (qW : Nat) (qT : Nat) (qp : Nat) (qc : Nat) (qd : Nat) (qk : Nat) (qO : Nat) (qo : Nat) (fR : Nat → Int32) (fC : Nat → Int32) (fI : Nat → Int32) (fW : Nat → Int32) (fp : Nat → Int32) (fc : Nat → Int32) (fd : Nat → Int32) (fk : Nat → Int32) (fo : Nat → Int32) (rT : Int32) (rL : Int32) (rC : Int32) (rIn : Int32) (cyc : Int32) (wai : Int32) (mar : Int32) (rst : Int32) (hand : Int32) (hov : Int32) (said : Int32) (kept : Int32) (gone : Int32) (p0 : Int32) : CtI l D classes [(cI, .int), (cZ, .boolean)] yX3_peek w_X3_peek { frames := 1, cells := 0, slots := 0, locals := 21 } [.ref qx, .int p0] [(qx, .inr (3, [.ref qR, .ref qC, .ref qI, .ref qM, .ref qT, .ref qO, .int rT, .int rL, .int rC, .int rIn, .int cyc, .int wai])), (qR, .inl (cI, 32, .inl fR)), (qC, .inl (cI, 256, .inl fC)), (qI, .inl (cI, 1024, .inl fI)), (qM, .inr (0, [.ref qW, .int mar, .int rst])), (qW, .inl (cI, 1024, .inl fW)), (qT, .inr (2, [.ref qp, .ref qc, .ref qd, .ref qk, .int hand, .int hov, .int said])), (qp, .inl (cI, 16, .inl fp)), (qc, .inl (cI, 16, .inl fc)), (qd, .inl (cI, 16, .inl fd)), (qk, .inl (cZ, 16, .inl fk)), (qO, .inr (1, [.ref qo, .int kept, .int gone])), (qo, .inl (cI, 500, .inl fo))] [(qx, .inr (3, [.ref qR, .ref qC, .ref qI, .ref qM, .ref qT, .ref qO, .int rT, .int rL, .int rC, .int rIn, .int cyc, .int wai])), (qR, .inl (cI, 32, .inl fR)), (qC, .inl (cI, 256, .inl fC)), (qI, .inl (cI, 1024, .inl fI)), (qM, .inr (0, [.ref qW, .int mar, .int rst])), (qW, .inl (cI, 1024, .inl fW)), (qT, .inr (2, [.ref qp, .ref qc, .ref qd, .ref qk, .int hand, .int hov, .int said])), (qp, .inl (cI, 16, .inl fp)), (qc, .inl (cI, 16, .inl fc)), (qd, .inl (cI, 16, .inl fd)), (qk, .inl (cZ, 16, .inl fk)), (qO, .inr (1, [.ref qo, .int kept, .int gone])), (qo, .inl (cI, 500, .inl fo))] (r_X3_ask fW 1024 p0) := by
  refine CtI.mk (cc := cX3_peek) (maxL := 2) (ret := (some .int)) (by decide) rfl (Nat.le_of_ble_eq_true rfl) ?_
  intro p e s m below meth c A hBeg ls hl
  obtain ⟨hx, hb, hr, hml, hts0, hown, hlocks, hin, hA, hK, hP, hD, hS⟩ := hBeg
  have hts := fun w h => hts0 w (List.mem_cons_of_mem _ h)
  have hown : s.vm.findClass RX3 = some m.cls := hown
  have hl : lv_has ls 2 [(0, .ref qx), (1, .int p0)] := hl
  skip
  refine lv_aload_n hx hb dX3_peek_0 rfl (lv_at hl 0 rfl) ?_
  refine va_get (D := D) (ci := 3) (v := .ref qM) (C := RX3) (T := TX3) (N := 12) hx hb hts ilX3 hown hK hP 0 rfl rfl 3 (by decide) (hts _ wf_X3_22) (fun _ h9 => h9) rfl dX3_peek_1 ?_
  refine va_get (D := D) (ci := 0) (v := .ref qW) (C := RX0) (T := TX0) (N := 3) hx hb hts ilX0 hown hK hP 4 rfl rfl 0 (by decide) (hts _ wf_X3_45) (fun _ h9 => h9) rfl dX3_peek_4 ?_
  refine lv_iload_n hx hb dX3_peek_7 rfl (lv_at hl 1 rfl) ?_
  refine ctI_S (As := [.ref qW, .int p0]) (rest := []) (wc := [(qW, .inl (cI, 1024, .inl fW))]) (wr := [(qx, .inr (3, [.ref qR, .ref qC, .ref qI, .ref qM, .ref qT, .ref qO, .int rT, .int rL, .int rC, .int rIn, .int cyc, .int wai])), (qR, .inl (cI, 32, .inl fR)), (qC, .inl (cI, 256, .inl fC)), (qI, .inl (cI, 1024, .inl fI)), (qM, .inr (0, [.ref qW, .int mar, .int rst])), (qT, .inr (2, [.ref qp, .ref qc, .ref qd, .ref qk, .int hand, .int hov, .int said])), (qp, .inl (cI, 16, .inl fp)), (qc, .inl (cI, 16, .inl fc)), (qd, .inl (cI, 16, .inl fd)), (qk, .inl (cZ, 16, .inl fk)), (qO, .inr (1, [.ref qo, .int kept, .int gone])), (qo, .inl (cI, 500, .inl fo))]) ⟨hx, hb, hml, hown, hts⟩ (c_X3_ask l D cI cZ qW fW 1024 p0 (by decide)) (cwS 2 hts (gd_S wm_X3_81 wt_X3_ask wz_X3 wo_X3_ask) rfl rfl rfl (by decide +kernel) ⟨Nat.le_of_ble_eq_true rfl, Nat.le_of_ble_eq_true rfl⟩) hK hP hD hS hA [5] [0, 1, 2, 3, 4, 6, 7, 8, 9, 10, 11, 12] rfl rfl (by decide) (by decide) (by decide) rfl rfl hl.1 (Nat.le_of_ble_eq_true rfl) dX3_peek_8 ⟨Nat.le_of_ble_eq_true rfl, Nat.le_of_ble_eq_true rfl⟩ (fun H locs hP hD hS => ?_)
  have hP : va_P D classes [(qx, .inr (3, [.ref qR, .ref qC, .ref qI, .ref qM, .ref qT, .ref qO, .int rT, .int rL, .int rC, .int rIn, .int cyc, .int wai])), (qR, .inl (cI, 32, .inl fR)), (qC, .inl (cI, 256, .inl fC)), (qI, .inl (cI, 1024, .inl fI)), (qM, .inr (0, [.ref qW, .int mar, .int rst])), (qT, .inr (2, [.ref qp, .ref qc, .ref qd, .ref qk, .int hand, .int hov, .int said])), (qp, .inl (cI, 16, .inl fp)), (qc, .inl (cI, 16, .inl fc)), (qd, .inl (cI, 16, .inl fd)), (qk, .inl (cZ, 16, .inl fk)), (qO, .inr (1, [.ref qo, .int kept, .int gone])), (qo, .inl (cI, 500, .inl fo)), (qW, .inl (cI, 1024, .inl fW))] H := hP
  have hD : va_D A [(qx, .inr (3, [.ref qR, .ref qC, .ref qI, .ref qM, .ref qT, .ref qO, .int rT, .int rL, .int rC, .int rIn, .int cyc, .int wai])), (qR, .inl (cI, 32, .inl fR)), (qC, .inl (cI, 256, .inl fC)), (qI, .inl (cI, 1024, .inl fI)), (qM, .inr (0, [.ref qW, .int mar, .int rst])), (qT, .inr (2, [.ref qp, .ref qc, .ref qd, .ref qk, .int hand, .int hov, .int said])), (qp, .inl (cI, 16, .inl fp)), (qc, .inl (cI, 16, .inl fc)), (qd, .inl (cI, 16, .inl fd)), (qk, .inl (cZ, 16, .inl fk)), (qO, .inr (1, [.ref qo, .int kept, .int gone])), (qo, .inl (cI, 500, .inl fo)), (qW, .inl (cI, 1024, .inl fW))] := hD
  have hP := hP.sub (ws' := [(qx, .inr (3, [.ref qR, .ref qC, .ref qI, .ref qM, .ref qT, .ref qO, .int rT, .int rL, .int rC, .int rIn, .int cyc, .int wai])), (qR, .inl (cI, 32, .inl fR)), (qC, .inl (cI, 256, .inl fC)), (qI, .inl (cI, 1024, .inl fI)), (qM, .inr (0, [.ref qW, .int mar, .int rst])), (qW, .inl (cI, 1024, .inl fW)), (qT, .inr (2, [.ref qp, .ref qc, .ref qd, .ref qk, .int hand, .int hov, .int said])), (qp, .inl (cI, 16, .inl fp)), (qc, .inl (cI, 16, .inl fc)), (qd, .inl (cI, 16, .inl fd)), (qk, .inl (cZ, 16, .inl fk)), (qO, .inr (1, [.ref qo, .int kept, .int gone])), (qo, .inl (cI, 500, .inl fo))]) [0, 1, 2, 3, 4, 12, 5, 6, 7, 8, 9, 10, 11] rfl
  have hD := hD.sub (ws' := [(qx, .inr (3, [.ref qR, .ref qC, .ref qI, .ref qM, .ref qT, .ref qO, .int rT, .int rL, .int rC, .int rIn, .int cyc, .int wai])), (qR, .inl (cI, 32, .inl fR)), (qC, .inl (cI, 256, .inl fC)), (qI, .inl (cI, 1024, .inl fI)), (qM, .inr (0, [.ref qW, .int mar, .int rst])), (qW, .inl (cI, 1024, .inl fW)), (qT, .inr (2, [.ref qp, .ref qc, .ref qd, .ref qk, .int hand, .int hov, .int said])), (qp, .inl (cI, 16, .inl fp)), (qc, .inl (cI, 16, .inl fc)), (qd, .inl (cI, 16, .inl fd)), (qk, .inl (cZ, 16, .inl fk)), (qO, .inr (1, [.ref qo, .int kept, .int gone])), (qo, .inl (cI, 500, .inl fo))]) [0, 1, 2, 3, 4, 12, 5, 6, 7, 8, 9, 10, 11] (by decide) rfl
  exact ct_iret hx hb hr hlocks hP hD hS rfl rfl dX3_peek_11
def r_X3_task (fp : Nat → Int32) (fc : Nat → Int32) (fd : Nat → Int32) (fk : Nat → Int32) (p0 : Int32) (p1 : Int32) : Int32 := (if (r_X3_isTask p0) = 0 then (-1) else (if p1 = 0 then fp (Int32.toNatClampNeg p0) else (if p1 = 1 then fc (Int32.toNatClampNeg p0) else (if p1 = 2 then (if (fk (Int32.toNatClampNeg p0)) = 0 then 0 else 1) else (if p1 = 3 then fd (Int32.toNatClampNeg p0) else (-1))))))
set_option maxHeartbeats 4000000 in
set_option maxRecDepth 100000 in
theorem c_X3_task (l : Launch) (D : va_G) (cI cZ : ClassId) (qx : Nat) (qR : Nat) (qC : Nat) (qI : Nat) (qM : Nat) (qW : Nat) (qT : Nat) (qp : Nat) (qc : Nat) (qd : Nat) (qk : Nat) (qO : Nat) (qo : Nat) (fR : Nat → Int32) (fC : Nat → Int32) (fI : Nat → Int32) (fW : Nat → Int32) (fp : Nat → Int32) (fc : Nat → Int32) (fd : Nat → Int32) (fk : Nat → Int32) (fo : Nat → Int32) (rT : Int32) (rL : Int32) (rC : Int32) (rIn : Int32) (cyc : Int32) (wai : Int32) (mar : Int32) (rst : Int32) (hand : Int32) (hov : Int32) (said : Int32) (kept : Int32) (gone : Int32) (p0 : Int32) (p1 : Int32) : CtI l D classes [(cI, .int), (cZ, .boolean)] yX3_task w_X3_task { frames := 1, cells := 0, slots := 0, locals := 20 } [.ref qx, .int p0, .int p1] [(qx, .inr (3, [.ref qR, .ref qC, .ref qI, .ref qM, .ref qT, .ref qO, .int rT, .int rL, .int rC, .int rIn, .int cyc, .int wai])), (qR, .inl (cI, 32, .inl fR)), (qC, .inl (cI, 256, .inl fC)), (qI, .inl (cI, 1024, .inl fI)), (qM, .inr (0, [.ref qW, .int mar, .int rst])), (qW, .inl (cI, 1024, .inl fW)), (qT, .inr (2, [.ref qp, .ref qc, .ref qd, .ref qk, .int hand, .int hov, .int said])), (qp, .inl (cI, 16, .inl fp)), (qc, .inl (cI, 16, .inl fc)), (qd, .inl (cI, 16, .inl fd)), (qk, .inl (cZ, 16, .inl fk)), (qO, .inr (1, [.ref qo, .int kept, .int gone])), (qo, .inl (cI, 500, .inl fo))] [(qx, .inr (3, [.ref qR, .ref qC, .ref qI, .ref qM, .ref qT, .ref qO, .int rT, .int rL, .int rC, .int rIn, .int cyc, .int wai])), (qR, .inl (cI, 32, .inl fR)), (qC, .inl (cI, 256, .inl fC)), (qI, .inl (cI, 1024, .inl fI)), (qM, .inr (0, [.ref qW, .int mar, .int rst])), (qW, .inl (cI, 1024, .inl fW)), (qT, .inr (2, [.ref qp, .ref qc, .ref qd, .ref qk, .int hand, .int hov, .int said])), (qp, .inl (cI, 16, .inl fp)), (qc, .inl (cI, 16, .inl fc)), (qd, .inl (cI, 16, .inl fd)), (qk, .inl (cZ, 16, .inl fk)), (qO, .inr (1, [.ref qo, .int kept, .int gone])), (qo, .inl (cI, 500, .inl fo))] (r_X3_task fp fc fd fk p0 p1) := by
  refine CtI.mk (cc := cX3_task) (maxL := 3) (ret := (some .int)) (by decide) rfl (Nat.le_of_ble_eq_true rfl) ?_
  intro p e s m below meth c A hBeg ls hl
  obtain ⟨hx, hb, hr, hml, hts0, hown, hlocks, hin, hA, hK, hP, hD, hS⟩ := hBeg
  have hts := fun w h => hts0 w (List.mem_cons_of_mem _ h)
  have hown : s.vm.findClass RX3 = some m.cls := hown
  have hl : lv_has ls 3 [(0, .ref qx), (1, .int p0), (2, .int p1)] := hl
  skip
  refine lv_iload_n hx hb dX3_task_0 rfl (lv_at hl 1 rfl) ?_
  refine ctI_S (As := [.int p0]) (rest := []) (wc := []) (wr := [(qx, .inr (3, [.ref qR, .ref qC, .ref qI, .ref qM, .ref qT, .ref qO, .int rT, .int rL, .int rC, .int rIn, .int cyc, .int wai])), (qR, .inl (cI, 32, .inl fR)), (qC, .inl (cI, 256, .inl fC)), (qI, .inl (cI, 1024, .inl fI)), (qM, .inr (0, [.ref qW, .int mar, .int rst])), (qW, .inl (cI, 1024, .inl fW)), (qT, .inr (2, [.ref qp, .ref qc, .ref qd, .ref qk, .int hand, .int hov, .int said])), (qp, .inl (cI, 16, .inl fp)), (qc, .inl (cI, 16, .inl fc)), (qd, .inl (cI, 16, .inl fd)), (qk, .inl (cZ, 16, .inl fk)), (qO, .inr (1, [.ref qo, .int kept, .int gone])), (qo, .inl (cI, 500, .inl fo))]) ⟨hx, hb, hml, hown, hts⟩ (c_X3_isTask l D cI cZ p0) (cwS 1 hts (gd_S wm_X3_52 wt_X3_isTask wz_X3 wo_X3_isTask) rfl rfl rfl (by decide +kernel) ⟨Nat.le_of_ble_eq_true rfl, Nat.le_of_ble_eq_true rfl⟩) hK hP hD hS hA [] [0, 1, 2, 3, 4, 5, 6, 7, 8, 9, 10, 11, 12] rfl rfl (by decide) (by decide) (by decide) rfl rfl hl.1 (Nat.le_of_ble_eq_true rfl) dX3_task_1 ⟨Nat.le_of_ble_eq_true rfl, Nat.le_of_ble_eq_true rfl⟩ (fun H locs hP hD hS => ?_)
  have hP : va_P D classes [(qx, .inr (3, [.ref qR, .ref qC, .ref qI, .ref qM, .ref qT, .ref qO, .int rT, .int rL, .int rC, .int rIn, .int cyc, .int wai])), (qR, .inl (cI, 32, .inl fR)), (qC, .inl (cI, 256, .inl fC)), (qI, .inl (cI, 1024, .inl fI)), (qM, .inr (0, [.ref qW, .int mar, .int rst])), (qW, .inl (cI, 1024, .inl fW)), (qT, .inr (2, [.ref qp, .ref qc, .ref qd, .ref qk, .int hand, .int hov, .int said])), (qp, .inl (cI, 16, .inl fp)), (qc, .inl (cI, 16, .inl fc)), (qd, .inl (cI, 16, .inl fd)), (qk, .inl (cZ, 16, .inl fk)), (qO, .inr (1, [.ref qo, .int kept, .int gone])), (qo, .inl (cI, 500, .inl fo))] H := hP
  have hD : va_D A [(qx, .inr (3, [.ref qR, .ref qC, .ref qI, .ref qM, .ref qT, .ref qO, .int rT, .int rL, .int rC, .int rIn, .int cyc, .int wai])), (qR, .inl (cI, 32, .inl fR)), (qC, .inl (cI, 256, .inl fC)), (qI, .inl (cI, 1024, .inl fI)), (qM, .inr (0, [.ref qW, .int mar, .int rst])), (qW, .inl (cI, 1024, .inl fW)), (qT, .inr (2, [.ref qp, .ref qc, .ref qd, .ref qk, .int hand, .int hov, .int said])), (qp, .inl (cI, 16, .inl fp)), (qc, .inl (cI, 16, .inl fc)), (qd, .inl (cI, 16, .inl fd)), (qk, .inl (cZ, 16, .inl fk)), (qO, .inr (1, [.ref qo, .int kept, .int gone])), (qo, .inl (cI, 500, .inl fo))] := hD
  refine lv_if_ne (tgt := 9) hx hb dX3_task_4 (by decide) (fun c_1 => ?_) (fun c_1 => ?_)
  · skip
    refine lv_iload_n hx hb dX3_task_9 rfl (lv_at hl 2 rfl) ?_
    by_cases s_2 : p1 = 0
    · skip
      refine lv_tableIn (tgt := 40) (off := 30) hx hb dX3_task_10 (by rw [s_2]; decide) (by rw [s_2]; decide) (by rw [s_2]; rfl) (by decide) ?_
      refine lv_aload_n hx hb dX3_task_40 rfl (lv_at hl 0 rfl) ?_
      refine va_get (D := D) (ci := 3) (v := .ref qT) (C := RX3) (T := TX3) (N := 12) hx hb hts ilX3 hown hK hP 0 rfl rfl 4 (by decide) (hts _ wf_X3_29) (fun _ h9 => h9) rfl dX3_task_41 ?_
      refine va_get (D := D) (ci := 2) (v := .ref qp) (C := RX2) (T := TX2) (N := 7) hx hb hts ilX2 hown hK hP 6 rfl rfl 0 (by decide) (hts _ wf_X3_59) (fun _ h9 => h9) rfl dX3_task_44 ?_
      refine lv_iload_n hx hb dX3_task_47 rfl (lv_at hl 1 rfl) ?_
      refine va_iald hx hb hK hP 7 0 rfl rfl (isTask_in c_1) dX3_task_48 ?_
      have e_1 : r_X3_task fp fc fd fk p0 p1 = fp (Int32.toNatClampNeg p0) := by simp only [r_X3_task, if_neg c_1, if_pos s_2]
      exact ct_iret hx hb hr hlocks hP hD hS rfl (by rw [e_1]) dX3_task_49
    by_cases s_3 : p1 = 1
    · skip
      refine lv_tableIn (tgt := 50) (off := 40) hx hb dX3_task_10 (by rw [s_3]; decide) (by rw [s_3]; decide) (by rw [s_3]; rfl) (by decide) ?_
      refine lv_aload_n hx hb dX3_task_50 rfl (lv_at hl 0 rfl) ?_
      refine va_get (D := D) (ci := 3) (v := .ref qT) (C := RX3) (T := TX3) (N := 12) hx hb hts ilX3 hown hK hP 0 rfl rfl 4 (by decide) (hts _ wf_X3_29) (fun _ h9 => h9) rfl dX3_task_51 ?_
      refine va_get (D := D) (ci := 2) (v := .ref qc) (C := RX2) (T := TX2) (N := 7) hx hb hts ilX2 hown hK hP 6 rfl rfl 1 (by decide) (hts _ wf_X3_62) (fun _ h9 => h9) rfl dX3_task_54 ?_
      refine lv_iload_n hx hb dX3_task_57 rfl (lv_at hl 1 rfl) ?_
      refine va_iald hx hb hK hP 8 0 rfl rfl (isTask_in c_1) dX3_task_58 ?_
      have e_1 : r_X3_task fp fc fd fk p0 p1 = fc (Int32.toNatClampNeg p0) := by simp only [r_X3_task, if_neg c_1, if_neg s_2, if_pos s_3]
      exact ct_iret hx hb hr hlocks hP hD hS rfl (by rw [e_1]) dX3_task_59
    by_cases s_4 : p1 = 2
    · skip
      refine lv_tableIn (tgt := 60) (off := 50) hx hb dX3_task_10 (by rw [s_4]; decide) (by rw [s_4]; decide) (by rw [s_4]; rfl) (by decide) ?_
      refine lv_aload_n hx hb dX3_task_60 rfl (lv_at hl 0 rfl) ?_
      refine va_get (D := D) (ci := 3) (v := .ref qT) (C := RX3) (T := TX3) (N := 12) hx hb hts ilX3 hown hK hP 0 rfl rfl 4 (by decide) (hts _ wf_X3_29) (fun _ h9 => h9) rfl dX3_task_61 ?_
      refine va_get (D := D) (ci := 2) (v := .ref qk) (C := RX2) (T := TX2) (N := 7) hx hb hts ilX2 hown hK hP 6 rfl rfl 3 (by decide) (hts _ wf_X3_85) (fun _ h9 => h9) rfl dX3_task_64 ?_
      refine lv_iload_n hx hb dX3_task_67 rfl (lv_at hl 1 rfl) ?_
      refine va_zald hx hb hK hP 10 1 rfl rfl (isTask_in c_1) dX3_task_68 ?_
      refine lv_if_eq (tgt := 76) hx hb dX3_task_69 (by decide) (fun c_5 => ?_) (fun c_5 => ?_)
      · skip
        refine lv_iconst (v := 0) hx hb dX3_task_76 (by decide) ?_
        have e_1 : r_X3_task fp fc fd fk p0 p1 = 0 := by simp only [r_X3_task, if_neg c_1, if_neg s_2, if_neg s_3, if_pos s_4, if_pos c_5]
        exact ct_iret hx hb hr hlocks hP hD hS rfl (by rw [e_1]) dX3_task_77
      · skip
        refine lv_iconst (v := 1) hx hb dX3_task_72 (by decide) ?_
        refine lv_goto (tgt := 77) hx hb dX3_task_73 (by decide) ?_
        have e_1 : r_X3_task fp fc fd fk p0 p1 = 1 := by simp only [r_X3_task, if_neg c_1, if_neg s_2, if_neg s_3, if_pos s_4, if_neg c_5]
        exact ct_iret hx hb hr hlocks hP hD hS rfl (by rw [e_1]) dX3_task_77
    by_cases s_6 : p1 = 3
    · skip
      refine lv_tableIn (tgt := 78) (off := 68) hx hb dX3_task_10 (by rw [s_6]; decide) (by rw [s_6]; decide) (by rw [s_6]; rfl) (by decide) ?_
      refine lv_aload_n hx hb dX3_task_78 rfl (lv_at hl 0 rfl) ?_
      refine va_get (D := D) (ci := 3) (v := .ref qT) (C := RX3) (T := TX3) (N := 12) hx hb hts ilX3 hown hK hP 0 rfl rfl 4 (by decide) (hts _ wf_X3_29) (fun _ h9 => h9) rfl dX3_task_79 ?_
      refine va_get (D := D) (ci := 2) (v := .ref qd) (C := RX2) (T := TX2) (N := 7) hx hb hts ilX2 hown hK hP 6 rfl rfl 2 (by decide) (hts _ wf_X3_89) (fun _ h9 => h9) rfl dX3_task_82 ?_
      refine lv_iload_n hx hb dX3_task_85 rfl (lv_at hl 1 rfl) ?_
      refine va_iald hx hb hK hP 9 0 rfl rfl (isTask_in c_1) dX3_task_86 ?_
      have e_1 : r_X3_task fp fc fd fk p0 p1 = fd (Int32.toNatClampNeg p0) := by simp only [r_X3_task, if_neg c_1, if_neg s_2, if_neg s_3, if_neg s_4, if_pos s_6]
      exact ct_iret hx hb hr hlocks hP hD hS rfl (by rw [e_1]) dX3_task_87
    refine lv_tableOut (tgt := 88) hx hb dX3_task_10 (by have h_s_2 := lv_neT (k := 0) (a := 0) s_2 (by decide); have h_s_3 := lv_neT (k := 1) (a := 1) s_3 (by decide); have h_s_4 := lv_neT (k := 2) (a := 2) s_4 (by decide); have h_s_6 := lv_neT (k := 3) (a := 3) s_6 (by decide); omega) (by decide) ?_
    refine lv_iconst (v := (-1)) hx hb dX3_task_88 (by decide) ?_
    have e_1 : r_X3_task fp fc fd fk p0 p1 = (-1) := by simp only [r_X3_task, if_neg c_1, if_neg s_2, if_neg s_3, if_neg s_4, if_neg s_6]
    exact ct_iret hx hb hr hlocks hP hD hS rfl (by rw [e_1]) dX3_task_89
  · skip
    refine lv_iconst (v := (-1)) hx hb dX3_task_7 (by decide) ?_
    have e_1 : r_X3_task fp fc fd fk p0 p1 = (-1) := by simp only [r_X3_task, if_pos c_1]
    exact ct_iret hx hb hr hlocks hP hD hS rfl (by rw [e_1]) dX3_task_8
set_option maxHeartbeats 4000000 in
set_option maxRecDepth 100000 in
theorem c_X3_now (l : Launch) (D : va_G) (cI cZ : ClassId) (qx : Nat) (qR : Nat) (qC : Nat) (qI : Nat) (qM : Nat) (qW : Nat) (qT : Nat) (qp : Nat) (qc : Nat) (qd : Nat) (qk : Nat) (qO : Nat) (qo : Nat) (fR : Nat → Int32) (fC : Nat → Int32) (fI : Nat → Int32) (fW : Nat → Int32) (fp : Nat → Int32) (fc : Nat → Int32) (fd : Nat → Int32) (fk : Nat → Int32) (fo : Nat → Int32) (rT : Int32) (rL : Int32) (rC : Int32) (rIn : Int32) (cyc : Int32) (wai : Int32) (mar : Int32) (rst : Int32) (hand : Int32) (hov : Int32) (said : Int32) (kept : Int32) (gone : Int32) : CtI l D classes [(cI, .int), (cZ, .boolean)] yX3_now w_X3_now { frames := 0, cells := 0, slots := 0, locals := 0 } [.ref qx] [(qx, .inr (3, [.ref qR, .ref qC, .ref qI, .ref qM, .ref qT, .ref qO, .int rT, .int rL, .int rC, .int rIn, .int cyc, .int wai])), (qR, .inl (cI, 32, .inl fR)), (qC, .inl (cI, 256, .inl fC)), (qI, .inl (cI, 1024, .inl fI)), (qM, .inr (0, [.ref qW, .int mar, .int rst])), (qW, .inl (cI, 1024, .inl fW)), (qT, .inr (2, [.ref qp, .ref qc, .ref qd, .ref qk, .int hand, .int hov, .int said])), (qp, .inl (cI, 16, .inl fp)), (qc, .inl (cI, 16, .inl fc)), (qd, .inl (cI, 16, .inl fd)), (qk, .inl (cZ, 16, .inl fk)), (qO, .inr (1, [.ref qo, .int kept, .int gone])), (qo, .inl (cI, 500, .inl fo))] [(qx, .inr (3, [.ref qR, .ref qC, .ref qI, .ref qM, .ref qT, .ref qO, .int rT, .int rL, .int rC, .int rIn, .int cyc, .int wai])), (qR, .inl (cI, 32, .inl fR)), (qC, .inl (cI, 256, .inl fC)), (qI, .inl (cI, 1024, .inl fI)), (qM, .inr (0, [.ref qW, .int mar, .int rst])), (qW, .inl (cI, 1024, .inl fW)), (qT, .inr (2, [.ref qp, .ref qc, .ref qd, .ref qk, .int hand, .int hov, .int said])), (qp, .inl (cI, 16, .inl fp)), (qc, .inl (cI, 16, .inl fc)), (qd, .inl (cI, 16, .inl fd)), (qk, .inl (cZ, 16, .inl fk)), (qO, .inr (1, [.ref qo, .int kept, .int gone])), (qo, .inl (cI, 500, .inl fo))] hand := by
  refine CtI.mk (cc := cX3_now) (maxL := 1) (ret := (some .int)) (by decide) rfl (Nat.le_of_ble_eq_true rfl) ?_
  intro p e s m below meth c A hBeg ls hl
  obtain ⟨hx, hb, hr, hml, hts0, hown, hlocks, hin, hA, hK, hP, hD, hS⟩ := hBeg
  have hts := fun w h => hts0 w (List.mem_cons_of_mem _ h)
  have hown : s.vm.findClass RX3 = some m.cls := hown
  have hl : lv_has ls 1 [(0, .ref qx)] := hl
  skip
  refine lv_aload_n hx hb dX3_now_0 rfl (lv_at hl 0 rfl) ?_
  refine va_get (D := D) (ci := 3) (v := .ref qT) (C := RX3) (T := TX3) (N := 12) hx hb hts ilX3 hown hK hP 0 rfl rfl 4 (by decide) (hts _ wf_X3_29) (fun _ h9 => h9) rfl dX3_now_1 ?_
  refine va_get (D := D) (ci := 2) (v := .int hand) (C := RX2) (T := TX2) (N := 7) hx hb hts ilX2 hown hK hP 6 rfl rfl 4 (by decide) (hts _ wf_X3_92) (fun _ h9 => h9) rfl dX3_now_4 ?_
  exact ct_iret hx hb hr hlocks hP hD hS rfl rfl dX3_now_7
def r_X3_out (fo : Nat → Int32) (kept : Int32) (p0 : Int32) : Int32 := (if kept ≤ p0 then (-1) else r_X3_ask fo 500 p0)
set_option maxHeartbeats 4000000 in
set_option maxRecDepth 100000 in
theorem c_X3_out (l : Launch) (D : va_G) (cI cZ : ClassId) (qx : Nat) (qR : Nat) (qC : Nat) (qI : Nat) (qM : Nat) (qW : Nat) (qT : Nat) (qp : Nat) (qc : Nat) (qd : Nat) (qk : Nat) (qO : Nat) (qo : Nat) (fR : Nat → Int32) (fC : Nat → Int32) (fI : Nat → Int32) (fW : Nat → Int32) (fp : Nat → Int32) (fc : Nat → Int32) (fd : Nat → Int32) (fk : Nat → Int32) (fo : Nat → Int32) (rT : Int32) (rL : Int32) (rC : Int32) (rIn : Int32) (cyc : Int32) (wai : Int32) (mar : Int32) (rst : Int32) (hand : Int32) (hov : Int32) (said : Int32) (kept : Int32) (gone : Int32) (p0 : Int32) : CtI l D classes [(cI, .int), (cZ, .boolean)] yX3_out w_X3_out { frames := 1, cells := 0, slots := 0, locals := 21 } [.ref qx, .int p0] [(qx, .inr (3, [.ref qR, .ref qC, .ref qI, .ref qM, .ref qT, .ref qO, .int rT, .int rL, .int rC, .int rIn, .int cyc, .int wai])), (qR, .inl (cI, 32, .inl fR)), (qC, .inl (cI, 256, .inl fC)), (qI, .inl (cI, 1024, .inl fI)), (qM, .inr (0, [.ref qW, .int mar, .int rst])), (qW, .inl (cI, 1024, .inl fW)), (qT, .inr (2, [.ref qp, .ref qc, .ref qd, .ref qk, .int hand, .int hov, .int said])), (qp, .inl (cI, 16, .inl fp)), (qc, .inl (cI, 16, .inl fc)), (qd, .inl (cI, 16, .inl fd)), (qk, .inl (cZ, 16, .inl fk)), (qO, .inr (1, [.ref qo, .int kept, .int gone])), (qo, .inl (cI, 500, .inl fo))] [(qx, .inr (3, [.ref qR, .ref qC, .ref qI, .ref qM, .ref qT, .ref qO, .int rT, .int rL, .int rC, .int rIn, .int cyc, .int wai])), (qR, .inl (cI, 32, .inl fR)), (qC, .inl (cI, 256, .inl fC)), (qI, .inl (cI, 1024, .inl fI)), (qM, .inr (0, [.ref qW, .int mar, .int rst])), (qW, .inl (cI, 1024, .inl fW)), (qT, .inr (2, [.ref qp, .ref qc, .ref qd, .ref qk, .int hand, .int hov, .int said])), (qp, .inl (cI, 16, .inl fp)), (qc, .inl (cI, 16, .inl fc)), (qd, .inl (cI, 16, .inl fd)), (qk, .inl (cZ, 16, .inl fk)), (qO, .inr (1, [.ref qo, .int kept, .int gone])), (qo, .inl (cI, 500, .inl fo))] (r_X3_out fo kept p0) := by
  refine CtI.mk (cc := cX3_out) (maxL := 2) (ret := (some .int)) (by decide) rfl (Nat.le_of_ble_eq_true rfl) ?_
  intro p e s m below meth c A hBeg ls hl
  obtain ⟨hx, hb, hr, hml, hts0, hown, hlocks, hin, hA, hK, hP, hD, hS⟩ := hBeg
  have hts := fun w h => hts0 w (List.mem_cons_of_mem _ h)
  have hown : s.vm.findClass RX3 = some m.cls := hown
  have hl : lv_has ls 2 [(0, .ref qx), (1, .int p0)] := hl
  skip
  refine lv_iload_n hx hb dX3_out_0 rfl (lv_at hl 1 rfl) ?_
  refine lv_aload_n hx hb dX3_out_1 rfl (lv_at hl 0 rfl) ?_
  refine va_get (D := D) (ci := 3) (v := .ref qO) (C := RX3) (T := TX3) (N := 12) hx hb hts ilX3 hown hK hP 0 rfl rfl 5 (by decide) (hts _ wf_X3_36) (fun _ h9 => h9) rfl dX3_out_2 ?_
  refine va_get (D := D) (ci := 1) (v := .int kept) (C := RX1) (T := TX1) (N := 3) hx hb hts ilX1 hown hK hP 11 rfl rfl 1 (by decide) (hts _ wf_X3_95) (fun _ h9 => h9) rfl dX3_out_5 ?_
  refine lv_icmp_ge (tgt := 25) hx hb dX3_out_8 (by decide) (fun c_1 => ?_) (fun c_1 => ?_)
  · skip
    refine lv_iconst (v := (-1)) hx hb dX3_out_25 (by decide) ?_
    have e_1 : r_X3_out fo kept p0 = (-1) := by simp only [r_X3_out, if_pos c_1]
    exact ct_iret hx hb hr hlocks hP hD hS rfl (by rw [e_1]) dX3_out_26
  · skip
    refine lv_aload_n hx hb dX3_out_11 rfl (lv_at hl 0 rfl) ?_
    refine va_get (D := D) (ci := 3) (v := .ref qO) (C := RX3) (T := TX3) (N := 12) hx hb hts ilX3 hown hK hP 0 rfl rfl 5 (by decide) (hts _ wf_X3_36) (fun _ h9 => h9) rfl dX3_out_12 ?_
    refine va_get (D := D) (ci := 1) (v := .ref qo) (C := RX1) (T := TX1) (N := 3) hx hb hts ilX1 hown hK hP 11 rfl rfl 0 (by decide) (hts _ wf_X3_98) (fun _ h9 => h9) rfl dX3_out_15 ?_
    refine lv_iload_n hx hb dX3_out_18 rfl (lv_at hl 1 rfl) ?_
    refine ctI_S (As := [.ref qo, .int p0]) (rest := []) (wc := [(qo, .inl (cI, 500, .inl fo))]) (wr := [(qx, .inr (3, [.ref qR, .ref qC, .ref qI, .ref qM, .ref qT, .ref qO, .int rT, .int rL, .int rC, .int rIn, .int cyc, .int wai])), (qR, .inl (cI, 32, .inl fR)), (qC, .inl (cI, 256, .inl fC)), (qI, .inl (cI, 1024, .inl fI)), (qM, .inr (0, [.ref qW, .int mar, .int rst])), (qW, .inl (cI, 1024, .inl fW)), (qT, .inr (2, [.ref qp, .ref qc, .ref qd, .ref qk, .int hand, .int hov, .int said])), (qp, .inl (cI, 16, .inl fp)), (qc, .inl (cI, 16, .inl fc)), (qd, .inl (cI, 16, .inl fd)), (qk, .inl (cZ, 16, .inl fk)), (qO, .inr (1, [.ref qo, .int kept, .int gone]))]) ⟨hx, hb, hml, hown, hts⟩ (c_X3_ask l D cI cZ qo fo 500 p0 (by decide)) (cwS 2 hts (gd_S wm_X3_81 wt_X3_ask wz_X3 wo_X3_ask) rfl rfl rfl (by decide +kernel) ⟨Nat.le_of_ble_eq_true rfl, Nat.le_of_ble_eq_true rfl⟩) hK hP hD hS hA [12] [0, 1, 2, 3, 4, 5, 6, 7, 8, 9, 10, 11] rfl rfl (by decide) (by decide) (by decide) rfl rfl hl.1 (Nat.le_of_ble_eq_true rfl) dX3_out_19 ⟨Nat.le_of_ble_eq_true rfl, Nat.le_of_ble_eq_true rfl⟩ (fun H locs hP hD hS => ?_)
    have hP : va_P D classes [(qx, .inr (3, [.ref qR, .ref qC, .ref qI, .ref qM, .ref qT, .ref qO, .int rT, .int rL, .int rC, .int rIn, .int cyc, .int wai])), (qR, .inl (cI, 32, .inl fR)), (qC, .inl (cI, 256, .inl fC)), (qI, .inl (cI, 1024, .inl fI)), (qM, .inr (0, [.ref qW, .int mar, .int rst])), (qW, .inl (cI, 1024, .inl fW)), (qT, .inr (2, [.ref qp, .ref qc, .ref qd, .ref qk, .int hand, .int hov, .int said])), (qp, .inl (cI, 16, .inl fp)), (qc, .inl (cI, 16, .inl fc)), (qd, .inl (cI, 16, .inl fd)), (qk, .inl (cZ, 16, .inl fk)), (qO, .inr (1, [.ref qo, .int kept, .int gone])), (qo, .inl (cI, 500, .inl fo))] H := hP
    have hD : va_D A [(qx, .inr (3, [.ref qR, .ref qC, .ref qI, .ref qM, .ref qT, .ref qO, .int rT, .int rL, .int rC, .int rIn, .int cyc, .int wai])), (qR, .inl (cI, 32, .inl fR)), (qC, .inl (cI, 256, .inl fC)), (qI, .inl (cI, 1024, .inl fI)), (qM, .inr (0, [.ref qW, .int mar, .int rst])), (qW, .inl (cI, 1024, .inl fW)), (qT, .inr (2, [.ref qp, .ref qc, .ref qd, .ref qk, .int hand, .int hov, .int said])), (qp, .inl (cI, 16, .inl fp)), (qc, .inl (cI, 16, .inl fc)), (qd, .inl (cI, 16, .inl fd)), (qk, .inl (cZ, 16, .inl fk)), (qO, .inr (1, [.ref qo, .int kept, .int gone])), (qo, .inl (cI, 500, .inl fo))] := hD
    refine lv_goto (tgt := 26) hx hb dX3_out_22 (by decide) ?_
    have e_1 : r_X3_out fo kept p0 = r_X3_ask fo 500 p0 := by simp only [r_X3_out, if_neg c_1]
    exact ct_iret hx hb hr hlocks hP hD hS rfl (by rw [e_1]) dX3_out_26
def r_X3_count (cyc : Int32) (wai : Int32) (hov : Int32) (gone : Int32) (p0 : Int32) : Int32 := (if p0 = 0 then cyc else (if p0 = 1 then wai else (if p0 = 2 then gone else (if p0 = 3 then hov else (-1)))))
set_option maxHeartbeats 4000000 in
set_option maxRecDepth 100000 in
theorem c_X3_count (l : Launch) (D : va_G) (cI cZ : ClassId) (qx : Nat) (qR : Nat) (qC : Nat) (qI : Nat) (qM : Nat) (qW : Nat) (qT : Nat) (qp : Nat) (qc : Nat) (qd : Nat) (qk : Nat) (qO : Nat) (qo : Nat) (fR : Nat → Int32) (fC : Nat → Int32) (fI : Nat → Int32) (fW : Nat → Int32) (fp : Nat → Int32) (fc : Nat → Int32) (fd : Nat → Int32) (fk : Nat → Int32) (fo : Nat → Int32) (rT : Int32) (rL : Int32) (rC : Int32) (rIn : Int32) (cyc : Int32) (wai : Int32) (mar : Int32) (rst : Int32) (hand : Int32) (hov : Int32) (said : Int32) (kept : Int32) (gone : Int32) (p0 : Int32) : CtI l D classes [(cI, .int), (cZ, .boolean)] yX3_count w_X3_count { frames := 0, cells := 0, slots := 0, locals := 0 } [.ref qx, .int p0] [(qx, .inr (3, [.ref qR, .ref qC, .ref qI, .ref qM, .ref qT, .ref qO, .int rT, .int rL, .int rC, .int rIn, .int cyc, .int wai])), (qR, .inl (cI, 32, .inl fR)), (qC, .inl (cI, 256, .inl fC)), (qI, .inl (cI, 1024, .inl fI)), (qM, .inr (0, [.ref qW, .int mar, .int rst])), (qW, .inl (cI, 1024, .inl fW)), (qT, .inr (2, [.ref qp, .ref qc, .ref qd, .ref qk, .int hand, .int hov, .int said])), (qp, .inl (cI, 16, .inl fp)), (qc, .inl (cI, 16, .inl fc)), (qd, .inl (cI, 16, .inl fd)), (qk, .inl (cZ, 16, .inl fk)), (qO, .inr (1, [.ref qo, .int kept, .int gone])), (qo, .inl (cI, 500, .inl fo))] [(qx, .inr (3, [.ref qR, .ref qC, .ref qI, .ref qM, .ref qT, .ref qO, .int rT, .int rL, .int rC, .int rIn, .int cyc, .int wai])), (qR, .inl (cI, 32, .inl fR)), (qC, .inl (cI, 256, .inl fC)), (qI, .inl (cI, 1024, .inl fI)), (qM, .inr (0, [.ref qW, .int mar, .int rst])), (qW, .inl (cI, 1024, .inl fW)), (qT, .inr (2, [.ref qp, .ref qc, .ref qd, .ref qk, .int hand, .int hov, .int said])), (qp, .inl (cI, 16, .inl fp)), (qc, .inl (cI, 16, .inl fc)), (qd, .inl (cI, 16, .inl fd)), (qk, .inl (cZ, 16, .inl fk)), (qO, .inr (1, [.ref qo, .int kept, .int gone])), (qo, .inl (cI, 500, .inl fo))] (r_X3_count cyc wai hov gone p0) := by
  refine CtI.mk (cc := cX3_count) (maxL := 2) (ret := (some .int)) (by decide) rfl (Nat.le_of_ble_eq_true rfl) ?_
  intro p e s m below meth c A hBeg ls hl
  obtain ⟨hx, hb, hr, hml, hts0, hown, hlocks, hin, hA, hK, hP, hD, hS⟩ := hBeg
  have hts := fun w h => hts0 w (List.mem_cons_of_mem _ h)
  have hown : s.vm.findClass RX3 = some m.cls := hown
  have hl : lv_has ls 2 [(0, .ref qx), (1, .int p0)] := hl
  skip
  refine lv_iload_n hx hb dX3_count_0 rfl (lv_at hl 1 rfl) ?_
  by_cases s_1 : p0 = 0
  · skip
    refine lv_tableIn (tgt := 32) (off := 31) hx hb dX3_count_1 (by rw [s_1]; decide) (by rw [s_1]; decide) (by rw [s_1]; rfl) (by decide) ?_
    refine lv_aload_n hx hb dX3_count_32 rfl (lv_at hl 0 rfl) ?_
    refine va_get (D := D) (ci := 3) (v := .int cyc) (C := RX3) (T := TX3) (N := 12) hx hb hts ilX3 hown hK hP 0 rfl rfl 10 (by decide) (hts _ wf_X3_99) (fun _ h9 => h9) rfl dX3_count_33 ?_
    have e_1 : r_X3_count cyc wai hov gone p0 = cyc := by simp only [r_X3_count, if_pos s_1]
    exact ct_iret hx hb hr hlocks hP hD hS rfl (by rw [e_1]) dX3_count_36
  by_cases s_2 : p0 = 1
  · skip
    refine lv_tableIn (tgt := 37) (off := 36) hx hb dX3_count_1 (by rw [s_2]; decide) (by rw [s_2]; decide) (by rw [s_2]; rfl) (by decide) ?_
    refine lv_aload_n hx hb dX3_count_37 rfl (lv_at hl 0 rfl) ?_
    refine va_get (D := D) (ci := 3) (v := .int wai) (C := RX3) (T := TX3) (N := 12) hx hb hts ilX3 hown hK hP 0 rfl rfl 11 (by decide) (hts _ wf_X3_102) (fun _ h9 => h9) rfl dX3_count_38 ?_
    have e_1 : r_X3_count cyc wai hov gone p0 = wai := by simp only [r_X3_count, if_neg s_1, if_pos s_2]
    exact ct_iret hx hb hr hlocks hP hD hS rfl (by rw [e_1]) dX3_count_41
  by_cases s_3 : p0 = 2
  · skip
    refine lv_tableIn (tgt := 42) (off := 41) hx hb dX3_count_1 (by rw [s_3]; decide) (by rw [s_3]; decide) (by rw [s_3]; rfl) (by decide) ?_
    refine lv_aload_n hx hb dX3_count_42 rfl (lv_at hl 0 rfl) ?_
    refine va_get (D := D) (ci := 3) (v := .ref qO) (C := RX3) (T := TX3) (N := 12) hx hb hts ilX3 hown hK hP 0 rfl rfl 5 (by decide) (hts _ wf_X3_36) (fun _ h9 => h9) rfl dX3_count_43 ?_
    refine va_get (D := D) (ci := 1) (v := .int gone) (C := RX1) (T := TX1) (N := 3) hx hb hts ilX1 hown hK hP 11 rfl rfl 2 (by decide) (hts _ wf_X3_105) (fun _ h9 => h9) rfl dX3_count_46 ?_
    have e_1 : r_X3_count cyc wai hov gone p0 = gone := by simp only [r_X3_count, if_neg s_1, if_neg s_2, if_pos s_3]
    exact ct_iret hx hb hr hlocks hP hD hS rfl (by rw [e_1]) dX3_count_49
  by_cases s_4 : p0 = 3
  · skip
    refine lv_tableIn (tgt := 50) (off := 49) hx hb dX3_count_1 (by rw [s_4]; decide) (by rw [s_4]; decide) (by rw [s_4]; rfl) (by decide) ?_
    refine lv_aload_n hx hb dX3_count_50 rfl (lv_at hl 0 rfl) ?_
    refine va_get (D := D) (ci := 3) (v := .ref qT) (C := RX3) (T := TX3) (N := 12) hx hb hts ilX3 hown hK hP 0 rfl rfl 4 (by decide) (hts _ wf_X3_29) (fun _ h9 => h9) rfl dX3_count_51 ?_
    refine va_get (D := D) (ci := 2) (v := .int hov) (C := RX2) (T := TX2) (N := 7) hx hb hts ilX2 hown hK hP 6 rfl rfl 5 (by decide) (hts _ wf_X3_108) (fun _ h9 => h9) rfl dX3_count_54 ?_
    have e_1 : r_X3_count cyc wai hov gone p0 = hov := by simp only [r_X3_count, if_neg s_1, if_neg s_2, if_neg s_3, if_pos s_4]
    exact ct_iret hx hb hr hlocks hP hD hS rfl (by rw [e_1]) dX3_count_57
  refine lv_tableOut (tgt := 58) hx hb dX3_count_1 (by have h_s_1 := lv_neT (k := 0) (a := 0) s_1 (by decide); have h_s_2 := lv_neT (k := 1) (a := 1) s_2 (by decide); have h_s_3 := lv_neT (k := 2) (a := 2) s_3 (by decide); have h_s_4 := lv_neT (k := 3) (a := 3) s_4 (by decide); omega) (by decide) ?_
  refine lv_iconst (v := (-1)) hx hb dX3_count_58 (by decide) ?_
  have e_1 : r_X3_count cyc wai hov gone p0 = (-1) := by simp only [r_X3_count, if_neg s_1, if_neg s_2, if_neg s_3, if_neg s_4]
  exact ct_iret hx hb hr hlocks hP hD hS rfl (by rw [e_1]) dX3_count_59
end
end
section
section
def r_X3_shiftedL (rL : Int32) (p0 : Int32) : Int32 := (if p0 = 4 then (rL <<< (1 &&& 31)) &&& 65535 else (if p0 = 5 then rL >>> (1 &&& 31) else (if p0 = 6 then ((rL <<< (8 &&& 31)) ||| (rL >>> (8 &&& 31))) &&& 65535 else rL)))
set_option maxHeartbeats 4000000 in
set_option maxRecDepth 100000 in
theorem c_X3_shiftedL (l : Launch) (D : va_G) (cI cZ : ClassId) (qx : Nat) (qR : Nat) (qC : Nat) (qI : Nat) (qM : Nat) (qW : Nat) (qT : Nat) (qp : Nat) (qc : Nat) (qd : Nat) (qk : Nat) (qO : Nat) (qo : Nat) (fR : Nat → Int32) (fC : Nat → Int32) (fI : Nat → Int32) (fW : Nat → Int32) (fp : Nat → Int32) (fc : Nat → Int32) (fd : Nat → Int32) (fk : Nat → Int32) (fo : Nat → Int32) (rT : Int32) (rL : Int32) (rC : Int32) (rIn : Int32) (cyc : Int32) (wai : Int32) (mar : Int32) (rst : Int32) (hand : Int32) (hov : Int32) (said : Int32) (kept : Int32) (gone : Int32) (p0 : Int32) : CtI l D classes [(cI, .int), (cZ, .boolean)] yX3_shiftedL w_X3_shiftedL { frames := 0, cells := 0, slots := 0, locals := 0 } [.ref qx, .int p0] [(qx, .inr (3, [.ref qR, .ref qC, .ref qI, .ref qM, .ref qT, .ref qO, .int rT, .int rL, .int rC, .int rIn, .int cyc, .int wai])), (qR, .inl (cI, 32, .inl fR)), (qC, .inl (cI, 256, .inl fC)), (qI, .inl (cI, 1024, .inl fI)), (qM, .inr (0, [.ref qW, .int mar, .int rst])), (qW, .inl (cI, 1024, .inl fW)), (qT, .inr (2, [.ref qp, .ref qc, .ref qd, .ref qk, .int hand, .int hov, .int said])), (qp, .inl (cI, 16, .inl fp)), (qc, .inl (cI, 16, .inl fc)), (qd, .inl (cI, 16, .inl fd)), (qk, .inl (cZ, 16, .inl fk)), (qO, .inr (1, [.ref qo, .int kept, .int gone])), (qo, .inl (cI, 500, .inl fo))] [(qx, .inr (3, [.ref qR, .ref qC, .ref qI, .ref qM, .ref qT, .ref qO, .int rT, .int rL, .int rC, .int rIn, .int cyc, .int wai])), (qR, .inl (cI, 32, .inl fR)), (qC, .inl (cI, 256, .inl fC)), (qI, .inl (cI, 1024, .inl fI)), (qM, .inr (0, [.ref qW, .int mar, .int rst])), (qW, .inl (cI, 1024, .inl fW)), (qT, .inr (2, [.ref qp, .ref qc, .ref qd, .ref qk, .int hand, .int hov, .int said])), (qp, .inl (cI, 16, .inl fp)), (qc, .inl (cI, 16, .inl fc)), (qd, .inl (cI, 16, .inl fd)), (qk, .inl (cZ, 16, .inl fk)), (qO, .inr (1, [.ref qo, .int kept, .int gone])), (qo, .inl (cI, 500, .inl fo))] (r_X3_shiftedL rL p0) := by
  refine CtI.mk (cc := cX3_shiftedL) (maxL := 2) (ret := (some .int)) (by decide) rfl (Nat.le_of_ble_eq_true rfl) ?_
  intro p e s m below meth c A hBeg ls hl
  obtain ⟨hx, hb, hr, hml, hts0, hown, hlocks, hin, hA, hK, hP, hD, hS⟩ := hBeg
  have hts := fun w h => hts0 w (List.mem_cons_of_mem _ h)
  have hown : s.vm.findClass RX3 = some m.cls := hown
  have hl : lv_has ls 2 [(0, .ref qx), (1, .int p0)] := hl
  skip
  refine lv_iload_n hx hb dX3_shiftedL_0 rfl (lv_at hl 1 rfl) ?_
  by_cases s_1 : p0 = 4
  · skip
    refine lv_tableIn (tgt := 28) (off := 27) hx hb dX3_shiftedL_1 (by rw [s_1]; decide) (by rw [s_1]; decide) (by rw [s_1]; rfl) (by decide) ?_
    refine lv_aload_n hx hb dX3_shiftedL_28 rfl (lv_at hl 0 rfl) ?_
    refine va_get (D := D) (ci := 3) (v := .int rL) (C := RX3) (T := TX3) (N := 12) hx hb hts ilX3 hown hK hP 0 rfl rfl 7 (by decide) (hts _ wf_X3_72) (fun _ h9 => h9) rfl dX3_shiftedL_29 ?_
    refine lv_iconst (v := 1) hx hb dX3_shiftedL_32 (by decide) ?_
    refine lv_ishl hx hb dX3_shiftedL_33 ?_
    refine lv_ldc (v := 65535) hx hb hown (hts _ wk_X3_44) dX3_shiftedL_34 ?_
    refine lv_iand hx hb dX3_shiftedL_36 ?_
    have e_1 : r_X3_shiftedL rL p0 = (rL <<< (1 &&& 31)) &&& 65535 := by simp only [r_X3_shiftedL, if_pos s_1]
    exact ct_iret hx hb hr hlocks hP hD hS rfl (by rw [e_1]) dX3_shiftedL_37
  by_cases s_2 : p0 = 5
  · skip
    refine lv_tableIn (tgt := 38) (off := 37) hx hb dX3_shiftedL_1 (by rw [s_2]; decide) (by rw [s_2]; decide) (by rw [s_2]; rfl) (by decide) ?_
    refine lv_aload_n hx hb dX3_shiftedL_38 rfl (lv_at hl 0 rfl) ?_
    refine va_get (D := D) (ci := 3) (v := .int rL) (C := RX3) (T := TX3) (N := 12) hx hb hts ilX3 hown hK hP 0 rfl rfl 7 (by decide) (hts _ wf_X3_72) (fun _ h9 => h9) rfl dX3_shiftedL_39 ?_
    refine lv_iconst (v := 1) hx hb dX3_shiftedL_42 (by decide) ?_
    refine lv_ishr hx hb dX3_shiftedL_43 ?_
    have e_1 : r_X3_shiftedL rL p0 = rL >>> (1 &&& 31) := by simp only [r_X3_shiftedL, if_neg s_1, if_pos s_2]
    exact ct_iret hx hb hr hlocks hP hD hS rfl (by rw [e_1]) dX3_shiftedL_44
  by_cases s_3 : p0 = 6
  · skip
    refine lv_tableIn (tgt := 45) (off := 44) hx hb dX3_shiftedL_1 (by rw [s_3]; decide) (by rw [s_3]; decide) (by rw [s_3]; rfl) (by decide) ?_
    refine lv_aload_n hx hb dX3_shiftedL_45 rfl (lv_at hl 0 rfl) ?_
    refine va_get (D := D) (ci := 3) (v := .int rL) (C := RX3) (T := TX3) (N := 12) hx hb hts ilX3 hown hK hP 0 rfl rfl 7 (by decide) (hts _ wf_X3_72) (fun _ h9 => h9) rfl dX3_shiftedL_46 ?_
    refine lv_bipush (v := 8) hx hb dX3_shiftedL_49 (by decide) ?_
    refine lv_ishl hx hb dX3_shiftedL_51 ?_
    refine lv_aload_n hx hb dX3_shiftedL_52 rfl (lv_at hl 0 rfl) ?_
    refine va_get (D := D) (ci := 3) (v := .int rL) (C := RX3) (T := TX3) (N := 12) hx hb hts ilX3 hown hK hP 0 rfl rfl 7 (by decide) (hts _ wf_X3_72) (fun _ h9 => h9) rfl dX3_shiftedL_53 ?_
    refine lv_bipush (v := 8) hx hb dX3_shiftedL_56 (by decide) ?_
    refine lv_ishr hx hb dX3_shiftedL_58 ?_
    refine lv_ior hx hb dX3_shiftedL_59 ?_
    refine lv_ldc (v := 65535) hx hb hown (hts _ wk_X3_44) dX3_shiftedL_60 ?_
    refine lv_iand hx hb dX3_shiftedL_62 ?_
    have e_1 : r_X3_shiftedL rL p0 = ((rL <<< (8 &&& 31)) ||| (rL >>> (8 &&& 31))) &&& 65535 := by simp only [r_X3_shiftedL, if_neg s_1, if_neg s_2, if_pos s_3]
    exact ct_iret hx hb hr hlocks hP hD hS rfl (by rw [e_1]) dX3_shiftedL_63
  refine lv_tableOut (tgt := 64) hx hb dX3_shiftedL_1 (by have h_s_1 := lv_neT (k := 4) (a := 4) s_1 (by decide); have h_s_2 := lv_neT (k := 5) (a := 5) s_2 (by decide); have h_s_3 := lv_neT (k := 6) (a := 6) s_3 (by decide); omega) (by decide) ?_
  refine lv_aload_n hx hb dX3_shiftedL_64 rfl (lv_at hl 0 rfl) ?_
  refine va_get (D := D) (ci := 3) (v := .int rL) (C := RX3) (T := TX3) (N := 12) hx hb hts ilX3 hown hK hP 0 rfl rfl 7 (by decide) (hts _ wf_X3_72) (fun _ h9 => h9) rfl dX3_shiftedL_65 ?_
  have e_1 : r_X3_shiftedL rL p0 = rL := by simp only [r_X3_shiftedL, if_neg s_1, if_neg s_2, if_neg s_3]
  exact ct_iret hx hb hr hlocks hP hD hS rfl (by rw [e_1]) dX3_shiftedL_68
def r_X3_busOf (fR : Nat → Int32) (fC : Nat → Int32) (fW : Nat → Int32) (rL : Int32) (rIn : Int32) (mar : Int32) (hand : Int32) (p0 : Int32) : Int32 := (if (r_X3_hasConstant p0) = 0 then (if ((p0 >>> (20 &&& 31)) &&& 7) = 0 then fR (Int32.toNatClampNeg (jushr p0 27)) else (if ((p0 >>> (20 &&& 31)) &&& 7) = 1 then 0 else (if ((p0 >>> (20 &&& 31)) &&& 7) = 2 then 65535 else (if ((p0 >>> (20 &&& 31)) &&& 7) = 3 then rIn else (if ((p0 >>> (20 &&& 31)) &&& 7) = 4 then hand else (if ((p0 >>> (20 &&& 31)) &&& 7) = 5 then fW (Int32.toNatClampNeg (mar &&& 1023)) else (if ((p0 >>> (20 &&& 31)) &&& 7) = 6 then rL else mar))))))) else fC (Int32.toNatClampNeg (((8 : Int32) * (jushr p0 27)) + ((p0 >>> (20 &&& 31)) &&& 7))))
set_option maxHeartbeats 4000000 in
set_option maxRecDepth 100000 in
theorem c_X3_busOf (l : Launch) (D : va_G) (cI cZ : ClassId) (qx : Nat) (qR : Nat) (qC : Nat) (qI : Nat) (qM : Nat) (qW : Nat) (qT : Nat) (qp : Nat) (qc : Nat) (qd : Nat) (qk : Nat) (qO : Nat) (qo : Nat) (fR : Nat → Int32) (fC : Nat → Int32) (fI : Nat → Int32) (fW : Nat → Int32) (fp : Nat → Int32) (fc : Nat → Int32) (fd : Nat → Int32) (fk : Nat → Int32) (fo : Nat → Int32) (rT : Int32) (rL : Int32) (rC : Int32) (rIn : Int32) (cyc : Int32) (wai : Int32) (mar : Int32) (rst : Int32) (hand : Int32) (hov : Int32) (said : Int32) (kept : Int32) (gone : Int32) (p0 : Int32) : CtI l D classes [(cI, .int), (cZ, .boolean)] yX3_busOf w_X3_busOf { frames := 2, cells := 0, slots := 0, locals := 40 } [.ref qx, .int p0] [(qx, .inr (3, [.ref qR, .ref qC, .ref qI, .ref qM, .ref qT, .ref qO, .int rT, .int rL, .int rC, .int rIn, .int cyc, .int wai])), (qR, .inl (cI, 32, .inl fR)), (qC, .inl (cI, 256, .inl fC)), (qI, .inl (cI, 1024, .inl fI)), (qM, .inr (0, [.ref qW, .int mar, .int rst])), (qW, .inl (cI, 1024, .inl fW)), (qT, .inr (2, [.ref qp, .ref qc, .ref qd, .ref qk, .int hand, .int hov, .int said])), (qp, .inl (cI, 16, .inl fp)), (qc, .inl (cI, 16, .inl fc)), (qd, .inl (cI, 16, .inl fd)), (qk, .inl (cZ, 16, .inl fk)), (qO, .inr (1, [.ref qo, .int kept, .int gone])), (qo, .inl (cI, 500, .inl fo))] [(qx, .inr (3, [.ref qR, .ref qC, .ref qI, .ref qM, .ref qT, .ref qO, .int rT, .int rL, .int rC, .int rIn, .int cyc, .int wai])), (qR, .inl (cI, 32, .inl fR)), (qC, .inl (cI, 256, .inl fC)), (qI, .inl (cI, 1024, .inl fI)), (qM, .inr (0, [.ref qW, .int mar, .int rst])), (qW, .inl (cI, 1024, .inl fW)), (qT, .inr (2, [.ref qp, .ref qc, .ref qd, .ref qk, .int hand, .int hov, .int said])), (qp, .inl (cI, 16, .inl fp)), (qc, .inl (cI, 16, .inl fc)), (qd, .inl (cI, 16, .inl fd)), (qk, .inl (cZ, 16, .inl fk)), (qO, .inr (1, [.ref qo, .int kept, .int gone])), (qo, .inl (cI, 500, .inl fo))] (r_X3_busOf fR fC fW rL rIn mar hand p0) := by
  refine CtI.mk (cc := cX3_busOf) (maxL := 4) (ret := (some .int)) (by decide) rfl (Nat.le_of_ble_eq_true rfl) ?_
  intro p e s m below meth c A hBeg ls hl
  obtain ⟨hx, hb, hr, hml, hts0, hown, hlocks, hin, hA, hK, hP, hD, hS⟩ := hBeg
  have hts := fun w h => hts0 w (List.mem_cons_of_mem _ h)
  have hown : s.vm.findClass RX3 = some m.cls := hown
  have hl : lv_has ls 4 [(0, .ref qx), (1, .int p0)] := hl
  skip
  refine lv_iload_n hx hb dX3_busOf_0 rfl (lv_at hl 1 rfl) ?_
  refine ctI_S (As := [.int p0]) (rest := []) (wc := []) (wr := [(qx, .inr (3, [.ref qR, .ref qC, .ref qI, .ref qM, .ref qT, .ref qO, .int rT, .int rL, .int rC, .int rIn, .int cyc, .int wai])), (qR, .inl (cI, 32, .inl fR)), (qC, .inl (cI, 256, .inl fC)), (qI, .inl (cI, 1024, .inl fI)), (qM, .inr (0, [.ref qW, .int mar, .int rst])), (qW, .inl (cI, 1024, .inl fW)), (qT, .inr (2, [.ref qp, .ref qc, .ref qd, .ref qk, .int hand, .int hov, .int said])), (qp, .inl (cI, 16, .inl fp)), (qc, .inl (cI, 16, .inl fc)), (qd, .inl (cI, 16, .inl fd)), (qk, .inl (cZ, 16, .inl fk)), (qO, .inr (1, [.ref qo, .int kept, .int gone])), (qo, .inl (cI, 500, .inl fo))]) ⟨hx, hb, hml, hown, hts⟩ (c_X3_rselOf l D cI cZ p0) (cwS 1 hts (gd_S wm_X3_154 wt_X3_rselOf wz_X3 wo_X3_rselOf) rfl rfl rfl (by decide +kernel) ⟨Nat.le_of_ble_eq_true rfl, Nat.le_of_ble_eq_true rfl⟩) hK hP hD hS hA [] [0, 1, 2, 3, 4, 5, 6, 7, 8, 9, 10, 11, 12] rfl rfl (by decide) (by decide) (by decide) rfl rfl hl.1 (Nat.le_of_ble_eq_true rfl) dX3_busOf_1 ⟨Nat.le_of_ble_eq_true rfl, Nat.le_of_ble_eq_true rfl⟩ (fun H locs hP hD hS => ?_)
  have hP : va_P D classes [(qx, .inr (3, [.ref qR, .ref qC, .ref qI, .ref qM, .ref qT, .ref qO, .int rT, .int rL, .int rC, .int rIn, .int cyc, .int wai])), (qR, .inl (cI, 32, .inl fR)), (qC, .inl (cI, 256, .inl fC)), (qI, .inl (cI, 1024, .inl fI)), (qM, .inr (0, [.ref qW, .int mar, .int rst])), (qW, .inl (cI, 1024, .inl fW)), (qT, .inr (2, [.ref qp, .ref qc, .ref qd, .ref qk, .int hand, .int hov, .int said])), (qp, .inl (cI, 16, .inl fp)), (qc, .inl (cI, 16, .inl fc)), (qd, .inl (cI, 16, .inl fd)), (qk, .inl (cZ, 16, .inl fk)), (qO, .inr (1, [.ref qo, .int kept, .int gone])), (qo, .inl (cI, 500, .inl fo))] H := hP
  have hD : va_D A [(qx, .inr (3, [.ref qR, .ref qC, .ref qI, .ref qM, .ref qT, .ref qO, .int rT, .int rL, .int rC, .int rIn, .int cyc, .int wai])), (qR, .inl (cI, 32, .inl fR)), (qC, .inl (cI, 256, .inl fC)), (qI, .inl (cI, 1024, .inl fI)), (qM, .inr (0, [.ref qW, .int mar, .int rst])), (qW, .inl (cI, 1024, .inl fW)), (qT, .inr (2, [.ref qp, .ref qc, .ref qd, .ref qk, .int hand, .int hov, .int said])), (qp, .inl (cI, 16, .inl fp)), (qc, .inl (cI, 16, .inl fc)), (qd, .inl (cI, 16, .inl fd)), (qk, .inl (cZ, 16, .inl fk)), (qO, .inr (1, [.ref qo, .int kept, .int gone])), (qo, .inl (cI, 500, .inl fo))] := hD
  refine lv_istore_n (lv' := [(2, .int (jushr p0 27)), (0, .ref qx), (1, .int p0)]) hx hb dX3_busOf_4 rfl hl (by decide) rfl (fun ls hl => ?_)
  refine lv_iload_n hx hb dX3_busOf_5 rfl (lv_at hl 2 rfl) ?_
  refine ctI_S (As := [.int p0]) (rest := []) (wc := []) (wr := [(qx, .inr (3, [.ref qR, .ref qC, .ref qI, .ref qM, .ref qT, .ref qO, .int rT, .int rL, .int rC, .int rIn, .int cyc, .int wai])), (qR, .inl (cI, 32, .inl fR)), (qC, .inl (cI, 256, .inl fC)), (qI, .inl (cI, 1024, .inl fI)), (qM, .inr (0, [.ref qW, .int mar, .int rst])), (qW, .inl (cI, 1024, .inl fW)), (qT, .inr (2, [.ref qp, .ref qc, .ref qd, .ref qk, .int hand, .int hov, .int said])), (qp, .inl (cI, 16, .inl fp)), (qc, .inl (cI, 16, .inl fc)), (qd, .inl (cI, 16, .inl fd)), (qk, .inl (cZ, 16, .inl fk)), (qO, .inr (1, [.ref qo, .int kept, .int gone])), (qo, .inl (cI, 500, .inl fo))]) ⟨hx, hb, hml, hown, hts⟩ (c_X3_bsOf l D cI cZ p0) (cwS 1 hts (gd_S wm_X3_124 wt_X3_bsOf wz_X3 wo_X3_bsOf) rfl rfl rfl (by decide +kernel) ⟨Nat.le_of_ble_eq_true rfl, Nat.le_of_ble_eq_true rfl⟩) hK hP hD hS hA [] [0, 1, 2, 3, 4, 5, 6, 7, 8, 9, 10, 11, 12] rfl rfl (by decide) (by decide) (by decide) rfl rfl hl.1 (Nat.le_of_ble_eq_true rfl) dX3_busOf_6 ⟨Nat.le_of_ble_eq_true rfl, Nat.le_of_ble_eq_true rfl⟩ (fun H locs hP hD hS => ?_)
  have hP : va_P D classes [(qx, .inr (3, [.ref qR, .ref qC, .ref qI, .ref qM, .ref qT, .ref qO, .int rT, .int rL, .int rC, .int rIn, .int cyc, .int wai])), (qR, .inl (cI, 32, .inl fR)), (qC, .inl (cI, 256, .inl fC)), (qI, .inl (cI, 1024, .inl fI)), (qM, .inr (0, [.ref qW, .int mar, .int rst])), (qW, .inl (cI, 1024, .inl fW)), (qT, .inr (2, [.ref qp, .ref qc, .ref qd, .ref qk, .int hand, .int hov, .int said])), (qp, .inl (cI, 16, .inl fp)), (qc, .inl (cI, 16, .inl fc)), (qd, .inl (cI, 16, .inl fd)), (qk, .inl (cZ, 16, .inl fk)), (qO, .inr (1, [.ref qo, .int kept, .int gone])), (qo, .inl (cI, 500, .inl fo))] H := hP
  have hD : va_D A [(qx, .inr (3, [.ref qR, .ref qC, .ref qI, .ref qM, .ref qT, .ref qO, .int rT, .int rL, .int rC, .int rIn, .int cyc, .int wai])), (qR, .inl (cI, 32, .inl fR)), (qC, .inl (cI, 256, .inl fC)), (qI, .inl (cI, 1024, .inl fI)), (qM, .inr (0, [.ref qW, .int mar, .int rst])), (qW, .inl (cI, 1024, .inl fW)), (qT, .inr (2, [.ref qp, .ref qc, .ref qd, .ref qk, .int hand, .int hov, .int said])), (qp, .inl (cI, 16, .inl fp)), (qc, .inl (cI, 16, .inl fc)), (qd, .inl (cI, 16, .inl fd)), (qk, .inl (cZ, 16, .inl fk)), (qO, .inr (1, [.ref qo, .int kept, .int gone])), (qo, .inl (cI, 500, .inl fo))] := hD
  refine lv_istore_n (lv' := [(3, .int ((p0 >>> (20 &&& 31)) &&& 7)), (2, .int (jushr p0 27)), (0, .ref qx), (1, .int p0)]) hx hb dX3_busOf_9 rfl hl (by decide) rfl (fun ls hl => ?_)
  refine lv_iload_n hx hb dX3_busOf_10 rfl (lv_at hl 3 rfl) ?_
  refine ctI_S (As := [.int p0]) (rest := []) (wc := []) (wr := [(qx, .inr (3, [.ref qR, .ref qC, .ref qI, .ref qM, .ref qT, .ref qO, .int rT, .int rL, .int rC, .int rIn, .int cyc, .int wai])), (qR, .inl (cI, 32, .inl fR)), (qC, .inl (cI, 256, .inl fC)), (qI, .inl (cI, 1024, .inl fI)), (qM, .inr (0, [.ref qW, .int mar, .int rst])), (qW, .inl (cI, 1024, .inl fW)), (qT, .inr (2, [.ref qp, .ref qc, .ref qd, .ref qk, .int hand, .int hov, .int said])), (qp, .inl (cI, 16, .inl fp)), (qc, .inl (cI, 16, .inl fc)), (qd, .inl (cI, 16, .inl fd)), (qk, .inl (cZ, 16, .inl fk)), (qO, .inr (1, [.ref qo, .int kept, .int gone])), (qo, .inl (cI, 500, .inl fo))]) ⟨hx, hb, hml, hown, hts⟩ (c_X3_hasConstant l D cI cZ p0) (cwS 1 hts (gd_S wm_X3_128 wt_X3_hasConstant wz_X3 wo_X3_hasConstant) rfl rfl rfl (by decide +kernel) ⟨Nat.le_of_ble_eq_true rfl, Nat.le_of_ble_eq_true rfl⟩) hK hP hD hS hA [] [0, 1, 2, 3, 4, 5, 6, 7, 8, 9, 10, 11, 12] rfl rfl (by decide) (by decide) (by decide) rfl rfl hl.1 (Nat.le_of_ble_eq_true rfl) dX3_busOf_11 ⟨Nat.le_of_ble_eq_true rfl, Nat.le_of_ble_eq_true rfl⟩ (fun H locs hP hD hS => ?_)
  have hP : va_P D classes [(qx, .inr (3, [.ref qR, .ref qC, .ref qI, .ref qM, .ref qT, .ref qO, .int rT, .int rL, .int rC, .int rIn, .int cyc, .int wai])), (qR, .inl (cI, 32, .inl fR)), (qC, .inl (cI, 256, .inl fC)), (qI, .inl (cI, 1024, .inl fI)), (qM, .inr (0, [.ref qW, .int mar, .int rst])), (qW, .inl (cI, 1024, .inl fW)), (qT, .inr (2, [.ref qp, .ref qc, .ref qd, .ref qk, .int hand, .int hov, .int said])), (qp, .inl (cI, 16, .inl fp)), (qc, .inl (cI, 16, .inl fc)), (qd, .inl (cI, 16, .inl fd)), (qk, .inl (cZ, 16, .inl fk)), (qO, .inr (1, [.ref qo, .int kept, .int gone])), (qo, .inl (cI, 500, .inl fo))] H := hP
  have hD : va_D A [(qx, .inr (3, [.ref qR, .ref qC, .ref qI, .ref qM, .ref qT, .ref qO, .int rT, .int rL, .int rC, .int rIn, .int cyc, .int wai])), (qR, .inl (cI, 32, .inl fR)), (qC, .inl (cI, 256, .inl fC)), (qI, .inl (cI, 1024, .inl fI)), (qM, .inr (0, [.ref qW, .int mar, .int rst])), (qW, .inl (cI, 1024, .inl fW)), (qT, .inr (2, [.ref qp, .ref qc, .ref qd, .ref qk, .int hand, .int hov, .int said])), (qp, .inl (cI, 16, .inl fp)), (qc, .inl (cI, 16, .inl fc)), (qd, .inl (cI, 16, .inl fd)), (qk, .inl (cZ, 16, .inl fk)), (qO, .inr (1, [.ref qo, .int kept, .int gone])), (qo, .inl (cI, 500, .inl fo))] := hD
  refine lv_if_eq (tgt := 29) hx hb dX3_busOf_14 (by decide) (fun c_1 => ?_) (fun c_1 => ?_)
  · skip
    refine lv_iload_n hx hb dX3_busOf_29 rfl (lv_at hl 0 rfl) ?_
    by_cases s_2 : ((p0 >>> (20 &&& 31)) &&& 7) = 0
    · skip
      refine lv_tableIn (tgt := 72) (off := 42) hx hb dX3_busOf_30 (by rw [s_2]; decide) (by rw [s_2]; decide) (by rw [s_2]; rfl) (by decide) ?_
      refine lv_aload_n hx hb dX3_busOf_72 rfl (lv_at hl 2 rfl) ?_
      refine va_get (D := D) (ci := 3) (v := .ref qR) (C := RX3) (T := TX3) (N := 12) hx hb hts ilX3 hown hK hP 0 rfl rfl 0 (by decide) (hts _ wf_X3_9) (fun _ h9 => h9) rfl dX3_busOf_73 ?_
      refine lv_iload_n hx hb dX3_busOf_76 rfl (lv_at hl 1 rfl) ?_
      refine va_iald hx hb hK hP 1 0 rfl rfl (vp_rsel _) dX3_busOf_77 ?_
      have e_1 : r_X3_busOf fR fC fW rL rIn mar hand p0 = fR (Int32.toNatClampNeg (jushr p0 27)) := by simp only [r_X3_busOf, if_pos c_1, if_pos s_2]
      exact ct_iret hx hb hr hlocks hP hD hS rfl (by rw [e_1]) dX3_busOf_78
    by_cases s_3 : ((p0 >>> (20 &&& 31)) &&& 7) = 1
    · skip
      refine lv_tableIn (tgt := 79) (off := 49) hx hb dX3_busOf_30 (by rw [s_3]; decide) (by rw [s_3]; decide) (by rw [s_3]; rfl) (by decide) ?_
      refine lv_iconst (v := 0) hx hb dX3_busOf_79 (by decide) ?_
      have e_1 : r_X3_busOf fR fC fW rL rIn mar hand p0 = 0 := by simp only [r_X3_busOf, if_pos c_1, if_neg s_2, if_pos s_3]
      exact ct_iret hx hb hr hlocks hP hD hS rfl (by rw [e_1]) dX3_busOf_80
    by_cases s_4 : ((p0 >>> (20 &&& 31)) &&& 7) = 2
    · skip
      refine lv_tableIn (tgt := 81) (off := 51) hx hb dX3_busOf_30 (by rw [s_4]; decide) (by rw [s_4]; decide) (by rw [s_4]; rfl) (by decide) ?_
      refine lv_ldc (v := 65535) hx hb hown (hts _ wk_X3_44) dX3_busOf_81 ?_
      have e_1 : r_X3_busOf fR fC fW rL rIn mar hand p0 = 65535 := by simp only [r_X3_busOf, if_pos c_1, if_neg s_2, if_neg s_3, if_pos s_4]
      exact ct_iret hx hb hr hlocks hP hD hS rfl (by rw [e_1]) dX3_busOf_83
    by_cases s_5 : ((p0 >>> (20 &&& 31)) &&& 7) = 3
    · skip
      refine lv_tableIn (tgt := 84) (off := 54) hx hb dX3_busOf_30 (by rw [s_5]; decide) (by rw [s_5]; decide) (by rw [s_5]; rfl) (by decide) ?_
      refine lv_aload_n hx hb dX3_busOf_84 rfl (lv_at hl 2 rfl) ?_
      refine va_get (D := D) (ci := 3) (v := .int rIn) (C := RX3) (T := TX3) (N := 12) hx hb hts ilX3 hown hK hP 0 rfl rfl 9 (by decide) (hts _ wf_X3_48) (fun _ h9 => h9) rfl dX3_busOf_85 ?_
      have e_1 : r_X3_busOf fR fC fW rL rIn mar hand p0 = rIn := by simp only [r_X3_busOf, if_pos c_1, if_neg s_2, if_neg s_3, if_neg s_4, if_pos s_5]
      exact ct_iret hx hb hr hlocks hP hD hS rfl (by rw [e_1]) dX3_busOf_88
    by_cases s_6 : ((p0 >>> (20 &&& 31)) &&& 7) = 4
    · skip
      refine lv_tableIn (tgt := 89) (off := 59) hx hb dX3_busOf_30 (by rw [s_6]; decide) (by rw [s_6]; decide) (by rw [s_6]; rfl) (by decide) ?_
      refine lv_aload_n hx hb dX3_busOf_89 rfl (lv_at hl 2 rfl) ?_
      refine va_get (D := D) (ci := 3) (v := .ref qT) (C := RX3) (T := TX3) (N := 12) hx hb hts ilX3 hown hK hP 0 rfl rfl 4 (by decide) (hts _ wf_X3_29) (fun _ h9 => h9) rfl dX3_busOf_90 ?_
      refine va_get (D := D) (ci := 2) (v := .int hand) (C := RX2) (T := TX2) (N := 7) hx hb hts ilX2 hown hK hP 6 rfl rfl 4 (by decide) (hts _ wf_X3_92) (fun _ h9 => h9) rfl dX3_busOf_93 ?_
      have e_1 : r_X3_busOf fR fC fW rL rIn mar hand p0 = hand := by simp only [r_X3_busOf, if_pos c_1, if_neg s_2, if_neg s_3, if_neg s_4, if_neg s_5, if_pos s_6]
      exact ct_iret hx hb hr hlocks hP hD hS rfl (by rw [e_1]) dX3_busOf_96
    by_cases s_7 : ((p0 >>> (20 &&& 31)) &&& 7) = 5
    · skip
      refine lv_tableIn (tgt := 97) (off := 67) hx hb dX3_busOf_30 (by rw [s_7]; decide) (by rw [s_7]; decide) (by rw [s_7]; rfl) (by decide) ?_
      refine lv_aload_n hx hb dX3_busOf_97 rfl (lv_at hl 2 rfl) ?_
      refine va_get (D := D) (ci := 3) (v := .ref qM) (C := RX3) (T := TX3) (N := 12) hx hb hts ilX3 hown hK hP 0 rfl rfl 3 (by decide) (hts _ wf_X3_22) (fun _ h9 => h9) rfl dX3_busOf_98 ?_
      refine ctI_V (As := []) (rest := []) (wc := [(qM, .inr (0, [.ref qW, .int mar, .int rst])), (qW, .inl (cI, 1024, .inl fW))]) (wr := [(qx, .inr (3, [.ref qR, .ref qC, .ref qI, .ref qM, .ref qT, .ref qO, .int rT, .int rL, .int rC, .int rIn, .int cyc, .int wai])), (qR, .inl (cI, 32, .inl fR)), (qC, .inl (cI, 256, .inl fC)), (qI, .inl (cI, 1024, .inl fI)), (qT, .inr (2, [.ref qp, .ref qc, .ref qd, .ref qk, .int hand, .int hov, .int said])), (qp, .inl (cI, 16, .inl fp)), (qc, .inl (cI, 16, .inl fc)), (qd, .inl (cI, 16, .inl fd)), (qk, .inl (cZ, 16, .inl fk)), (qO, .inr (1, [.ref qo, .int kept, .int gone])), (qo, .inl (cI, 500, .inl fo))]) ⟨hx, hb, hml, hown, hts⟩ (c_X0_read l D cI cZ qM qW fW mar rst) (cwV 0 hts (gd_V wm_X3_185 wi_X0_read ws_X0_read wz_X0 wo_X0_read) rfl rfl rfl (by decide +kernel) ⟨Nat.le_of_ble_eq_true rfl, Nat.le_of_ble_eq_true rfl⟩) hK hP hD hS hA 4 rfl rfl rfl [4, 5] [0, 1, 2, 3, 6, 7, 8, 9, 10, 11, 12] rfl rfl (by decide) (by decide) (by decide) rfl rfl hl.1 (Nat.le_of_ble_eq_true rfl) dX3_busOf_101 ⟨Nat.le_of_ble_eq_true rfl, Nat.le_of_ble_eq_true rfl⟩ (fun H locs hP hD hS => ?_)
      have hP : va_P D classes [(qx, .inr (3, [.ref qR, .ref qC, .ref qI, .ref qM, .ref qT, .ref qO, .int rT, .int rL, .int rC, .int rIn, .int cyc, .int wai])), (qR, .inl (cI, 32, .inl fR)), (qC, .inl (cI, 256, .inl fC)), (qI, .inl (cI, 1024, .inl fI)), (qT, .inr (2, [.ref qp, .ref qc, .ref qd, .ref qk, .int hand, .int hov, .int said])), (qp, .inl (cI, 16, .inl fp)), (qc, .inl (cI, 16, .inl fc)), (qd, .inl (cI, 16, .inl fd)), (qk, .inl (cZ, 16, .inl fk)), (qO, .inr (1, [.ref qo, .int kept, .int gone])), (qo, .inl (cI, 500, .inl fo)), (qM, .inr (0, [.ref qW, .int mar, .int rst])), (qW, .inl (cI, 1024, .inl fW))] H := hP
      have hD : va_D A [(qx, .inr (3, [.ref qR, .ref qC, .ref qI, .ref qM, .ref qT, .ref qO, .int rT, .int rL, .int rC, .int rIn, .int cyc, .int wai])), (qR, .inl (cI, 32, .inl fR)), (qC, .inl (cI, 256, .inl fC)), (qI, .inl (cI, 1024, .inl fI)), (qT, .inr (2, [.ref qp, .ref qc, .ref qd, .ref qk, .int hand, .int hov, .int said])), (qp, .inl (cI, 16, .inl fp)), (qc, .inl (cI, 16, .inl fc)), (qd, .inl (cI, 16, .inl fd)), (qk, .inl (cZ, 16, .inl fk)), (qO, .inr (1, [.ref qo, .int kept, .int gone])), (qo, .inl (cI, 500, .inl fo)), (qM, .inr (0, [.ref qW, .int mar, .int rst])), (qW, .inl (cI, 1024, .inl fW))] := hD
      have hP := hP.sub (ws' := [(qx, .inr (3, [.ref qR, .ref qC, .ref qI, .ref qM, .ref qT, .ref qO, .int rT, .int rL, .int rC, .int rIn, .int cyc, .int wai])), (qR, .inl (cI, 32, .inl fR)), (qC, .inl (cI, 256, .inl fC)), (qI, .inl (cI, 1024, .inl fI)), (qM, .inr (0, [.ref qW, .int mar, .int rst])), (qW, .inl (cI, 1024, .inl fW)), (qT, .inr (2, [.ref qp, .ref qc, .ref qd, .ref qk, .int hand, .int hov, .int said])), (qp, .inl (cI, 16, .inl fp)), (qc, .inl (cI, 16, .inl fc)), (qd, .inl (cI, 16, .inl fd)), (qk, .inl (cZ, 16, .inl fk)), (qO, .inr (1, [.ref qo, .int kept, .int gone])), (qo, .inl (cI, 500, .inl fo))]) [0, 1, 2, 3, 11, 12, 4, 5, 6, 7, 8, 9, 10] rfl
      have hD := hD.sub (ws' := [(qx, .inr (3, [.ref qR, .ref qC, .ref qI, .ref qM, .ref qT, .ref qO, .int rT, .int rL, .int rC, .int rIn, .int cyc, .int wai])), (qR, .inl (cI, 32, .inl fR)), (qC, .inl (cI, 256, .inl fC)), (qI, .inl (cI, 1024, .inl fI)), (qM, .inr (0, [.ref qW, .int mar, .int rst])), (qW, .inl (cI, 1024, .inl fW)), (qT, .inr (2, [.ref qp, .ref qc, .ref qd, .ref qk, .int hand, .int hov, .int said])), (qp, .inl (cI, 16, .inl fp)), (qc, .inl (cI, 16, .inl fc)), (qd, .inl (cI, 16, .inl fd)), (qk, .inl (cZ, 16, .inl fk)), (qO, .inr (1, [.ref qo, .int kept, .int gone])), (qo, .inl (cI, 500, .inl fo))]) [0, 1, 2, 3, 11, 12, 4, 5, 6, 7, 8, 9, 10] (by decide) rfl
      have e_1 : r_X3_busOf fR fC fW rL rIn mar hand p0 = fW (Int32.toNatClampNeg (mar &&& 1023)) := by simp only [r_X3_busOf, if_pos c_1, if_neg s_2, if_neg s_3, if_neg s_4, if_neg s_5, if_neg s_6, if_pos s_7]
      exact ct_iret hx hb hr hlocks hP hD hS rfl (by rw [e_1]) dX3_busOf_104
    by_cases s_8 : ((p0 >>> (20 &&& 31)) &&& 7) = 6
    · skip
      refine lv_tableIn (tgt := 105) (off := 75) hx hb dX3_busOf_30 (by rw [s_8]; decide) (by rw [s_8]; decide) (by rw [s_8]; rfl) (by decide) ?_
      refine lv_aload_n hx hb dX3_busOf_105 rfl (lv_at hl 2 rfl) ?_
      refine va_get (D := D) (ci := 3) (v := .int rL) (C := RX3) (T := TX3) (N := 12) hx hb hts ilX3 hown hK hP 0 rfl rfl 7 (by decide) (hts _ wf_X3_72) (fun _ h9 => h9) rfl dX3_busOf_106 ?_
      have e_1 : r_X3_busOf fR fC fW rL rIn mar hand p0 = rL := by simp only [r_X3_busOf, if_pos c_1, if_neg s_2, if_neg s_3, if_neg s_4, if_neg s_5, if_neg s_6, if_neg s_7, if_pos s_8]
      exact ct_iret hx hb hr hlocks hP hD hS rfl (by rw [e_1]) dX3_busOf_109
    refine lv_tableOut (tgt := 110) hx hb dX3_busOf_30 (by have h_s_2 := lv_neT (k := 0) (a := 0) s_2 (by decide); have h_s_3 := lv_neT (k := 1) (a := 1) s_3 (by decide); have h_s_4 := lv_neT (k := 2) (a := 2) s_4 (by decide); have h_s_5 := lv_neT (k := 3) (a := 3) s_5 (by decide); have h_s_6 := lv_neT (k := 4) (a := 4) s_6 (by decide); have h_s_7 := lv_neT (k := 5) (a := 5) s_7 (by decide); have h_s_8 := lv_neT (k := 6) (a := 6) s_8 (by decide); omega) (by decide) ?_
    refine lv_aload_n hx hb dX3_busOf_110 rfl (lv_at hl 2 rfl) ?_
    refine va_get (D := D) (ci := 3) (v := .ref qM) (C := RX3) (T := TX3) (N := 12) hx hb hts ilX3 hown hK hP 0 rfl rfl 3 (by decide) (hts _ wf_X3_22) (fun _ h9 => h9) rfl dX3_busOf_111 ?_
    refine va_get (D := D) (ci := 0) (v := .int mar) (C := RX0) (T := TX0) (N := 3) hx hb hts ilX0 hown hK hP 4 rfl rfl 1 (by decide) (hts _ wf_X3_78) (fun _ h9 => h9) rfl dX3_busOf_114 ?_
    have e_1 : r_X3_busOf fR fC fW rL rIn mar hand p0 = mar := by simp only [r_X3_busOf, if_pos c_1, if_neg s_2, if_neg s_3, if_neg s_4, if_neg s_5, if_neg s_6, if_neg s_7, if_neg s_8]
    exact ct_iret hx hb hr hlocks hP hD hS rfl (by rw [e_1]) dX3_busOf_117
  · skip
    refine lv_aload_n hx hb dX3_busOf_17 rfl (lv_at hl 2 rfl) ?_
    refine va_get (D := D) (ci := 3) (v := .ref qC) (C := RX3) (T := TX3) (N := 12) hx hb hts ilX3 hown hK hP 0 rfl rfl 1 (by decide) (hts _ wf_X3_13) (fun _ h9 => h9) rfl dX3_busOf_18 ?_
    refine lv_bipush (v := 8) hx hb dX3_busOf_21 (by decide) ?_
    refine lv_iload_n hx hb dX3_busOf_23 rfl (lv_at hl 1 rfl) ?_
    refine lv_imul hx hb dX3_busOf_24 ?_
    refine lv_iload_n hx hb dX3_busOf_25 rfl (lv_at hl 0 rfl) ?_
    refine lv_iadd hx hb dX3_busOf_26 ?_
    refine va_iald hx hb hK hP 2 0 rfl rfl (vp_cix _ _) dX3_busOf_27 ?_
    have e_1 : r_X3_busOf fR fC fW rL rIn mar hand p0 = fC (Int32.toNatClampNeg (((8 : Int32) * (jushr p0 27)) + ((p0 >>> (20 &&& 31)) &&& 7))) := by simp only [r_X3_busOf, if_neg c_1]
    exact ct_iret hx hb hr hlocks hP hD hS rfl (by rw [e_1]) dX3_busOf_28
def r_X3_sumOf (rT : Int32) (rC : Int32) (p0 : Int32) (p1 : Int32) : Int32 := (if p0 = 0 then p1 else (if p0 = 1 then rT else (if p0 = 2 then p1 ||| rT else (if p0 = 3 then p1 &&& rT else (if p0 = 4 then p1 ^^^ rT else (if p0 = 5 then p1 + 1 else (if p0 = 6 then p1 + 65535 else (if p0 = 7 then p1 + rT else (if p0 = 8 then (p1 + ((rT ^^^ (-1)) &&& 65535)) + 1 else (if p0 = 9 then p1 + ((rT ^^^ (-1)) &&& 65535) else (if p0 = 10 then (p1 + rT) + 1 else (if p0 = 11 then p1 + rC else (if p0 = 12 then p1 &&& rT else (if p0 = 13 then p1 &&& ((rT ^^^ (-1)) &&& 65535) else 0))))))))))))))
set_option maxHeartbeats 4000000 in
set_option maxRecDepth 100000 in
theorem c_X3_sumOf (l : Launch) (D : va_G) (cI cZ : ClassId) (qx : Nat) (qR : Nat) (qC : Nat) (qI : Nat) (qM : Nat) (qW : Nat) (qT : Nat) (qp : Nat) (qc : Nat) (qd : Nat) (qk : Nat) (qO : Nat) (qo : Nat) (fR : Nat → Int32) (fC : Nat → Int32) (fI : Nat → Int32) (fW : Nat → Int32) (fp : Nat → Int32) (fc : Nat → Int32) (fd : Nat → Int32) (fk : Nat → Int32) (fo : Nat → Int32) (rT : Int32) (rL : Int32) (rC : Int32) (rIn : Int32) (cyc : Int32) (wai : Int32) (mar : Int32) (rst : Int32) (hand : Int32) (hov : Int32) (said : Int32) (kept : Int32) (gone : Int32) (p0 : Int32) (p1 : Int32) : CtI l D classes [(cI, .int), (cZ, .boolean)] yX3_sumOf w_X3_sumOf { frames := 0, cells := 0, slots := 0, locals := 0 } [.ref qx, .int p0, .int p1] [(qx, .inr (3, [.ref qR, .ref qC, .ref qI, .ref qM, .ref qT, .ref qO, .int rT, .int rL, .int rC, .int rIn, .int cyc, .int wai])), (qR, .inl (cI, 32, .inl fR)), (qC, .inl (cI, 256, .inl fC)), (qI, .inl (cI, 1024, .inl fI)), (qM, .inr (0, [.ref qW, .int mar, .int rst])), (qW, .inl (cI, 1024, .inl fW)), (qT, .inr (2, [.ref qp, .ref qc, .ref qd, .ref qk, .int hand, .int hov, .int said])), (qp, .inl (cI, 16, .inl fp)), (qc, .inl (cI, 16, .inl fc)), (qd, .inl (cI, 16, .inl fd)), (qk, .inl (cZ, 16, .inl fk)), (qO, .inr (1, [.ref qo, .int kept, .int gone])), (qo, .inl (cI, 500, .inl fo))] [(qx, .inr (3, [.ref qR, .ref qC, .ref qI, .ref qM, .ref qT, .ref qO, .int rT, .int rL, .int rC, .int rIn, .int cyc, .int wai])), (qR, .inl (cI, 32, .inl fR)), (qC, .inl (cI, 256, .inl fC)), (qI, .inl (cI, 1024, .inl fI)), (qM, .inr (0, [.ref qW, .int mar, .int rst])), (qW, .inl (cI, 1024, .inl fW)), (qT, .inr (2, [.ref qp, .ref qc, .ref qd, .ref qk, .int hand, .int hov, .int said])), (qp, .inl (cI, 16, .inl fp)), (qc, .inl (cI, 16, .inl fc)), (qd, .inl (cI, 16, .inl fd)), (qk, .inl (cZ, 16, .inl fk)), (qO, .inr (1, [.ref qo, .int kept, .int gone])), (qo, .inl (cI, 500, .inl fo))] (r_X3_sumOf rT rC p0 p1) := by
  refine CtI.mk (cc := cX3_sumOf) (maxL := 4) (ret := (some .int)) (by decide) rfl (Nat.le_of_ble_eq_true rfl) ?_
  intro p e s m below meth c A hBeg ls hl
  obtain ⟨hx, hb, hr, hml, hts0, hown, hlocks, hin, hA, hK, hP, hD, hS⟩ := hBeg
  have hts := fun w h => hts0 w (List.mem_cons_of_mem _ h)
  have hown : s.vm.findClass RX3 = some m.cls := hown
  have hl : lv_has ls 4 [(0, .ref qx), (1, .int p0), (2, .int p1)] := hl
  skip
  refine lv_aload_n hx hb dX3_sumOf_0 rfl (lv_at hl 0 rfl) ?_
  refine va_get (D := D) (ci := 3) (v := .int rT) (C := RX3) (T := TX3) (N := 12) hx hb hts ilX3 hown hK hP 0 rfl rfl 6 (by decide) (hts _ wf_X3_69) (fun _ h9 => h9) rfl dX3_sumOf_1 ?_
  refine lv_iconst (v := (-1)) hx hb dX3_sumOf_4 (by decide) ?_
  refine lv_ixor hx hb dX3_sumOf_5 ?_
  refine lv_ldc (v := 65535) hx hb hown (hts _ wk_X3_44) dX3_sumOf_6 ?_
  refine lv_iand hx hb dX3_sumOf_8 ?_
  refine lv_istore_n (lv' := [(3, .int ((rT ^^^ (-1)) &&& 65535)), (0, .ref qx), (1, .int p0), (2, .int p1)]) hx hb dX3_sumOf_9 rfl hl (by decide) rfl (fun ls hl => ?_)
  refine lv_iload_n hx hb dX3_sumOf_10 rfl (lv_at hl 2 rfl) ?_
  by_cases s_1 : p0 = 0
  · skip
    refine lv_tableIn (tgt := 80) (off := 69) hx hb dX3_sumOf_11 (by rw [s_1]; decide) (by rw [s_1]; decide) (by rw [s_1]; rfl) (by decide) ?_
    refine lv_iload_n hx hb dX3_sumOf_80 rfl (lv_at hl 3 rfl) ?_
    have e_1 : r_X3_sumOf rT rC p0 p1 = p1 := by simp only [r_X3_sumOf, if_pos s_1]
    exact ct_iret hx hb hr hlocks hP hD hS rfl (by rw [e_1]) dX3_sumOf_81
  by_cases s_2 : p0 = 1
  · skip
    refine lv_tableIn (tgt := 82) (off := 71) hx hb dX3_sumOf_11 (by rw [s_2]; decide) (by rw [s_2]; decide) (by rw [s_2]; rfl) (by decide) ?_
    refine lv_aload_n hx hb dX3_sumOf_82 rfl (lv_at hl 1 rfl) ?_
    refine va_get (D := D) (ci := 3) (v := .int rT) (C := RX3) (T := TX3) (N := 12) hx hb hts ilX3 hown hK hP 0 rfl rfl 6 (by decide) (hts _ wf_X3_69) (fun _ h9 => h9) rfl dX3_sumOf_83 ?_
    have e_1 : r_X3_sumOf rT rC p0 p1 = rT := by simp only [r_X3_sumOf, if_neg s_1, if_pos s_2]
    exact ct_iret hx hb hr hlocks hP hD hS rfl (by rw [e_1]) dX3_sumOf_86
  by_cases s_3 : p0 = 2
  · skip
    refine lv_tableIn (tgt := 87) (off := 76) hx hb dX3_sumOf_11 (by rw [s_3]; decide) (by rw [s_3]; decide) (by rw [s_3]; rfl) (by decide) ?_
    refine lv_iload_n hx hb dX3_sumOf_87 rfl (lv_at hl 3 rfl) ?_
    refine lv_aload_n hx hb dX3_sumOf_88 rfl (lv_at hl 1 rfl) ?_
    refine va_get (D := D) (ci := 3) (v := .int rT) (C := RX3) (T := TX3) (N := 12) hx hb hts ilX3 hown hK hP 0 rfl rfl 6 (by decide) (hts _ wf_X3_69) (fun _ h9 => h9) rfl dX3_sumOf_89 ?_
    refine lv_ior hx hb dX3_sumOf_92 ?_
    have e_1 : r_X3_sumOf rT rC p0 p1 = p1 ||| rT := by simp only [r_X3_sumOf, if_neg s_1, if_neg s_2, if_pos s_3]
    exact ct_iret hx hb hr hlocks hP hD hS rfl (by rw [e_1]) dX3_sumOf_93
  by_cases s_4 : p0 = 3
  · skip
    refine lv_tableIn (tgt := 94) (off := 83) hx hb dX3_sumOf_11 (by rw [s_4]; decide) (by rw [s_4]; decide) (by rw [s_4]; rfl) (by decide) ?_
    refine lv_iload_n hx hb dX3_sumOf_94 rfl (lv_at hl 3 rfl) ?_
    refine lv_aload_n hx hb dX3_sumOf_95 rfl (lv_at hl 1 rfl) ?_
    refine va_get (D := D) (ci := 3) (v := .int rT) (C := RX3) (T := TX3) (N := 12) hx hb hts ilX3 hown hK hP 0 rfl rfl 6 (by decide) (hts _ wf_X3_69) (fun _ h9 => h9) rfl dX3_sumOf_96 ?_
    refine lv_iand hx hb dX3_sumOf_99 ?_
    have e_1 : r_X3_sumOf rT rC p0 p1 = p1 &&& rT := by simp only [r_X3_sumOf, if_neg s_1, if_neg s_2, if_neg s_3, if_pos s_4]
    exact ct_iret hx hb hr hlocks hP hD hS rfl (by rw [e_1]) dX3_sumOf_100
  by_cases s_5 : p0 = 4
  · skip
    refine lv_tableIn (tgt := 101) (off := 90) hx hb dX3_sumOf_11 (by rw [s_5]; decide) (by rw [s_5]; decide) (by rw [s_5]; rfl) (by decide) ?_
    refine lv_iload_n hx hb dX3_sumOf_101 rfl (lv_at hl 3 rfl) ?_
    refine lv_aload_n hx hb dX3_sumOf_102 rfl (lv_at hl 1 rfl) ?_
    refine va_get (D := D) (ci := 3) (v := .int rT) (C := RX3) (T := TX3) (N := 12) hx hb hts ilX3 hown hK hP 0 rfl rfl 6 (by decide) (hts _ wf_X3_69) (fun _ h9 => h9) rfl dX3_sumOf_103 ?_
    refine lv_ixor hx hb dX3_sumOf_106 ?_
    have e_1 : r_X3_sumOf rT rC p0 p1 = p1 ^^^ rT := by simp only [r_X3_sumOf, if_neg s_1, if_neg s_2, if_neg s_3, if_neg s_4, if_pos s_5]
    exact ct_iret hx hb hr hlocks hP hD hS rfl (by rw [e_1]) dX3_sumOf_107
  by_cases s_6 : p0 = 5
  · skip
    refine lv_tableIn (tgt := 108) (off := 97) hx hb dX3_sumOf_11 (by rw [s_6]; decide) (by rw [s_6]; decide) (by rw [s_6]; rfl) (by decide) ?_
    refine lv_iload_n hx hb dX3_sumOf_108 rfl (lv_at hl 3 rfl) ?_
    refine lv_iconst (v := 1) hx hb dX3_sumOf_109 (by decide) ?_
    refine lv_iadd hx hb dX3_sumOf_110 ?_
    have e_1 : r_X3_sumOf rT rC p0 p1 = p1 + 1 := by simp only [r_X3_sumOf, if_neg s_1, if_neg s_2, if_neg s_3, if_neg s_4, if_neg s_5, if_pos s_6]
    exact ct_iret hx hb hr hlocks hP hD hS rfl (by rw [e_1]) dX3_sumOf_111
  by_cases s_7 : p0 = 6
  · skip
    refine lv_tableIn (tgt := 112) (off := 101) hx hb dX3_sumOf_11 (by rw [s_7]; decide) (by rw [s_7]; decide) (by rw [s_7]; rfl) (by decide) ?_
    refine lv_iload_n hx hb dX3_sumOf_112 rfl (lv_at hl 3 rfl) ?_
    refine lv_ldc (v := 65535) hx hb hown (hts _ wk_X3_44) dX3_sumOf_113 ?_
    refine lv_iadd hx hb dX3_sumOf_115 ?_
    have e_1 : r_X3_sumOf rT rC p0 p1 = p1 + 65535 := by simp only [r_X3_sumOf, if_neg s_1, if_neg s_2, if_neg s_3, if_neg s_4, if_neg s_5, if_neg s_6, if_pos s_7]
    exact ct_iret hx hb hr hlocks hP hD hS rfl (by rw [e_1]) dX3_sumOf_116
  by_cases s_8 : p0 = 7
  · skip
    refine lv_tableIn (tgt := 117) (off := 106) hx hb dX3_sumOf_11 (by rw [s_8]; decide) (by rw [s_8]; decide) (by rw [s_8]; rfl) (by decide) ?_
    refine lv_iload_n hx hb dX3_sumOf_117 rfl (lv_at hl 3 rfl) ?_
    refine lv_aload_n hx hb dX3_sumOf_118 rfl (lv_at hl 1 rfl) ?_
    refine va_get (D := D) (ci := 3) (v := .int rT) (C := RX3) (T := TX3) (N := 12) hx hb hts ilX3 hown hK hP 0 rfl rfl 6 (by decide) (hts _ wf_X3_69) (fun _ h9 => h9) rfl dX3_sumOf_119 ?_
    refine lv_iadd hx hb dX3_sumOf_122 ?_
    have e_1 : r_X3_sumOf rT rC p0 p1 = p1 + rT := by simp only [r_X3_sumOf, if_neg s_1, if_neg s_2, if_neg s_3, if_neg s_4, if_neg s_5, if_neg s_6, if_neg s_7, if_pos s_8]
    exact ct_iret hx hb hr hlocks hP hD hS rfl (by rw [e_1]) dX3_sumOf_123
  by_cases s_9 : p0 = 8
  · skip
    refine lv_tableIn (tgt := 124) (off := 113) hx hb dX3_sumOf_11 (by rw [s_9]; decide) (by rw [s_9]; decide) (by rw [s_9]; rfl) (by decide) ?_
    refine lv_iload_n hx hb dX3_sumOf_124 rfl (lv_at hl 3 rfl) ?_
    refine lv_iload_n hx hb dX3_sumOf_125 rfl (lv_at hl 0 rfl) ?_
    refine lv_iadd hx hb dX3_sumOf_126 ?_
    refine lv_iconst (v := 1) hx hb dX3_sumOf_127 (by decide) ?_
    refine lv_iadd hx hb dX3_sumOf_128 ?_
    have e_1 : r_X3_sumOf rT rC p0 p1 = (p1 + ((rT ^^^ (-1)) &&& 65535)) + 1 := by simp only [r_X3_sumOf, if_neg s_1, if_neg s_2, if_neg s_3, if_neg s_4, if_neg s_5, if_neg s_6, if_neg s_7, if_neg s_8, if_pos s_9]
    exact ct_iret hx hb hr hlocks hP hD hS rfl (by rw [e_1]) dX3_sumOf_129
  by_cases s_10 : p0 = 9
  · skip
    refine lv_tableIn (tgt := 130) (off := 119) hx hb dX3_sumOf_11 (by rw [s_10]; decide) (by rw [s_10]; decide) (by rw [s_10]; rfl) (by decide) ?_
    refine lv_iload_n hx hb dX3_sumOf_130 rfl (lv_at hl 3 rfl) ?_
    refine lv_iload_n hx hb dX3_sumOf_131 rfl (lv_at hl 0 rfl) ?_
    refine lv_iadd hx hb dX3_sumOf_132 ?_
    have e_1 : r_X3_sumOf rT rC p0 p1 = p1 + ((rT ^^^ (-1)) &&& 65535) := by simp only [r_X3_sumOf, if_neg s_1, if_neg s_2, if_neg s_3, if_neg s_4, if_neg s_5, if_neg s_6, if_neg s_7, if_neg s_8, if_neg s_9, if_pos s_10]
    exact ct_iret hx hb hr hlocks hP hD hS rfl (by rw [e_1]) dX3_sumOf_133
  by_cases s_11 : p0 = 10
  · skip
    refine lv_tableIn (tgt := 134) (off := 123) hx hb dX3_sumOf_11 (by rw [s_11]; decide) (by rw [s_11]; decide) (by rw [s_11]; rfl) (by decide) ?_
    refine lv_iload_n hx hb dX3_sumOf_134 rfl (lv_at hl 3 rfl) ?_
    refine lv_aload_n hx hb dX3_sumOf_135 rfl (lv_at hl 1 rfl) ?_
    refine va_get (D := D) (ci := 3) (v := .int rT) (C := RX3) (T := TX3) (N := 12) hx hb hts ilX3 hown hK hP 0 rfl rfl 6 (by decide) (hts _ wf_X3_69) (fun _ h9 => h9) rfl dX3_sumOf_136 ?_
    refine lv_iadd hx hb dX3_sumOf_139 ?_
    refine lv_iconst (v := 1) hx hb dX3_sumOf_140 (by decide) ?_
    refine lv_iadd hx hb dX3_sumOf_141 ?_
    have e_1 : r_X3_sumOf rT rC p0 p1 = (p1 + rT) + 1 := by simp only [r_X3_sumOf, if_neg s_1, if_neg s_2, if_neg s_3, if_neg s_4, if_neg s_5, if_neg s_6, if_neg s_7, if_neg s_8, if_neg s_9, if_neg s_10, if_pos s_11]
    exact ct_iret hx hb hr hlocks hP hD hS rfl (by rw [e_1]) dX3_sumOf_142
  by_cases s_12 : p0 = 11
  · skip
    refine lv_tableIn (tgt := 143) (off := 132) hx hb dX3_sumOf_11 (by rw [s_12]; decide) (by rw [s_12]; decide) (by rw [s_12]; rfl) (by decide) ?_
    refine lv_iload_n hx hb dX3_sumOf_143 rfl (lv_at hl 3 rfl) ?_
    refine lv_aload_n hx hb dX3_sumOf_144 rfl (lv_at hl 1 rfl) ?_
    refine va_get (D := D) (ci := 3) (v := .int rC) (C := RX3) (T := TX3) (N := 12) hx hb hts ilX3 hown hK hP 0 rfl rfl 8 (by decide) (hts _ wf_X3_75) (fun _ h9 => h9) rfl dX3_sumOf_145 ?_
    refine lv_iadd hx hb dX3_sumOf_148 ?_
    have e_1 : r_X3_sumOf rT rC p0 p1 = p1 + rC := by simp only [r_X3_sumOf, if_neg s_1, if_neg s_2, if_neg s_3, if_neg s_4, if_neg s_5, if_neg s_6, if_neg s_7, if_neg s_8, if_neg s_9, if_neg s_10, if_neg s_11, if_pos s_12]
    exact ct_iret hx hb hr hlocks hP hD hS rfl (by rw [e_1]) dX3_sumOf_149
  by_cases s_13 : p0 = 12
  · skip
    refine lv_tableIn (tgt := 94) (off := 83) hx hb dX3_sumOf_11 (by rw [s_13]; decide) (by rw [s_13]; decide) (by rw [s_13]; rfl) (by decide) ?_
    refine lv_iload_n hx hb dX3_sumOf_94 rfl (lv_at hl 3 rfl) ?_
    refine lv_aload_n hx hb dX3_sumOf_95 rfl (lv_at hl 1 rfl) ?_
    refine va_get (D := D) (ci := 3) (v := .int rT) (C := RX3) (T := TX3) (N := 12) hx hb hts ilX3 hown hK hP 0 rfl rfl 6 (by decide) (hts _ wf_X3_69) (fun _ h9 => h9) rfl dX3_sumOf_96 ?_
    refine lv_iand hx hb dX3_sumOf_99 ?_
    have e_1 : r_X3_sumOf rT rC p0 p1 = p1 &&& rT := by simp only [r_X3_sumOf, if_neg s_1, if_neg s_2, if_neg s_3, if_neg s_4, if_neg s_5, if_neg s_6, if_neg s_7, if_neg s_8, if_neg s_9, if_neg s_10, if_neg s_11, if_neg s_12, if_pos s_13]
    exact ct_iret hx hb hr hlocks hP hD hS rfl (by rw [e_1]) dX3_sumOf_100
  by_cases s_14 : p0 = 13
  · skip
    refine lv_tableIn (tgt := 150) (off := 139) hx hb dX3_sumOf_11 (by rw [s_14]; decide) (by rw [s_14]; decide) (by rw [s_14]; rfl) (by decide) ?_
    refine lv_iload_n hx hb dX3_sumOf_150 rfl (lv_at hl 3 rfl) ?_
    refine lv_iload_n hx hb dX3_sumOf_151 rfl (lv_at hl 0 rfl) ?_
    refine lv_iand hx hb dX3_sumOf_152 ?_
    have e_1 : r_X3_sumOf rT rC p0 p1 = p1 &&& ((rT ^^^ (-1)) &&& 65535) := by simp only [r_X3_sumOf, if_neg s_1, if_neg s_2, if_neg s_3, if_neg s_4, if_neg s_5, if_neg s_6, if_neg s_7, if_neg s_8, if_neg s_9, if_neg s_10, if_neg s_11, if_neg s_12, if_neg s_13, if_pos s_14]
    exact ct_iret hx hb hr hlocks hP hD hS rfl (by rw [e_1]) dX3_sumOf_153
  refine lv_tableOut (tgt := 154) hx hb dX3_sumOf_11 (by have h_s_1 := lv_neT (k := 0) (a := 0) s_1 (by decide); have h_s_2 := lv_neT (k := 1) (a := 1) s_2 (by decide); have h_s_3 := lv_neT (k := 2) (a := 2) s_3 (by decide); have h_s_4 := lv_neT (k := 3) (a := 3) s_4 (by decide); have h_s_5 := lv_neT (k := 4) (a := 4) s_5 (by decide); have h_s_6 := lv_neT (k := 5) (a := 5) s_6 (by decide); have h_s_7 := lv_neT (k := 6) (a := 6) s_7 (by decide); have h_s_8 := lv_neT (k := 7) (a := 7) s_8 (by decide); have h_s_9 := lv_neT (k := 8) (a := 8) s_9 (by decide); have h_s_10 := lv_neT (k := 9) (a := 9) s_10 (by decide); have h_s_11 := lv_neT (k := 10) (a := 10) s_11 (by decide); have h_s_12 := lv_neT (k := 11) (a := 11) s_12 (by decide); have h_s_13 := lv_neT (k := 12) (a := 12) s_13 (by decide); have h_s_14 := lv_neT (k := 13) (a := 13) s_14 (by decide); omega) (by decide) ?_
  refine lv_iconst (v := 0) hx hb dX3_sumOf_154 (by decide) ?_
  have e_1 : r_X3_sumOf rT rC p0 p1 = 0 := by simp only [r_X3_sumOf, if_neg s_1, if_neg s_2, if_neg s_3, if_neg s_4, if_neg s_5, if_neg s_6, if_neg s_7, if_neg s_8, if_neg s_9, if_neg s_10, if_neg s_11, if_neg s_12, if_neg s_13, if_neg s_14]
  exact ct_iret hx hb hr hlocks hP hD hS rfl (by rw [e_1]) dX3_sumOf_155
def r_X3_changeOf (rC : Int32) (rIn : Int32) (p0 : Int32) (p1 : Int32) (p2 : Int32) : Int32 := (if p0 = 1 then (if p1 = 0 then 1 else 0) else (if p0 = 2 then p2 >>> (15 &&& 31) else (if p0 = 3 then (if p2 = 0 then 1 else 0) else (if p0 = 4 then p1 &&& 1023 else (if p0 = 5 then rC else (if p0 = 6 then 0 else (if p0 = 7 then 0 else (if p0 = 8 then rIn &&& 1 else 0))))))))
set_option maxHeartbeats 4000000 in
set_option maxRecDepth 100000 in
theorem c_X3_changeOf (l : Launch) (D : va_G) (cI cZ : ClassId) (qx : Nat) (qR : Nat) (qC : Nat) (qI : Nat) (qM : Nat) (qW : Nat) (qT : Nat) (qp : Nat) (qc : Nat) (qd : Nat) (qk : Nat) (qO : Nat) (qo : Nat) (fR : Nat → Int32) (fC : Nat → Int32) (fI : Nat → Int32) (fW : Nat → Int32) (fp : Nat → Int32) (fc : Nat → Int32) (fd : Nat → Int32) (fk : Nat → Int32) (fo : Nat → Int32) (rT : Int32) (rL : Int32) (rC : Int32) (rIn : Int32) (cyc : Int32) (wai : Int32) (mar : Int32) (rst : Int32) (hand : Int32) (hov : Int32) (said : Int32) (kept : Int32) (gone : Int32) (p0 : Int32) (p1 : Int32) (p2 : Int32) : CtI l D classes [(cI, .int), (cZ, .boolean)] yX3_changeOf w_X3_changeOf { frames := 0, cells := 0, slots := 0, locals := 0 } [.ref qx, .int p0, .int p1, .int p2] [(qx, .inr (3, [.ref qR, .ref qC, .ref qI, .ref qM, .ref qT, .ref qO, .int rT, .int rL, .int rC, .int rIn, .int cyc, .int wai])), (qR, .inl (cI, 32, .inl fR)), (qC, .inl (cI, 256, .inl fC)), (qI, .inl (cI, 1024, .inl fI)), (qM, .inr (0, [.ref qW, .int mar, .int rst])), (qW, .inl (cI, 1024, .inl fW)), (qT, .inr (2, [.ref qp, .ref qc, .ref qd, .ref qk, .int hand, .int hov, .int said])), (qp, .inl (cI, 16, .inl fp)), (qc, .inl (cI, 16, .inl fc)), (qd, .inl (cI, 16, .inl fd)), (qk, .inl (cZ, 16, .inl fk)), (qO, .inr (1, [.ref qo, .int kept, .int gone])), (qo, .inl (cI, 500, .inl fo))] [(qx, .inr (3, [.ref qR, .ref qC, .ref qI, .ref qM, .ref qT, .ref qO, .int rT, .int rL, .int rC, .int rIn, .int cyc, .int wai])), (qR, .inl (cI, 32, .inl fR)), (qC, .inl (cI, 256, .inl fC)), (qI, .inl (cI, 1024, .inl fI)), (qM, .inr (0, [.ref qW, .int mar, .int rst])), (qW, .inl (cI, 1024, .inl fW)), (qT, .inr (2, [.ref qp, .ref qc, .ref qd, .ref qk, .int hand, .int hov, .int said])), (qp, .inl (cI, 16, .inl fp)), (qc, .inl (cI, 16, .inl fc)), (qd, .inl (cI, 16, .inl fd)), (qk, .inl (cZ, 16, .inl fk)), (qO, .inr (1, [.ref qo, .int kept, .int gone])), (qo, .inl (cI, 500, .inl fo))] (r_X3_changeOf rC rIn p0 p1 p2) := by
  refine CtI.mk (cc := cX3_changeOf) (maxL := 4) (ret := (some .int)) (by decide) rfl (Nat.le_of_ble_eq_true rfl) ?_
  intro p e s m below meth c A hBeg ls hl
  obtain ⟨hx, hb, hr, hml, hts0, hown, hlocks, hin, hA, hK, hP, hD, hS⟩ := hBeg
  have hts := fun w h => hts0 w (List.mem_cons_of_mem _ h)
  have hown : s.vm.findClass RX3 = some m.cls := hown
  have hl : lv_has ls 4 [(0, .ref qx), (1, .int p0), (2, .int p1), (3, .int p2)] := hl
  skip
  refine lv_iload_n hx hb dX3_changeOf_0 rfl (lv_at hl 1 rfl) ?_
  by_cases s_1 : p0 = 1
  · skip
    refine lv_tableIn (tgt := 48) (off := 47) hx hb dX3_changeOf_1 (by rw [s_1]; decide) (by rw [s_1]; decide) (by rw [s_1]; rfl) (by decide) ?_
    refine lv_iload_n hx hb dX3_changeOf_48 rfl (lv_at hl 2 rfl) ?_
    refine lv_if_ne (tgt := 56) hx hb dX3_changeOf_49 (by decide) (fun c_2 => ?_) (fun c_2 => ?_)
    · skip
      refine lv_iconst (v := 0) hx hb dX3_changeOf_56 (by decide) ?_
      have e_1 : r_X3_changeOf rC rIn p0 p1 p2 = 0 := by simp only [r_X3_changeOf, if_pos s_1, if_neg c_2]
      exact ct_iret hx hb hr hlocks hP hD hS rfl (by rw [e_1]) dX3_changeOf_57
    · skip
      refine lv_iconst (v := 1) hx hb dX3_changeOf_52 (by decide) ?_
      refine lv_goto (tgt := 57) hx hb dX3_changeOf_53 (by decide) ?_
      have e_1 : r_X3_changeOf rC rIn p0 p1 p2 = 1 := by simp only [r_X3_changeOf, if_pos s_1, if_pos c_2]
      exact ct_iret hx hb hr hlocks hP hD hS rfl (by rw [e_1]) dX3_changeOf_57
  by_cases s_3 : p0 = 2
  · skip
    refine lv_tableIn (tgt := 58) (off := 57) hx hb dX3_changeOf_1 (by rw [s_3]; decide) (by rw [s_3]; decide) (by rw [s_3]; rfl) (by decide) ?_
    refine lv_iload_n hx hb dX3_changeOf_58 rfl (lv_at hl 3 rfl) ?_
    refine lv_bipush (v := 15) hx hb dX3_changeOf_59 (by decide) ?_
    refine lv_ishr hx hb dX3_changeOf_61 ?_
    have e_1 : r_X3_changeOf rC rIn p0 p1 p2 = p2 >>> (15 &&& 31) := by simp only [r_X3_changeOf, if_neg s_1, if_pos s_3]
    exact ct_iret hx hb hr hlocks hP hD hS rfl (by rw [e_1]) dX3_changeOf_62
  by_cases s_4 : p0 = 3
  · skip
    refine lv_tableIn (tgt := 63) (off := 62) hx hb dX3_changeOf_1 (by rw [s_4]; decide) (by rw [s_4]; decide) (by rw [s_4]; rfl) (by decide) ?_
    refine lv_iload_n hx hb dX3_changeOf_63 rfl (lv_at hl 3 rfl) ?_
    refine lv_if_ne (tgt := 71) hx hb dX3_changeOf_64 (by decide) (fun c_5 => ?_) (fun c_5 => ?_)
    · skip
      refine lv_iconst (v := 0) hx hb dX3_changeOf_71 (by decide) ?_
      have e_1 : r_X3_changeOf rC rIn p0 p1 p2 = 0 := by simp only [r_X3_changeOf, if_neg s_1, if_neg s_3, if_pos s_4, if_neg c_5]
      exact ct_iret hx hb hr hlocks hP hD hS rfl (by rw [e_1]) dX3_changeOf_72
    · skip
      refine lv_iconst (v := 1) hx hb dX3_changeOf_67 (by decide) ?_
      refine lv_goto (tgt := 72) hx hb dX3_changeOf_68 (by decide) ?_
      have e_1 : r_X3_changeOf rC rIn p0 p1 p2 = 1 := by simp only [r_X3_changeOf, if_neg s_1, if_neg s_3, if_pos s_4, if_pos c_5]
      exact ct_iret hx hb hr hlocks hP hD hS rfl (by rw [e_1]) dX3_changeOf_72
  by_cases s_6 : p0 = 4
  · skip
    refine lv_tableIn (tgt := 73) (off := 72) hx hb dX3_changeOf_1 (by rw [s_6]; decide) (by rw [s_6]; decide) (by rw [s_6]; rfl) (by decide) ?_
    refine lv_iload_n hx hb dX3_changeOf_73 rfl (lv_at hl 2 rfl) ?_
    refine lv_sipush (v := 1023) hx hb dX3_changeOf_74 (by decide) ?_
    refine lv_iand hx hb dX3_changeOf_77 ?_
    have e_1 : r_X3_changeOf rC rIn p0 p1 p2 = p1 &&& 1023 := by simp only [r_X3_changeOf, if_neg s_1, if_neg s_3, if_neg s_4, if_pos s_6]
    exact ct_iret hx hb hr hlocks hP hD hS rfl (by rw [e_1]) dX3_changeOf_78
  by_cases s_7 : p0 = 5
  · skip
    refine lv_tableIn (tgt := 79) (off := 78) hx hb dX3_changeOf_1 (by rw [s_7]; decide) (by rw [s_7]; decide) (by rw [s_7]; rfl) (by decide) ?_
    refine lv_aload_n hx hb dX3_changeOf_79 rfl (lv_at hl 0 rfl) ?_
    refine va_get (D := D) (ci := 3) (v := .int rC) (C := RX3) (T := TX3) (N := 12) hx hb hts ilX3 hown hK hP 0 rfl rfl 8 (by decide) (hts _ wf_X3_75) (fun _ h9 => h9) rfl dX3_changeOf_80 ?_
    have e_1 : r_X3_changeOf rC rIn p0 p1 p2 = rC := by simp only [r_X3_changeOf, if_neg s_1, if_neg s_3, if_neg s_4, if_neg s_6, if_pos s_7]
    exact ct_iret hx hb hr hlocks hP hD hS rfl (by rw [e_1]) dX3_changeOf_83
  by_cases s_8 : p0 = 6
  · skip
    refine lv_tableIn (tgt := 91) (off := 90) hx hb dX3_changeOf_1 (by rw [s_8]; decide) (by rw [s_8]; decide) (by rw [s_8]; rfl) (by decide) ?_
    refine lv_iconst (v := 0) hx hb dX3_changeOf_91 (by decide) ?_
    have e_1 : r_X3_changeOf rC rIn p0 p1 p2 = 0 := by simp only [r_X3_changeOf, if_neg s_1, if_neg s_3, if_neg s_4, if_neg s_6, if_neg s_7, if_pos s_8]
    exact ct_iret hx hb hr hlocks hP hD hS rfl (by rw [e_1]) dX3_changeOf_92
  by_cases s_9 : p0 = 7
  · skip
    refine lv_tableIn (tgt := 91) (off := 90) hx hb dX3_changeOf_1 (by rw [s_9]; decide) (by rw [s_9]; decide) (by rw [s_9]; rfl) (by decide) ?_
    refine lv_iconst (v := 0) hx hb dX3_changeOf_91 (by decide) ?_
    have e_1 : r_X3_changeOf rC rIn p0 p1 p2 = 0 := by simp only [r_X3_changeOf, if_neg s_1, if_neg s_3, if_neg s_4, if_neg s_6, if_neg s_7, if_neg s_8, if_pos s_9]
    exact ct_iret hx hb hr hlocks hP hD hS rfl (by rw [e_1]) dX3_changeOf_92
  by_cases s_10 : p0 = 8
  · skip
    refine lv_tableIn (tgt := 84) (off := 83) hx hb dX3_changeOf_1 (by rw [s_10]; decide) (by rw [s_10]; decide) (by rw [s_10]; rfl) (by decide) ?_
    refine lv_aload_n hx hb dX3_changeOf_84 rfl (lv_at hl 0 rfl) ?_
    refine va_get (D := D) (ci := 3) (v := .int rIn) (C := RX3) (T := TX3) (N := 12) hx hb hts ilX3 hown hK hP 0 rfl rfl 9 (by decide) (hts _ wf_X3_48) (fun _ h9 => h9) rfl dX3_changeOf_85 ?_
    refine lv_iconst (v := 1) hx hb dX3_changeOf_88 (by decide) ?_
    refine lv_iand hx hb dX3_changeOf_89 ?_
    have e_1 : r_X3_changeOf rC rIn p0 p1 p2 = rIn &&& 1 := by simp only [r_X3_changeOf, if_neg s_1, if_neg s_3, if_neg s_4, if_neg s_6, if_neg s_7, if_neg s_8, if_neg s_9, if_pos s_10]
    exact ct_iret hx hb hr hlocks hP hD hS rfl (by rw [e_1]) dX3_changeOf_90
  refine lv_tableOut (tgt := 91) hx hb dX3_changeOf_1 (by have h_s_1 := lv_neT (k := 1) (a := 1) s_1 (by decide); have h_s_3 := lv_neT (k := 2) (a := 2) s_3 (by decide); have h_s_4 := lv_neT (k := 3) (a := 3) s_4 (by decide); have h_s_6 := lv_neT (k := 4) (a := 4) s_6 (by decide); have h_s_7 := lv_neT (k := 5) (a := 5) s_7 (by decide); have h_s_8 := lv_neT (k := 6) (a := 6) s_8 (by decide); have h_s_9 := lv_neT (k := 7) (a := 7) s_9 (by decide); have h_s_10 := lv_neT (k := 8) (a := 8) s_10 (by decide); omega) (by decide) ?_
  refine lv_iconst (v := 0) hx hb dX3_changeOf_91 (by decide) ?_
  have e_1 : r_X3_changeOf rC rIn p0 p1 p2 = 0 := by simp only [r_X3_changeOf, if_neg s_1, if_neg s_3, if_neg s_4, if_neg s_6, if_neg s_7, if_neg s_8, if_neg s_9, if_neg s_10]
  exact ct_iret hx hb hr hlocks hP hD hS rfl (by rw [e_1]) dX3_changeOf_92
def j_X3_useMemory_17_qW (fW : Nat → Int32) (mar : Int32) (p0 : Int32) (p1 : Int32) : Nat → Int32 := (if ((p0 >>> (12 &&& 31)) &&& 15) = 6 then upd fW (Int32.toNatClampNeg (mar &&& 1023)) p1 else fW)
def z_X3_useMemory_qM1 (mar : Int32) (p0 : Int32) (p2 : Int32) : Int32 := (if ((p0 >>> (16 &&& 31)) &&& 15) = 1 then p2 else mar)
def z_X3_useMemory_qM2 (rst : Int32) (p0 : Int32) : Int32 := (if ((p0 >>> (16 &&& 31)) &&& 15) = 1 then 0 else rst)
set_option maxHeartbeats 4000000 in
set_option maxRecDepth 100000 in
theorem c_X3_useMemory (l : Launch) (D : va_G) (cI cZ : ClassId) (qx : Nat) (qR : Nat) (qC : Nat) (qI : Nat) (qM : Nat) (qW : Nat) (qT : Nat) (qp : Nat) (qc : Nat) (qd : Nat) (qk : Nat) (qO : Nat) (qo : Nat) (fR : Nat → Int32) (fC : Nat → Int32) (fI : Nat → Int32) (fW : Nat → Int32) (fp : Nat → Int32) (fc : Nat → Int32) (fd : Nat → Int32) (fk : Nat → Int32) (fo : Nat → Int32) (rT : Int32) (rL : Int32) (rC : Int32) (rIn : Int32) (cyc : Int32) (wai : Int32) (mar : Int32) (rst : Int32) (hand : Int32) (hov : Int32) (said : Int32) (kept : Int32) (gone : Int32) (p0 : Int32) (p1 : Int32) (p2 : Int32) : CtV l D classes [(cI, .int), (cZ, .boolean)] yX3_useMemory w_X3_useMemory { frames := 1, cells := 0, slots := 0, locals := 21 } [.ref qx, .int p0, .int p1, .int p2] [(qx, .inr (3, [.ref qR, .ref qC, .ref qI, .ref qM, .ref qT, .ref qO, .int rT, .int rL, .int rC, .int rIn, .int cyc, .int wai])), (qR, .inl (cI, 32, .inl fR)), (qC, .inl (cI, 256, .inl fC)), (qI, .inl (cI, 1024, .inl fI)), (qM, .inr (0, [.ref qW, .int mar, .int rst])), (qW, .inl (cI, 1024, .inl fW)), (qT, .inr (2, [.ref qp, .ref qc, .ref qd, .ref qk, .int hand, .int hov, .int said])), (qp, .inl (cI, 16, .inl fp)), (qc, .inl (cI, 16, .inl fc)), (qd, .inl (cI, 16, .inl fd)), (qk, .inl (cZ, 16, .inl fk)), (qO, .inr (1, [.ref qo, .int kept, .int gone])), (qo, .inl (cI, 500, .inl fo))] (fun (_ : Unit) => [(qx, .inr (3, [.ref qR, .ref qC, .ref qI, .ref qM, .ref qT, .ref qO, .int rT, .int rL, .int rC, .int rIn, .int cyc, .int wai])), (qR, .inl (cI, 32, .inl fR)), (qC, .inl (cI, 256, .inl fC)), (qI, .inl (cI, 1024, .inl fI)), (qM, .inr (0, [.ref qW, .int (z_X3_useMemory_qM1 mar p0 p2), .int (z_X3_useMemory_qM2 rst p0)])), (qW, .inl (cI, 1024, .inl (j_X3_useMemory_17_qW fW mar p0 p1))), (qT, .inr (2, [.ref qp, .ref qc, .ref qd, .ref qk, .int hand, .int hov, .int said])), (qp, .inl (cI, 16, .inl fp)), (qc, .inl (cI, 16, .inl fc)), (qd, .inl (cI, 16, .inl fd)), (qk, .inl (cZ, 16, .inl fk)), (qO, .inr (1, [.ref qo, .int kept, .int gone])), (qo, .inl (cI, 500, .inl fo))]) 0 0 := by
  refine CtV.mk (cc := cX3_useMemory) (maxL := 4) (ret := none) (by decide) rfl (Nat.le_of_ble_eq_true rfl) ?_
  intro p e s m below meth c A hBeg ls hl
  obtain ⟨hx, hb, hr, hml, hts0, hown, hlocks, hin, hA, hK, hP, hD, hS⟩ := hBeg
  have hts := fun w h => hts0 w (List.mem_cons_of_mem _ h)
  have hown : s.vm.findClass RX3 = some m.cls := hown
  have hl : lv_has ls 4 [(0, .ref qx), (1, .int p0), (2, .int p1), (3, .int p2)] := hl
  skip
  refine lv_iload_n hx hb dX3_useMemory_0 rfl (lv_at hl 1 rfl) ?_
  refine ctI_S (As := [.int p0]) (rest := []) (wc := []) (wr := [(qx, .inr (3, [.ref qR, .ref qC, .ref qI, .ref qM, .ref qT, .ref qO, .int rT, .int rL, .int rC, .int rIn, .int cyc, .int wai])), (qR, .inl (cI, 32, .inl fR)), (qC, .inl (cI, 256, .inl fC)), (qI, .inl (cI, 1024, .inl fI)), (qM, .inr (0, [.ref qW, .int mar, .int rst])), (qW, .inl (cI, 1024, .inl fW)), (qT, .inr (2, [.ref qp, .ref qc, .ref qd, .ref qk, .int hand, .int hov, .int said])), (qp, .inl (cI, 16, .inl fp)), (qc, .inl (cI, 16, .inl fc)), (qd, .inl (cI, 16, .inl fd)), (qk, .inl (cZ, 16, .inl fk)), (qO, .inr (1, [.ref qo, .int kept, .int gone])), (qo, .inl (cI, 500, .inl fo))]) ⟨hx, hb, hml, hown, hts⟩ (c_X3_f2Of l D cI cZ p0) (cwS 1 hts (gd_S wm_X3_134 wt_X3_f2Of wz_X3 wo_X3_f2Of) rfl rfl rfl (by decide +kernel) ⟨Nat.le_of_ble_eq_true rfl, Nat.le_of_ble_eq_true rfl⟩) hK hP hD hS hA [] [0, 1, 2, 3, 4, 5, 6, 7, 8, 9, 10, 11, 12] rfl rfl (by decide) (by decide) (by decide) rfl rfl hl.1 (Nat.le_of_ble_eq_true rfl) dX3_useMemory_1 ⟨Nat.le_of_ble_eq_true rfl, Nat.le_of_ble_eq_true rfl⟩ (fun H locs hP hD hS => ?_)
  have hP : va_P D classes [(qx, .inr (3, [.ref qR, .ref qC, .ref qI, .ref qM, .ref qT, .ref qO, .int rT, .int rL, .int rC, .int rIn, .int cyc, .int wai])), (qR, .inl (cI, 32, .inl fR)), (qC, .inl (cI, 256, .inl fC)), (qI, .inl (cI, 1024, .inl fI)), (qM, .inr (0, [.ref qW, .int mar, .int rst])), (qW, .inl (cI, 1024, .inl fW)), (qT, .inr (2, [.ref qp, .ref qc, .ref qd, .ref qk, .int hand, .int hov, .int said])), (qp, .inl (cI, 16, .inl fp)), (qc, .inl (cI, 16, .inl fc)), (qd, .inl (cI, 16, .inl fd)), (qk, .inl (cZ, 16, .inl fk)), (qO, .inr (1, [.ref qo, .int kept, .int gone])), (qo, .inl (cI, 500, .inl fo))] H := hP
  have hD : va_D A [(qx, .inr (3, [.ref qR, .ref qC, .ref qI, .ref qM, .ref qT, .ref qO, .int rT, .int rL, .int rC, .int rIn, .int cyc, .int wai])), (qR, .inl (cI, 32, .inl fR)), (qC, .inl (cI, 256, .inl fC)), (qI, .inl (cI, 1024, .inl fI)), (qM, .inr (0, [.ref qW, .int mar, .int rst])), (qW, .inl (cI, 1024, .inl fW)), (qT, .inr (2, [.ref qp, .ref qc, .ref qd, .ref qk, .int hand, .int hov, .int said])), (qp, .inl (cI, 16, .inl fp)), (qc, .inl (cI, 16, .inl fc)), (qd, .inl (cI, 16, .inl fd)), (qk, .inl (cZ, 16, .inl fk)), (qO, .inr (1, [.ref qo, .int kept, .int gone])), (qo, .inl (cI, 500, .inl fo))] := hD
  refine lv_bipush (v := 6) hx hb dX3_useMemory_4 (by decide) ?_
  refine ct_merge (fun H locs ls => va_P D classes [(qx, .inr (3, [.ref qR, .ref qC, .ref qI, .ref qM, .ref qT, .ref qO, .int rT, .int rL, .int rC, .int rIn, .int cyc, .int wai])), (qR, .inl (cI, 32, .inl fR)), (qC, .inl (cI, 256, .inl fC)), (qI, .inl (cI, 1024, .inl fI)), (qM, .inr (0, [.ref qW, .int mar, .int rst])), (qW, .inl (cI, 1024, .inl (j_X3_useMemory_17_qW fW mar p0 p1))), (qT, .inr (2, [.ref qp, .ref qc, .ref qd, .ref qk, .int hand, .int hov, .int said])), (qp, .inl (cI, 16, .inl fp)), (qc, .inl (cI, 16, .inl fc)), (qd, .inl (cI, 16, .inl fd)), (qk, .inl (cZ, 16, .inl fk)), (qO, .inr (1, [.ref qo, .int kept, .int gone])), (qo, .inl (cI, 500, .inl fo))] H ∧ va_D A [(qx, .inr (3, [.ref qR, .ref qC, .ref qI, .ref qM, .ref qT, .ref qO, .int rT, .int rL, .int rC, .int rIn, .int cyc, .int wai])), (qR, .inl (cI, 32, .inl fR)), (qC, .inl (cI, 256, .inl fC)), (qI, .inl (cI, 1024, .inl fI)), (qM, .inr (0, [.ref qW, .int mar, .int rst])), (qW, .inl (cI, 1024, .inl (j_X3_useMemory_17_qW fW mar p0 p1))), (qT, .inr (2, [.ref qp, .ref qc, .ref qd, .ref qk, .int hand, .int hov, .int said])), (qp, .inl (cI, 16, .inl fp)), (qc, .inl (cI, 16, .inl fc)), (qd, .inl (cI, 16, .inl fd)), (qk, .inl (cZ, 16, .inl fk)), (qO, .inr (1, [.ref qo, .int kept, .int gone])), (qo, .inl (cI, 500, .inl fo))] ∧ va_S A s.heap H locs ∧ lv_has ls 4 [(0, .ref qx), (1, .int p0), (2, .int p1), (3, .int p2)]) 17 [] ?_ (fun J => ?_)
  · skip
    intro H locs ls hh
    obtain ⟨hP, hD, hS, hl⟩ := hh
    refine lv_iload_n hx hb dX3_useMemory_17 rfl (lv_at hl 1 rfl) ?_
    refine ctI_S (As := [.int p0]) (rest := []) (wc := []) (wr := [(qx, .inr (3, [.ref qR, .ref qC, .ref qI, .ref qM, .ref qT, .ref qO, .int rT, .int rL, .int rC, .int rIn, .int cyc, .int wai])), (qR, .inl (cI, 32, .inl fR)), (qC, .inl (cI, 256, .inl fC)), (qI, .inl (cI, 1024, .inl fI)), (qM, .inr (0, [.ref qW, .int mar, .int rst])), (qW, .inl (cI, 1024, .inl (j_X3_useMemory_17_qW fW mar p0 p1))), (qT, .inr (2, [.ref qp, .ref qc, .ref qd, .ref qk, .int hand, .int hov, .int said])), (qp, .inl (cI, 16, .inl fp)), (qc, .inl (cI, 16, .inl fc)), (qd, .inl (cI, 16, .inl fd)), (qk, .inl (cZ, 16, .inl fk)), (qO, .inr (1, [.ref qo, .int kept, .int gone])), (qo, .inl (cI, 500, .inl fo))]) ⟨hx, hb, hml, hown, hts⟩ (c_X3_f1Of l D cI cZ p0) (cwS 1 hts (gd_S wm_X3_131 wt_X3_f1Of wz_X3 wo_X3_f1Of) rfl rfl rfl (by decide +kernel) ⟨Nat.le_of_ble_eq_true rfl, Nat.le_of_ble_eq_true rfl⟩) hK hP hD hS hA [] [0, 1, 2, 3, 4, 5, 6, 7, 8, 9, 10, 11, 12] rfl rfl (by decide) (by decide) (by decide) rfl rfl hl.1 (Nat.le_of_ble_eq_true rfl) dX3_useMemory_18 ⟨Nat.le_of_ble_eq_true rfl, Nat.le_of_ble_eq_true rfl⟩ (fun H locs hP hD hS => ?_)
    have hP : va_P D classes [(qx, .inr (3, [.ref qR, .ref qC, .ref qI, .ref qM, .ref qT, .ref qO, .int rT, .int rL, .int rC, .int rIn, .int cyc, .int wai])), (qR, .inl (cI, 32, .inl fR)), (qC, .inl (cI, 256, .inl fC)), (qI, .inl (cI, 1024, .inl fI)), (qM, .inr (0, [.ref qW, .int mar, .int rst])), (qW, .inl (cI, 1024, .inl (j_X3_useMemory_17_qW fW mar p0 p1))), (qT, .inr (2, [.ref qp, .ref qc, .ref qd, .ref qk, .int hand, .int hov, .int said])), (qp, .inl (cI, 16, .inl fp)), (qc, .inl (cI, 16, .inl fc)), (qd, .inl (cI, 16, .inl fd)), (qk, .inl (cZ, 16, .inl fk)), (qO, .inr (1, [.ref qo, .int kept, .int gone])), (qo, .inl (cI, 500, .inl fo))] H := hP
    have hD : va_D A [(qx, .inr (3, [.ref qR, .ref qC, .ref qI, .ref qM, .ref qT, .ref qO, .int rT, .int rL, .int rC, .int rIn, .int cyc, .int wai])), (qR, .inl (cI, 32, .inl fR)), (qC, .inl (cI, 256, .inl fC)), (qI, .inl (cI, 1024, .inl fI)), (qM, .inr (0, [.ref qW, .int mar, .int rst])), (qW, .inl (cI, 1024, .inl (j_X3_useMemory_17_qW fW mar p0 p1))), (qT, .inr (2, [.ref qp, .ref qc, .ref qd, .ref qk, .int hand, .int hov, .int said])), (qp, .inl (cI, 16, .inl fp)), (qc, .inl (cI, 16, .inl fc)), (qd, .inl (cI, 16, .inl fd)), (qk, .inl (cZ, 16, .inl fk)), (qO, .inr (1, [.ref qo, .int kept, .int gone])), (qo, .inl (cI, 500, .inl fo))] := hD
    refine lv_iconst (v := 1) hx hb dX3_useMemory_21 (by decide) ?_
    refine lv_icmp_ne (tgt := 33) hx hb dX3_useMemory_22 (by decide) (fun c_1 => ?_) (fun c_1 => ?_)
    · skip
      have e_1 : z_X3_useMemory_qM1 mar p0 p2 = mar := by simp only [z_X3_useMemory_qM1, if_neg c_1]
      have e_2 : z_X3_useMemory_qM2 rst p0 = rst := by simp only [z_X3_useMemory_qM2, if_neg c_1]
      exact ct_vret () hx hb hr hlocks hP hD hS (by rw [e_1, e_2]) dX3_useMemory_33
    · skip
      refine lv_aload_n hx hb dX3_useMemory_25 rfl (lv_at hl 0 rfl) ?_
      refine va_get (D := D) (ci := 3) (v := .ref qM) (C := RX3) (T := TX3) (N := 12) hx hb hts ilX3 hown hK hP 0 rfl rfl 3 (by decide) (hts _ wf_X3_22) (fun _ h9 => h9) rfl dX3_useMemory_26 ?_
      refine lv_iload_n hx hb dX3_useMemory_29 rfl (lv_at hl 3 rfl) ?_
      refine ctV_V (As := [.int p2]) (rest := []) (wc := [(qM, .inr (0, [.ref qW, .int mar, .int rst])), (qW, .inl (cI, 1024, .inl (j_X3_useMemory_17_qW fW mar p0 p1)))]) (wr := [(qx, .inr (3, [.ref qR, .ref qC, .ref qI, .ref qM, .ref qT, .ref qO, .int rT, .int rL, .int rC, .int rIn, .int cyc, .int wai])), (qR, .inl (cI, 32, .inl fR)), (qC, .inl (cI, 256, .inl fC)), (qI, .inl (cI, 1024, .inl fI)), (qT, .inr (2, [.ref qp, .ref qc, .ref qd, .ref qk, .int hand, .int hov, .int said])), (qp, .inl (cI, 16, .inl fp)), (qc, .inl (cI, 16, .inl fc)), (qd, .inl (cI, 16, .inl fd)), (qk, .inl (cZ, 16, .inl fk)), (qO, .inr (1, [.ref qo, .int kept, .int gone])), (qo, .inl (cI, 500, .inl fo))]) ⟨hx, hb, hml, hown, hts⟩ (c_X0_begin l D cI cZ qM qW (j_X3_useMemory_17_qW fW mar p0 p1) mar rst p2) (cwV 1 hts (gd_V wm_X3_182 wi_X0_begin ws_X0_begin wz_X0 wo_X0_begin) rfl rfl rfl (by decide +kernel) ⟨Nat.le_of_ble_eq_true rfl, Nat.le_of_ble_eq_true rfl⟩) hK hP hD hS hA 4 rfl rfl rfl [4, 5] [0, 1, 2, 3, 6, 7, 8, 9, 10, 11, 12] rfl rfl (by decide) (by decide) (by decide) rfl rfl hl.1 (Nat.le_of_ble_eq_true rfl) dX3_useMemory_30 ⟨Nat.le_of_ble_eq_true rfl, Nat.le_of_ble_eq_true rfl⟩ (fun u H locs hP hD hS => ?_)
      have hP : va_P D classes [(qx, .inr (3, [.ref qR, .ref qC, .ref qI, .ref qM, .ref qT, .ref qO, .int rT, .int rL, .int rC, .int rIn, .int cyc, .int wai])), (qR, .inl (cI, 32, .inl fR)), (qC, .inl (cI, 256, .inl fC)), (qI, .inl (cI, 1024, .inl fI)), (qT, .inr (2, [.ref qp, .ref qc, .ref qd, .ref qk, .int hand, .int hov, .int said])), (qp, .inl (cI, 16, .inl fp)), (qc, .inl (cI, 16, .inl fc)), (qd, .inl (cI, 16, .inl fd)), (qk, .inl (cZ, 16, .inl fk)), (qO, .inr (1, [.ref qo, .int kept, .int gone])), (qo, .inl (cI, 500, .inl fo)), (qM, .inr (0, [.ref qW, .int p2, .int 0])), (qW, .inl (cI, 1024, .inl (j_X3_useMemory_17_qW fW mar p0 p1)))] H := hP
      have hD : va_D A [(qx, .inr (3, [.ref qR, .ref qC, .ref qI, .ref qM, .ref qT, .ref qO, .int rT, .int rL, .int rC, .int rIn, .int cyc, .int wai])), (qR, .inl (cI, 32, .inl fR)), (qC, .inl (cI, 256, .inl fC)), (qI, .inl (cI, 1024, .inl fI)), (qT, .inr (2, [.ref qp, .ref qc, .ref qd, .ref qk, .int hand, .int hov, .int said])), (qp, .inl (cI, 16, .inl fp)), (qc, .inl (cI, 16, .inl fc)), (qd, .inl (cI, 16, .inl fd)), (qk, .inl (cZ, 16, .inl fk)), (qO, .inr (1, [.ref qo, .int kept, .int gone])), (qo, .inl (cI, 500, .inl fo)), (qM, .inr (0, [.ref qW, .int p2, .int 0])), (qW, .inl (cI, 1024, .inl (j_X3_useMemory_17_qW fW mar p0 p1)))] := hD
      have hP := hP.sub (ws' := [(qx, .inr (3, [.ref qR, .ref qC, .ref qI, .ref qM, .ref qT, .ref qO, .int rT, .int rL, .int rC, .int rIn, .int cyc, .int wai])), (qR, .inl (cI, 32, .inl fR)), (qC, .inl (cI, 256, .inl fC)), (qI, .inl (cI, 1024, .inl fI)), (qM, .inr (0, [.ref qW, .int p2, .int 0])), (qW, .inl (cI, 1024, .inl (j_X3_useMemory_17_qW fW mar p0 p1))), (qT, .inr (2, [.ref qp, .ref qc, .ref qd, .ref qk, .int hand, .int hov, .int said])), (qp, .inl (cI, 16, .inl fp)), (qc, .inl (cI, 16, .inl fc)), (qd, .inl (cI, 16, .inl fd)), (qk, .inl (cZ, 16, .inl fk)), (qO, .inr (1, [.ref qo, .int kept, .int gone])), (qo, .inl (cI, 500, .inl fo))]) [0, 1, 2, 3, 11, 12, 4, 5, 6, 7, 8, 9, 10] rfl
      have hD := hD.sub (ws' := [(qx, .inr (3, [.ref qR, .ref qC, .ref qI, .ref qM, .ref qT, .ref qO, .int rT, .int rL, .int rC, .int rIn, .int cyc, .int wai])), (qR, .inl (cI, 32, .inl fR)), (qC, .inl (cI, 256, .inl fC)), (qI, .inl (cI, 1024, .inl fI)), (qM, .inr (0, [.ref qW, .int p2, .int 0])), (qW, .inl (cI, 1024, .inl (j_X3_useMemory_17_qW fW mar p0 p1))), (qT, .inr (2, [.ref qp, .ref qc, .ref qd, .ref qk, .int hand, .int hov, .int said])), (qp, .inl (cI, 16, .inl fp)), (qc, .inl (cI, 16, .inl fc)), (qd, .inl (cI, 16, .inl fd)), (qk, .inl (cZ, 16, .inl fk)), (qO, .inr (1, [.ref qo, .int kept, .int gone])), (qo, .inl (cI, 500, .inl fo))]) [0, 1, 2, 3, 11, 12, 4, 5, 6, 7, 8, 9, 10] (by decide) rfl
      have e_1 : z_X3_useMemory_qM1 mar p0 p2 = p2 := by simp only [z_X3_useMemory_qM1, if_pos c_1]
      have e_2 : z_X3_useMemory_qM2 rst p0 = 0 := by simp only [z_X3_useMemory_qM2, if_pos c_1]
      exact ct_vret () hx hb hr hlocks hP hD hS (by rw [e_1, e_2]) dX3_useMemory_33
  · skip
    refine lv_icmp_ne (tgt := 17) hx hb dX3_useMemory_6 (by decide) (fun c_2 => ?_) (fun c_2 => ?_)
    · skip
      have hP := hP.sub (ws' := [(qx, .inr (3, [.ref qR, .ref qC, .ref qI, .ref qM, .ref qT, .ref qO, .int rT, .int rL, .int rC, .int rIn, .int cyc, .int wai])), (qR, .inl (cI, 32, .inl fR)), (qC, .inl (cI, 256, .inl fC)), (qI, .inl (cI, 1024, .inl fI)), (qM, .inr (0, [.ref qW, .int mar, .int rst])), (qW, .inl (cI, 1024, .inl fW)), (qT, .inr (2, [.ref qp, .ref qc, .ref qd, .ref qk, .int hand, .int hov, .int said])), (qp, .inl (cI, 16, .inl fp)), (qc, .inl (cI, 16, .inl fc)), (qd, .inl (cI, 16, .inl fd)), (qk, .inl (cZ, 16, .inl fk)), (qO, .inr (1, [.ref qo, .int kept, .int gone])), (qo, .inl (cI, 500, .inl fo))]) [0, 1, 2, 3, 4, 5, 6, 7, 8, 9, 10, 11, 12] rfl
      have hD := hD.sub (ws' := [(qx, .inr (3, [.ref qR, .ref qC, .ref qI, .ref qM, .ref qT, .ref qO, .int rT, .int rL, .int rC, .int rIn, .int cyc, .int wai])), (qR, .inl (cI, 32, .inl fR)), (qC, .inl (cI, 256, .inl fC)), (qI, .inl (cI, 1024, .inl fI)), (qM, .inr (0, [.ref qW, .int mar, .int rst])), (qW, .inl (cI, 1024, .inl fW)), (qT, .inr (2, [.ref qp, .ref qc, .ref qd, .ref qk, .int hand, .int hov, .int said])), (qp, .inl (cI, 16, .inl fp)), (qc, .inl (cI, 16, .inl fc)), (qd, .inl (cI, 16, .inl fd)), (qk, .inl (cZ, 16, .inl fk)), (qO, .inr (1, [.ref qo, .int kept, .int gone])), (qo, .inl (cI, 500, .inl fo))]) [0, 1, 2, 3, 4, 5, 6, 7, 8, 9, 10, 11, 12] (by decide) rfl
      have e_1 : j_X3_useMemory_17_qW fW mar p0 p1 = fW := by simp only [j_X3_useMemory_17_qW, if_neg c_2]
      exact J _ _ _ ⟨(by rw [e_1]; exact hP), (by rw [e_1]; exact hD), hS, (lv_sub hl [0, 1, 2, 3] rfl)⟩
    · skip
      refine lv_aload_n hx hb dX3_useMemory_9 rfl (lv_at hl 0 rfl) ?_
      refine va_get (D := D) (ci := 3) (v := .ref qM) (C := RX3) (T := TX3) (N := 12) hx hb hts ilX3 hown hK hP 0 rfl rfl 3 (by decide) (hts _ wf_X3_22) (fun _ h9 => h9) rfl dX3_useMemory_10 ?_
      refine lv_iload_n hx hb dX3_useMemory_13 rfl (lv_at hl 2 rfl) ?_
      refine ctV_V (As := [.int p1]) (rest := []) (wc := [(qM, .inr (0, [.ref qW, .int mar, .int rst])), (qW, .inl (cI, 1024, .inl fW))]) (wr := [(qx, .inr (3, [.ref qR, .ref qC, .ref qI, .ref qM, .ref qT, .ref qO, .int rT, .int rL, .int rC, .int rIn, .int cyc, .int wai])), (qR, .inl (cI, 32, .inl fR)), (qC, .inl (cI, 256, .inl fC)), (qI, .inl (cI, 1024, .inl fI)), (qT, .inr (2, [.ref qp, .ref qc, .ref qd, .ref qk, .int hand, .int hov, .int said])), (qp, .inl (cI, 16, .inl fp)), (qc, .inl (cI, 16, .inl fc)), (qd, .inl (cI, 16, .inl fd)), (qk, .inl (cZ, 16, .inl fk)), (qO, .inr (1, [.ref qo, .int kept, .int gone])), (qo, .inl (cI, 500, .inl fo))]) ⟨hx, hb, hml, hown, hts⟩ (c_X0_write l D cI cZ qM qW fW mar rst p1) (cwV 1 hts (gd_V wm_X3_179 wi_X0_write ws_X0_write wz_X0 wo_X0_write) rfl rfl rfl (by decide +kernel) ⟨Nat.le_of_ble_eq_true rfl, Nat.le_of_ble_eq_true rfl⟩) hK hP hD hS hA 4 rfl rfl rfl [4, 5] [0, 1, 2, 3, 6, 7, 8, 9, 10, 11, 12] rfl rfl (by decide) (by decide) (by decide) rfl rfl hl.1 (Nat.le_of_ble_eq_true rfl) dX3_useMemory_14 ⟨Nat.le_of_ble_eq_true rfl, Nat.le_of_ble_eq_true rfl⟩ (fun u H locs hP hD hS => ?_)
      have hP : va_P D classes [(qx, .inr (3, [.ref qR, .ref qC, .ref qI, .ref qM, .ref qT, .ref qO, .int rT, .int rL, .int rC, .int rIn, .int cyc, .int wai])), (qR, .inl (cI, 32, .inl fR)), (qC, .inl (cI, 256, .inl fC)), (qI, .inl (cI, 1024, .inl fI)), (qT, .inr (2, [.ref qp, .ref qc, .ref qd, .ref qk, .int hand, .int hov, .int said])), (qp, .inl (cI, 16, .inl fp)), (qc, .inl (cI, 16, .inl fc)), (qd, .inl (cI, 16, .inl fd)), (qk, .inl (cZ, 16, .inl fk)), (qO, .inr (1, [.ref qo, .int kept, .int gone])), (qo, .inl (cI, 500, .inl fo)), (qM, .inr (0, [.ref qW, .int mar, .int rst])), (qW, .inl (cI, 1024, .inl (upd fW (Int32.toNatClampNeg (mar &&& 1023)) p1)))] H := hP
      have hD : va_D A [(qx, .inr (3, [.ref qR, .ref qC, .ref qI, .ref qM, .ref qT, .ref qO, .int rT, .int rL, .int rC, .int rIn, .int cyc, .int wai])), (qR, .inl (cI, 32, .inl fR)), (qC, .inl (cI, 256, .inl fC)), (qI, .inl (cI, 1024, .inl fI)), (qT, .inr (2, [.ref qp, .ref qc, .ref qd, .ref qk, .int hand, .int hov, .int said])), (qp, .inl (cI, 16, .inl fp)), (qc, .inl (cI, 16, .inl fc)), (qd, .inl (cI, 16, .inl fd)), (qk, .inl (cZ, 16, .inl fk)), (qO, .inr (1, [.ref qo, .int kept, .int gone])), (qo, .inl (cI, 500, .inl fo)), (qM, .inr (0, [.ref qW, .int mar, .int rst])), (qW, .inl (cI, 1024, .inl (upd fW (Int32.toNatClampNeg (mar &&& 1023)) p1)))] := hD
      have hP := hP.sub (ws' := [(qx, .inr (3, [.ref qR, .ref qC, .ref qI, .ref qM, .ref qT, .ref qO, .int rT, .int rL, .int rC, .int rIn, .int cyc, .int wai])), (qR, .inl (cI, 32, .inl fR)), (qC, .inl (cI, 256, .inl fC)), (qI, .inl (cI, 1024, .inl fI)), (qM, .inr (0, [.ref qW, .int mar, .int rst])), (qW, .inl (cI, 1024, .inl (upd fW (Int32.toNatClampNeg (mar &&& 1023)) p1))), (qT, .inr (2, [.ref qp, .ref qc, .ref qd, .ref qk, .int hand, .int hov, .int said])), (qp, .inl (cI, 16, .inl fp)), (qc, .inl (cI, 16, .inl fc)), (qd, .inl (cI, 16, .inl fd)), (qk, .inl (cZ, 16, .inl fk)), (qO, .inr (1, [.ref qo, .int kept, .int gone])), (qo, .inl (cI, 500, .inl fo))]) [0, 1, 2, 3, 11, 12, 4, 5, 6, 7, 8, 9, 10] rfl
      have hD := hD.sub (ws' := [(qx, .inr (3, [.ref qR, .ref qC, .ref qI, .ref qM, .ref qT, .ref qO, .int rT, .int rL, .int rC, .int rIn, .int cyc, .int wai])), (qR, .inl (cI, 32, .inl fR)), (qC, .inl (cI, 256, .inl fC)), (qI, .inl (cI, 1024, .inl fI)), (qM, .inr (0, [.ref qW, .int mar, .int rst])), (qW, .inl (cI, 1024, .inl (upd fW (Int32.toNatClampNeg (mar &&& 1023)) p1))), (qT, .inr (2, [.ref qp, .ref qc, .ref qd, .ref qk, .int hand, .int hov, .int said])), (qp, .inl (cI, 16, .inl fp)), (qc, .inl (cI, 16, .inl fc)), (qd, .inl (cI, 16, .inl fd)), (qk, .inl (cZ, 16, .inl fk)), (qO, .inr (1, [.ref qo, .int kept, .int gone])), (qo, .inl (cI, 500, .inl fo))]) [0, 1, 2, 3, 11, 12, 4, 5, 6, 7, 8, 9, 10] (by decide) rfl
      have e_1 : j_X3_useMemory_17_qW fW mar p0 p1 = upd fW (Int32.toNatClampNeg (mar &&& 1023)) p1 := by simp only [j_X3_useMemory_17_qW, if_pos c_2]
      exact J _ _ _ ⟨(by rw [e_1]; exact hP), (by rw [e_1]; exact hD), hS, (lv_sub hl [0, 1, 2, 3] rfl)⟩
def j_X3_mustWait_28_s0 (p0 : Int32) : Int32 := (if ((p0 >>> (20 &&& 31)) &&& 7) = 5 then (if (r_X3_hasConstant p0) = 0 then 1 else 0) else 0)
def r_X3_mustWait (rst : Int32) (p0 : Int32) : Int32 := (if ((p0 >>> (16 &&& 31)) &&& 15) = 1 then (if rst < 5 then 1 else (if (j_X3_mustWait_28_s0 p0) = 0 then (if ((p0 >>> (12 &&& 31)) &&& 15) = 6 then (if 2 ≤ rst then 0 else 1) else 0) else (if rst < 4 then 1 else (if ((p0 >>> (12 &&& 31)) &&& 15) = 6 then (if 2 ≤ rst then 0 else 1) else 0)))) else (if (j_X3_mustWait_28_s0 p0) = 0 then (if ((p0 >>> (12 &&& 31)) &&& 15) = 6 then (if 2 ≤ rst then 0 else 1) else 0) else (if rst < 4 then 1 else (if ((p0 >>> (12 &&& 31)) &&& 15) = 6 then (if 2 ≤ rst then 0 else 1) else 0))))
set_option maxHeartbeats 4000000 in
set_option maxRecDepth 100000 in
theorem c_X3_mustWait (l : Launch) (D : va_G) (cI cZ : ClassId) (qx : Nat) (qR : Nat) (qC : Nat) (qI : Nat) (qM : Nat) (qW : Nat) (qT : Nat) (qp : Nat) (qc : Nat) (qd : Nat) (qk : Nat) (qO : Nat) (qo : Nat) (fR : Nat → Int32) (fC : Nat → Int32) (fI : Nat → Int32) (fW : Nat → Int32) (fp : Nat → Int32) (fc : Nat → Int32) (fd : Nat → Int32) (fk : Nat → Int32) (fo : Nat → Int32) (rT : Int32) (rL : Int32) (rC : Int32) (rIn : Int32) (cyc : Int32) (wai : Int32) (mar : Int32) (rst : Int32) (hand : Int32) (hov : Int32) (said : Int32) (kept : Int32) (gone : Int32) (p0 : Int32) : CtI l D classes [(cI, .int), (cZ, .boolean)] yX3_mustWait w_X3_mustWait { frames := 2, cells := 0, slots := 0, locals := 40 } [.ref qx, .int p0] [(qx, .inr (3, [.ref qR, .ref qC, .ref qI, .ref qM, .ref qT, .ref qO, .int rT, .int rL, .int rC, .int rIn, .int cyc, .int wai])), (qR, .inl (cI, 32, .inl fR)), (qC, .inl (cI, 256, .inl fC)), (qI, .inl (cI, 1024, .inl fI)), (qM, .inr (0, [.ref qW, .int mar, .int rst])), (qW, .inl (cI, 1024, .inl fW)), (qT, .inr (2, [.ref qp, .ref qc, .ref qd, .ref qk, .int hand, .int hov, .int said])), (qp, .inl (cI, 16, .inl fp)), (qc, .inl (cI, 16, .inl fc)), (qd, .inl (cI, 16, .inl fd)), (qk, .inl (cZ, 16, .inl fk)), (qO, .inr (1, [.ref qo, .int kept, .int gone])), (qo, .inl (cI, 500, .inl fo))] [(qx, .inr (3, [.ref qR, .ref qC, .ref qI, .ref qM, .ref qT, .ref qO, .int rT, .int rL, .int rC, .int rIn, .int cyc, .int wai])), (qR, .inl (cI, 32, .inl fR)), (qC, .inl (cI, 256, .inl fC)), (qI, .inl (cI, 1024, .inl fI)), (qM, .inr (0, [.ref qW, .int mar, .int rst])), (qW, .inl (cI, 1024, .inl fW)), (qT, .inr (2, [.ref qp, .ref qc, .ref qd, .ref qk, .int hand, .int hov, .int said])), (qp, .inl (cI, 16, .inl fp)), (qc, .inl (cI, 16, .inl fc)), (qd, .inl (cI, 16, .inl fd)), (qk, .inl (cZ, 16, .inl fk)), (qO, .inr (1, [.ref qo, .int kept, .int gone])), (qo, .inl (cI, 500, .inl fo))] (r_X3_mustWait rst p0) := by
  refine CtI.mk (cc := cX3_mustWait) (maxL := 4) (ret := (some .boolean)) (by decide) rfl (Nat.le_of_ble_eq_true rfl) ?_
  intro p e s m below meth c A hBeg ls hl
  obtain ⟨hx, hb, hr, hml, hts0, hown, hlocks, hin, hA, hK, hP, hD, hS⟩ := hBeg
  have hts := fun w h => hts0 w (List.mem_cons_of_mem _ h)
  have hown : s.vm.findClass RX3 = some m.cls := hown
  have hl : lv_has ls 4 [(0, .ref qx), (1, .int p0)] := hl
  skip
  refine lv_aload_n hx hb dX3_mustWait_0 rfl (lv_at hl 0 rfl) ?_
  refine va_get (D := D) (ci := 3) (v := .ref qM) (C := RX3) (T := TX3) (N := 12) hx hb hts ilX3 hown hK hP 0 rfl rfl 3 (by decide) (hts _ wf_X3_22) (fun _ h9 => h9) rfl dX3_mustWait_1 ?_
  refine va_get (D := D) (ci := 0) (v := .int rst) (C := RX0) (T := TX0) (N := 3) hx hb hts ilX0 hown hK hP 4 rfl rfl 2 (by decide) (hts _ wf_X3_121) (fun _ h9 => h9) rfl dX3_mustWait_4 ?_
  refine lv_istore_n (lv' := [(2, .int rst), (0, .ref qx), (1, .int p0)]) hx hb dX3_mustWait_7 rfl hl (by decide) rfl (fun ls hl => ?_)
  refine lv_iload_n hx hb dX3_mustWait_8 rfl (lv_at hl 2 rfl) ?_
  refine ctI_S (As := [.int p0]) (rest := []) (wc := []) (wr := [(qx, .inr (3, [.ref qR, .ref qC, .ref qI, .ref qM, .ref qT, .ref qO, .int rT, .int rL, .int rC, .int rIn, .int cyc, .int wai])), (qR, .inl (cI, 32, .inl fR)), (qC, .inl (cI, 256, .inl fC)), (qI, .inl (cI, 1024, .inl fI)), (qM, .inr (0, [.ref qW, .int mar, .int rst])), (qW, .inl (cI, 1024, .inl fW)), (qT, .inr (2, [.ref qp, .ref qc, .ref qd, .ref qk, .int hand, .int hov, .int said])), (qp, .inl (cI, 16, .inl fp)), (qc, .inl (cI, 16, .inl fc)), (qd, .inl (cI, 16, .inl fd)), (qk, .inl (cZ, 16, .inl fk)), (qO, .inr (1, [.ref qo, .int kept, .int gone])), (qo, .inl (cI, 500, .inl fo))]) ⟨hx, hb, hml, hown, hts⟩ (c_X3_bsOf l D cI cZ p0) (cwS 1 hts (gd_S wm_X3_124 wt_X3_bsOf wz_X3 wo_X3_bsOf) rfl rfl rfl (by decide +kernel) ⟨Nat.le_of_ble_eq_true rfl, Nat.le_of_ble_eq_true rfl⟩) hK hP hD hS hA [] [0, 1, 2, 3, 4, 5, 6, 7, 8, 9, 10, 11, 12] rfl rfl (by decide) (by decide) (by decide) rfl rfl hl.1 (Nat.le_of_ble_eq_true rfl) dX3_mustWait_9 ⟨Nat.le_of_ble_eq_true rfl, Nat.le_of_ble_eq_true rfl⟩ (fun H locs hP hD hS => ?_)
  have hP : va_P D classes [(qx, .inr (3, [.ref qR, .ref qC, .ref qI, .ref qM, .ref qT, .ref qO, .int rT, .int rL, .int rC, .int rIn, .int cyc, .int wai])), (qR, .inl (cI, 32, .inl fR)), (qC, .inl (cI, 256, .inl fC)), (qI, .inl (cI, 1024, .inl fI)), (qM, .inr (0, [.ref qW, .int mar, .int rst])), (qW, .inl (cI, 1024, .inl fW)), (qT, .inr (2, [.ref qp, .ref qc, .ref qd, .ref qk, .int hand, .int hov, .int said])), (qp, .inl (cI, 16, .inl fp)), (qc, .inl (cI, 16, .inl fc)), (qd, .inl (cI, 16, .inl fd)), (qk, .inl (cZ, 16, .inl fk)), (qO, .inr (1, [.ref qo, .int kept, .int gone])), (qo, .inl (cI, 500, .inl fo))] H := hP
  have hD : va_D A [(qx, .inr (3, [.ref qR, .ref qC, .ref qI, .ref qM, .ref qT, .ref qO, .int rT, .int rL, .int rC, .int rIn, .int cyc, .int wai])), (qR, .inl (cI, 32, .inl fR)), (qC, .inl (cI, 256, .inl fC)), (qI, .inl (cI, 1024, .inl fI)), (qM, .inr (0, [.ref qW, .int mar, .int rst])), (qW, .inl (cI, 1024, .inl fW)), (qT, .inr (2, [.ref qp, .ref qc, .ref qd, .ref qk, .int hand, .int hov, .int said])), (qp, .inl (cI, 16, .inl fp)), (qc, .inl (cI, 16, .inl fc)), (qd, .inl (cI, 16, .inl fd)), (qk, .inl (cZ, 16, .inl fk)), (qO, .inr (1, [.ref qo, .int kept, .int gone])), (qo, .inl (cI, 500, .inl fo))] := hD
  refine lv_iconst (v := 5) hx hb dX3_mustWait_12 (by decide) ?_
  refine ct_merge (fun H locs ls => va_P D classes [(qx, .inr (3, [.ref qR, .ref qC, .ref qI, .ref qM, .ref qT, .ref qO, .int rT, .int rL, .int rC, .int rIn, .int cyc, .int wai])), (qR, .inl (cI, 32, .inl fR)), (qC, .inl (cI, 256, .inl fC)), (qI, .inl (cI, 1024, .inl fI)), (qM, .inr (0, [.ref qW, .int mar, .int rst])), (qW, .inl (cI, 1024, .inl fW)), (qT, .inr (2, [.ref qp, .ref qc, .ref qd, .ref qk, .int hand, .int hov, .int said])), (qp, .inl (cI, 16, .inl fp)), (qc, .inl (cI, 16, .inl fc)), (qd, .inl (cI, 16, .inl fd)), (qk, .inl (cZ, 16, .inl fk)), (qO, .inr (1, [.ref qo, .int kept, .int gone])), (qo, .inl (cI, 500, .inl fo))] H ∧ va_D A [(qx, .inr (3, [.ref qR, .ref qC, .ref qI, .ref qM, .ref qT, .ref qO, .int rT, .int rL, .int rC, .int rIn, .int cyc, .int wai])), (qR, .inl (cI, 32, .inl fR)), (qC, .inl (cI, 256, .inl fC)), (qI, .inl (cI, 1024, .inl fI)), (qM, .inr (0, [.ref qW, .int mar, .int rst])), (qW, .inl (cI, 1024, .inl fW)), (qT, .inr (2, [.ref qp, .ref qc, .ref qd, .ref qk, .int hand, .int hov, .int said])), (qp, .inl (cI, 16, .inl fp)), (qc, .inl (cI, 16, .inl fc)), (qd, .inl (cI, 16, .inl fd)), (qk, .inl (cZ, 16, .inl fk)), (qO, .inr (1, [.ref qo, .int kept, .int gone])), (qo, .inl (cI, 500, .inl fo))] ∧ va_S A s.heap H locs ∧ lv_has ls 4 [(2, .int rst), (0, .ref qx), (1, .int p0)]) 28 [.int (j_X3_mustWait_28_s0 p0)] ?_ (fun J => ?_)
  · skip
    intro H locs ls hh
    obtain ⟨hP, hD, hS, hl⟩ := hh
    refine lv_istore_n (lv' := [(3, .int (j_X3_mustWait_28_s0 p0)), (2, .int rst), (0, .ref qx), (1, .int p0)]) hx hb dX3_mustWait_28 rfl hl (by decide) rfl (fun ls hl => ?_)
    refine lv_iload_n hx hb dX3_mustWait_29 rfl (lv_at hl 3 rfl) ?_
    refine ctI_S (As := [.int p0]) (rest := []) (wc := []) (wr := [(qx, .inr (3, [.ref qR, .ref qC, .ref qI, .ref qM, .ref qT, .ref qO, .int rT, .int rL, .int rC, .int rIn, .int cyc, .int wai])), (qR, .inl (cI, 32, .inl fR)), (qC, .inl (cI, 256, .inl fC)), (qI, .inl (cI, 1024, .inl fI)), (qM, .inr (0, [.ref qW, .int mar, .int rst])), (qW, .inl (cI, 1024, .inl fW)), (qT, .inr (2, [.ref qp, .ref qc, .ref qd, .ref qk, .int hand, .int hov, .int said])), (qp, .inl (cI, 16, .inl fp)), (qc, .inl (cI, 16, .inl fc)), (qd, .inl (cI, 16, .inl fd)), (qk, .inl (cZ, 16, .inl fk)), (qO, .inr (1, [.ref qo, .int kept, .int gone])), (qo, .inl (cI, 500, .inl fo))]) ⟨hx, hb, hml, hown, hts⟩ (c_X3_f1Of l D cI cZ p0) (cwS 1 hts (gd_S wm_X3_131 wt_X3_f1Of wz_X3 wo_X3_f1Of) rfl rfl rfl (by decide +kernel) ⟨Nat.le_of_ble_eq_true rfl, Nat.le_of_ble_eq_true rfl⟩) hK hP hD hS hA [] [0, 1, 2, 3, 4, 5, 6, 7, 8, 9, 10, 11, 12] rfl rfl (by decide) (by decide) (by decide) rfl rfl hl.1 (Nat.le_of_ble_eq_true rfl) dX3_mustWait_30 ⟨Nat.le_of_ble_eq_true rfl, Nat.le_of_ble_eq_true rfl⟩ (fun H locs hP hD hS => ?_)
    have hP : va_P D classes [(qx, .inr (3, [.ref qR, .ref qC, .ref qI, .ref qM, .ref qT, .ref qO, .int rT, .int rL, .int rC, .int rIn, .int cyc, .int wai])), (qR, .inl (cI, 32, .inl fR)), (qC, .inl (cI, 256, .inl fC)), (qI, .inl (cI, 1024, .inl fI)), (qM, .inr (0, [.ref qW, .int mar, .int rst])), (qW, .inl (cI, 1024, .inl fW)), (qT, .inr (2, [.ref qp, .ref qc, .ref qd, .ref qk, .int hand, .int hov, .int said])), (qp, .inl (cI, 16, .inl fp)), (qc, .inl (cI, 16, .inl fc)), (qd, .inl (cI, 16, .inl fd)), (qk, .inl (cZ, 16, .inl fk)), (qO, .inr (1, [.ref qo, .int kept, .int gone])), (qo, .inl (cI, 500, .inl fo))] H := hP
    have hD : va_D A [(qx, .inr (3, [.ref qR, .ref qC, .ref qI, .ref qM, .ref qT, .ref qO, .int rT, .int rL, .int rC, .int rIn, .int cyc, .int wai])), (qR, .inl (cI, 32, .inl fR)), (qC, .inl (cI, 256, .inl fC)), (qI, .inl (cI, 1024, .inl fI)), (qM, .inr (0, [.ref qW, .int mar, .int rst])), (qW, .inl (cI, 1024, .inl fW)), (qT, .inr (2, [.ref qp, .ref qc, .ref qd, .ref qk, .int hand, .int hov, .int said])), (qp, .inl (cI, 16, .inl fp)), (qc, .inl (cI, 16, .inl fc)), (qd, .inl (cI, 16, .inl fd)), (qk, .inl (cZ, 16, .inl fk)), (qO, .inr (1, [.ref qo, .int kept, .int gone])), (qo, .inl (cI, 500, .inl fo))] := hD
    refine lv_iconst (v := 1) hx hb dX3_mustWait_33 (by decide) ?_
    refine lv_icmp_ne (tgt := 42) hx hb dX3_mustWait_34 (by decide) (fun c_1 => ?_) (fun c_1 => ?_)
    · skip
      refine lv_iload_n hx hb dX3_mustWait_42 rfl (lv_at hl 0 rfl) ?_
      refine lv_if_eq (tgt := 51) hx hb dX3_mustWait_43 (by decide) (fun c_2 => ?_) (fun c_2 => ?_)
      · skip
        refine lv_iload_n hx hb dX3_mustWait_51 rfl (lv_at hl 3 rfl) ?_
        refine ctI_S (As := [.int p0]) (rest := []) (wc := []) (wr := [(qx, .inr (3, [.ref qR, .ref qC, .ref qI, .ref qM, .ref qT, .ref qO, .int rT, .int rL, .int rC, .int rIn, .int cyc, .int wai])), (qR, .inl (cI, 32, .inl fR)), (qC, .inl (cI, 256, .inl fC)), (qI, .inl (cI, 1024, .inl fI)), (qM, .inr (0, [.ref qW, .int mar, .int rst])), (qW, .inl (cI, 1024, .inl fW)), (qT, .inr (2, [.ref qp, .ref qc, .ref qd, .ref qk, .int hand, .int hov, .int said])), (qp, .inl (cI, 16, .inl fp)), (qc, .inl (cI, 16, .inl fc)), (qd, .inl (cI, 16, .inl fd)), (qk, .inl (cZ, 16, .inl fk)), (qO, .inr (1, [.ref qo, .int kept, .int gone])), (qo, .inl (cI, 500, .inl fo))]) ⟨hx, hb, hml, hown, hts⟩ (c_X3_f2Of l D cI cZ p0) (cwS 1 hts (gd_S wm_X3_134 wt_X3_f2Of wz_X3 wo_X3_f2Of) rfl rfl rfl (by decide +kernel) ⟨Nat.le_of_ble_eq_true rfl, Nat.le_of_ble_eq_true rfl⟩) hK hP hD hS hA [] [0, 1, 2, 3, 4, 5, 6, 7, 8, 9, 10, 11, 12] rfl rfl (by decide) (by decide) (by decide) rfl rfl hl.1 (Nat.le_of_ble_eq_true rfl) dX3_mustWait_52 ⟨Nat.le_of_ble_eq_true rfl, Nat.le_of_ble_eq_true rfl⟩ (fun H locs hP hD hS => ?_)
        have hP : va_P D classes [(qx, .inr (3, [.ref qR, .ref qC, .ref qI, .ref qM, .ref qT, .ref qO, .int rT, .int rL, .int rC, .int rIn, .int cyc, .int wai])), (qR, .inl (cI, 32, .inl fR)), (qC, .inl (cI, 256, .inl fC)), (qI, .inl (cI, 1024, .inl fI)), (qM, .inr (0, [.ref qW, .int mar, .int rst])), (qW, .inl (cI, 1024, .inl fW)), (qT, .inr (2, [.ref qp, .ref qc, .ref qd, .ref qk, .int hand, .int hov, .int said])), (qp, .inl (cI, 16, .inl fp)), (qc, .inl (cI, 16, .inl fc)), (qd, .inl (cI, 16, .inl fd)), (qk, .inl (cZ, 16, .inl fk)), (qO, .inr (1, [.ref qo, .int kept, .int gone])), (qo, .inl (cI, 500, .inl fo))] H := hP
        have hD : va_D A [(qx, .inr (3, [.ref qR, .ref qC, .ref qI, .ref qM, .ref qT, .ref qO, .int rT, .int rL, .int rC, .int rIn, .int cyc, .int wai])), (qR, .inl (cI, 32, .inl fR)), (qC, .inl (cI, 256, .inl fC)), (qI, .inl (cI, 1024, .inl fI)), (qM, .inr (0, [.ref qW, .int mar, .int rst])), (qW, .inl (cI, 1024, .inl fW)), (qT, .inr (2, [.ref qp, .ref qc, .ref qd, .ref qk, .int hand, .int hov, .int said])), (qp, .inl (cI, 16, .inl fp)), (qc, .inl (cI, 16, .inl fc)), (qd, .inl (cI, 16, .inl fd)), (qk, .inl (cZ, 16, .inl fk)), (qO, .inr (1, [.ref qo, .int kept, .int gone])), (qo, .inl (cI, 500, .inl fo))] := hD
        refine lv_bipush (v := 6) hx hb dX3_mustWait_55 (by decide) ?_
        refine lv_icmp_ne (tgt := 69) hx hb dX3_mustWait_57 (by decide) (fun c_3 => ?_) (fun c_3 => ?_)
        · skip
          refine lv_iconst (v := 0) hx hb dX3_mustWait_69 (by decide) ?_
          have e_1 : r_X3_mustWait rst p0 = 0 := by simp only [r_X3_mustWait, if_neg c_1, if_pos c_2, if_neg c_3]
          exact ct_zret hx hb hr hlocks hP hD hS rfl (by rw [e_1]) (Or.inl rfl) dX3_mustWait_70
        · skip
          refine lv_iload_n hx hb dX3_mustWait_60 rfl (lv_at hl 1 rfl) ?_
          refine lv_iconst (v := 2) hx hb dX3_mustWait_61 (by decide) ?_
          refine lv_icmp_ge (tgt := 69) hx hb dX3_mustWait_62 (by decide) (fun c_4 => ?_) (fun c_4 => ?_)
          · skip
            refine lv_iconst (v := 0) hx hb dX3_mustWait_69 (by decide) ?_
            have e_1 : r_X3_mustWait rst p0 = 0 := by simp only [r_X3_mustWait, if_neg c_1, if_pos c_2, if_pos c_3, if_pos c_4]
            exact ct_zret hx hb hr hlocks hP hD hS rfl (by rw [e_1]) (Or.inl rfl) dX3_mustWait_70
          · skip
            refine lv_iconst (v := 1) hx hb dX3_mustWait_65 (by decide) ?_
            refine lv_goto (tgt := 70) hx hb dX3_mustWait_66 (by decide) ?_
            have e_1 : r_X3_mustWait rst p0 = 1 := by simp only [r_X3_mustWait, if_neg c_1, if_pos c_2, if_pos c_3, if_neg c_4]
            exact ct_zret hx hb hr hlocks hP hD hS rfl (by rw [e_1]) (Or.inr rfl) dX3_mustWait_70
      · skip
        refine lv_iload_n hx hb dX3_mustWait_46 rfl (lv_at hl 1 rfl) ?_
        refine lv_iconst (v := 4) hx hb dX3_mustWait_47 (by decide) ?_
        refine lv_icmp_lt (tgt := 65) hx hb dX3_mustWait_48 (by decide) (fun c_5 => ?_) (fun c_5 => ?_)
        · skip
          refine lv_iconst (v := 1) hx hb dX3_mustWait_65 (by decide) ?_
          refine lv_goto (tgt := 70) hx hb dX3_mustWait_66 (by decide) ?_
          have e_1 : r_X3_mustWait rst p0 = 1 := by simp only [r_X3_mustWait, if_neg c_1, if_neg c_2, if_pos c_5]
          exact ct_zret hx hb hr hlocks hP hD hS rfl (by rw [e_1]) (Or.inr rfl) dX3_mustWait_70
        · skip
          refine lv_iload_n hx hb dX3_mustWait_51 rfl (lv_at hl 3 rfl) ?_
          refine ctI_S (As := [.int p0]) (rest := []) (wc := []) (wr := [(qx, .inr (3, [.ref qR, .ref qC, .ref qI, .ref qM, .ref qT, .ref qO, .int rT, .int rL, .int rC, .int rIn, .int cyc, .int wai])), (qR, .inl (cI, 32, .inl fR)), (qC, .inl (cI, 256, .inl fC)), (qI, .inl (cI, 1024, .inl fI)), (qM, .inr (0, [.ref qW, .int mar, .int rst])), (qW, .inl (cI, 1024, .inl fW)), (qT, .inr (2, [.ref qp, .ref qc, .ref qd, .ref qk, .int hand, .int hov, .int said])), (qp, .inl (cI, 16, .inl fp)), (qc, .inl (cI, 16, .inl fc)), (qd, .inl (cI, 16, .inl fd)), (qk, .inl (cZ, 16, .inl fk)), (qO, .inr (1, [.ref qo, .int kept, .int gone])), (qo, .inl (cI, 500, .inl fo))]) ⟨hx, hb, hml, hown, hts⟩ (c_X3_f2Of l D cI cZ p0) (cwS 1 hts (gd_S wm_X3_134 wt_X3_f2Of wz_X3 wo_X3_f2Of) rfl rfl rfl (by decide +kernel) ⟨Nat.le_of_ble_eq_true rfl, Nat.le_of_ble_eq_true rfl⟩) hK hP hD hS hA [] [0, 1, 2, 3, 4, 5, 6, 7, 8, 9, 10, 11, 12] rfl rfl (by decide) (by decide) (by decide) rfl rfl hl.1 (Nat.le_of_ble_eq_true rfl) dX3_mustWait_52 ⟨Nat.le_of_ble_eq_true rfl, Nat.le_of_ble_eq_true rfl⟩ (fun H locs hP hD hS => ?_)
          have hP : va_P D classes [(qx, .inr (3, [.ref qR, .ref qC, .ref qI, .ref qM, .ref qT, .ref qO, .int rT, .int rL, .int rC, .int rIn, .int cyc, .int wai])), (qR, .inl (cI, 32, .inl fR)), (qC, .inl (cI, 256, .inl fC)), (qI, .inl (cI, 1024, .inl fI)), (qM, .inr (0, [.ref qW, .int mar, .int rst])), (qW, .inl (cI, 1024, .inl fW)), (qT, .inr (2, [.ref qp, .ref qc, .ref qd, .ref qk, .int hand, .int hov, .int said])), (qp, .inl (cI, 16, .inl fp)), (qc, .inl (cI, 16, .inl fc)), (qd, .inl (cI, 16, .inl fd)), (qk, .inl (cZ, 16, .inl fk)), (qO, .inr (1, [.ref qo, .int kept, .int gone])), (qo, .inl (cI, 500, .inl fo))] H := hP
          have hD : va_D A [(qx, .inr (3, [.ref qR, .ref qC, .ref qI, .ref qM, .ref qT, .ref qO, .int rT, .int rL, .int rC, .int rIn, .int cyc, .int wai])), (qR, .inl (cI, 32, .inl fR)), (qC, .inl (cI, 256, .inl fC)), (qI, .inl (cI, 1024, .inl fI)), (qM, .inr (0, [.ref qW, .int mar, .int rst])), (qW, .inl (cI, 1024, .inl fW)), (qT, .inr (2, [.ref qp, .ref qc, .ref qd, .ref qk, .int hand, .int hov, .int said])), (qp, .inl (cI, 16, .inl fp)), (qc, .inl (cI, 16, .inl fc)), (qd, .inl (cI, 16, .inl fd)), (qk, .inl (cZ, 16, .inl fk)), (qO, .inr (1, [.ref qo, .int kept, .int gone])), (qo, .inl (cI, 500, .inl fo))] := hD
          refine lv_bipush (v := 6) hx hb dX3_mustWait_55 (by decide) ?_
          refine lv_icmp_ne (tgt := 69) hx hb dX3_mustWait_57 (by decide) (fun c_6 => ?_) (fun c_6 => ?_)
          · skip
            refine lv_iconst (v := 0) hx hb dX3_mustWait_69 (by decide) ?_
            have e_1 : r_X3_mustWait rst p0 = 0 := by simp only [r_X3_mustWait, if_neg c_1, if_neg c_2, if_neg c_5, if_neg c_6]
            exact ct_zret hx hb hr hlocks hP hD hS rfl (by rw [e_1]) (Or.inl rfl) dX3_mustWait_70
          · skip
            refine lv_iload_n hx hb dX3_mustWait_60 rfl (lv_at hl 1 rfl) ?_
            refine lv_iconst (v := 2) hx hb dX3_mustWait_61 (by decide) ?_
            refine lv_icmp_ge (tgt := 69) hx hb dX3_mustWait_62 (by decide) (fun c_7 => ?_) (fun c_7 => ?_)
            · skip
              refine lv_iconst (v := 0) hx hb dX3_mustWait_69 (by decide) ?_
              have e_1 : r_X3_mustWait rst p0 = 0 := by simp only [r_X3_mustWait, if_neg c_1, if_neg c_2, if_neg c_5, if_pos c_6, if_pos c_7]
              exact ct_zret hx hb hr hlocks hP hD hS rfl (by rw [e_1]) (Or.inl rfl) dX3_mustWait_70
            · skip
              refine lv_iconst (v := 1) hx hb dX3_mustWait_65 (by decide) ?_
              refine lv_goto (tgt := 70) hx hb dX3_mustWait_66 (by decide) ?_
              have e_1 : r_X3_mustWait rst p0 = 1 := by simp only [r_X3_mustWait, if_neg c_1, if_neg c_2, if_neg c_5, if_pos c_6, if_neg c_7]
              exact ct_zret hx hb hr hlocks hP hD hS rfl (by rw [e_1]) (Or.inr rfl) dX3_mustWait_70
    · skip
      refine lv_iload_n hx hb dX3_mustWait_37 rfl (lv_at hl 1 rfl) ?_
      refine lv_iconst (v := 5) hx hb dX3_mustWait_38 (by decide) ?_
      refine lv_icmp_lt (tgt := 65) hx hb dX3_mustWait_39 (by decide) (fun c_8 => ?_) (fun c_8 => ?_)
      · skip
        refine lv_iconst (v := 1) hx hb dX3_mustWait_65 (by decide) ?_
        refine lv_goto (tgt := 70) hx hb dX3_mustWait_66 (by decide) ?_
        have e_1 : r_X3_mustWait rst p0 = 1 := by simp only [r_X3_mustWait, if_pos c_1, if_pos c_8]
        exact ct_zret hx hb hr hlocks hP hD hS rfl (by rw [e_1]) (Or.inr rfl) dX3_mustWait_70
      · skip
        refine lv_iload_n hx hb dX3_mustWait_42 rfl (lv_at hl 0 rfl) ?_
        refine lv_if_eq (tgt := 51) hx hb dX3_mustWait_43 (by decide) (fun c_9 => ?_) (fun c_9 => ?_)
        · skip
          refine lv_iload_n hx hb dX3_mustWait_51 rfl (lv_at hl 3 rfl) ?_
          refine ctI_S (As := [.int p0]) (rest := []) (wc := []) (wr := [(qx, .inr (3, [.ref qR, .ref qC, .ref qI, .ref qM, .ref qT, .ref qO, .int rT, .int rL, .int rC, .int rIn, .int cyc, .int wai])), (qR, .inl (cI, 32, .inl fR)), (qC, .inl (cI, 256, .inl fC)), (qI, .inl (cI, 1024, .inl fI)), (qM, .inr (0, [.ref qW, .int mar, .int rst])), (qW, .inl (cI, 1024, .inl fW)), (qT, .inr (2, [.ref qp, .ref qc, .ref qd, .ref qk, .int hand, .int hov, .int said])), (qp, .inl (cI, 16, .inl fp)), (qc, .inl (cI, 16, .inl fc)), (qd, .inl (cI, 16, .inl fd)), (qk, .inl (cZ, 16, .inl fk)), (qO, .inr (1, [.ref qo, .int kept, .int gone])), (qo, .inl (cI, 500, .inl fo))]) ⟨hx, hb, hml, hown, hts⟩ (c_X3_f2Of l D cI cZ p0) (cwS 1 hts (gd_S wm_X3_134 wt_X3_f2Of wz_X3 wo_X3_f2Of) rfl rfl rfl (by decide +kernel) ⟨Nat.le_of_ble_eq_true rfl, Nat.le_of_ble_eq_true rfl⟩) hK hP hD hS hA [] [0, 1, 2, 3, 4, 5, 6, 7, 8, 9, 10, 11, 12] rfl rfl (by decide) (by decide) (by decide) rfl rfl hl.1 (Nat.le_of_ble_eq_true rfl) dX3_mustWait_52 ⟨Nat.le_of_ble_eq_true rfl, Nat.le_of_ble_eq_true rfl⟩ (fun H locs hP hD hS => ?_)
          have hP : va_P D classes [(qx, .inr (3, [.ref qR, .ref qC, .ref qI, .ref qM, .ref qT, .ref qO, .int rT, .int rL, .int rC, .int rIn, .int cyc, .int wai])), (qR, .inl (cI, 32, .inl fR)), (qC, .inl (cI, 256, .inl fC)), (qI, .inl (cI, 1024, .inl fI)), (qM, .inr (0, [.ref qW, .int mar, .int rst])), (qW, .inl (cI, 1024, .inl fW)), (qT, .inr (2, [.ref qp, .ref qc, .ref qd, .ref qk, .int hand, .int hov, .int said])), (qp, .inl (cI, 16, .inl fp)), (qc, .inl (cI, 16, .inl fc)), (qd, .inl (cI, 16, .inl fd)), (qk, .inl (cZ, 16, .inl fk)), (qO, .inr (1, [.ref qo, .int kept, .int gone])), (qo, .inl (cI, 500, .inl fo))] H := hP
          have hD : va_D A [(qx, .inr (3, [.ref qR, .ref qC, .ref qI, .ref qM, .ref qT, .ref qO, .int rT, .int rL, .int rC, .int rIn, .int cyc, .int wai])), (qR, .inl (cI, 32, .inl fR)), (qC, .inl (cI, 256, .inl fC)), (qI, .inl (cI, 1024, .inl fI)), (qM, .inr (0, [.ref qW, .int mar, .int rst])), (qW, .inl (cI, 1024, .inl fW)), (qT, .inr (2, [.ref qp, .ref qc, .ref qd, .ref qk, .int hand, .int hov, .int said])), (qp, .inl (cI, 16, .inl fp)), (qc, .inl (cI, 16, .inl fc)), (qd, .inl (cI, 16, .inl fd)), (qk, .inl (cZ, 16, .inl fk)), (qO, .inr (1, [.ref qo, .int kept, .int gone])), (qo, .inl (cI, 500, .inl fo))] := hD
          refine lv_bipush (v := 6) hx hb dX3_mustWait_55 (by decide) ?_
          refine lv_icmp_ne (tgt := 69) hx hb dX3_mustWait_57 (by decide) (fun c_10 => ?_) (fun c_10 => ?_)
          · skip
            refine lv_iconst (v := 0) hx hb dX3_mustWait_69 (by decide) ?_
            have e_1 : r_X3_mustWait rst p0 = 0 := by simp only [r_X3_mustWait, if_pos c_1, if_neg c_8, if_pos c_9, if_neg c_10]
            exact ct_zret hx hb hr hlocks hP hD hS rfl (by rw [e_1]) (Or.inl rfl) dX3_mustWait_70
          · skip
            refine lv_iload_n hx hb dX3_mustWait_60 rfl (lv_at hl 1 rfl) ?_
            refine lv_iconst (v := 2) hx hb dX3_mustWait_61 (by decide) ?_
            refine lv_icmp_ge (tgt := 69) hx hb dX3_mustWait_62 (by decide) (fun c_11 => ?_) (fun c_11 => ?_)
            · skip
              refine lv_iconst (v := 0) hx hb dX3_mustWait_69 (by decide) ?_
              have e_1 : r_X3_mustWait rst p0 = 0 := by simp only [r_X3_mustWait, if_pos c_1, if_neg c_8, if_pos c_9, if_pos c_10, if_pos c_11]
              exact ct_zret hx hb hr hlocks hP hD hS rfl (by rw [e_1]) (Or.inl rfl) dX3_mustWait_70
            · skip
              refine lv_iconst (v := 1) hx hb dX3_mustWait_65 (by decide) ?_
              refine lv_goto (tgt := 70) hx hb dX3_mustWait_66 (by decide) ?_
              have e_1 : r_X3_mustWait rst p0 = 1 := by simp only [r_X3_mustWait, if_pos c_1, if_neg c_8, if_pos c_9, if_pos c_10, if_neg c_11]
              exact ct_zret hx hb hr hlocks hP hD hS rfl (by rw [e_1]) (Or.inr rfl) dX3_mustWait_70
        · skip
          refine lv_iload_n hx hb dX3_mustWait_46 rfl (lv_at hl 1 rfl) ?_
          refine lv_iconst (v := 4) hx hb dX3_mustWait_47 (by decide) ?_
          refine lv_icmp_lt (tgt := 65) hx hb dX3_mustWait_48 (by decide) (fun c_12 => ?_) (fun c_12 => ?_)
          · skip
            refine lv_iconst (v := 1) hx hb dX3_mustWait_65 (by decide) ?_
            refine lv_goto (tgt := 70) hx hb dX3_mustWait_66 (by decide) ?_
            have e_1 : r_X3_mustWait rst p0 = 1 := by simp only [r_X3_mustWait, if_pos c_1, if_neg c_8, if_neg c_9, if_pos c_12]
            exact ct_zret hx hb hr hlocks hP hD hS rfl (by rw [e_1]) (Or.inr rfl) dX3_mustWait_70
          · skip
            refine lv_iload_n hx hb dX3_mustWait_51 rfl (lv_at hl 3 rfl) ?_
            refine ctI_S (As := [.int p0]) (rest := []) (wc := []) (wr := [(qx, .inr (3, [.ref qR, .ref qC, .ref qI, .ref qM, .ref qT, .ref qO, .int rT, .int rL, .int rC, .int rIn, .int cyc, .int wai])), (qR, .inl (cI, 32, .inl fR)), (qC, .inl (cI, 256, .inl fC)), (qI, .inl (cI, 1024, .inl fI)), (qM, .inr (0, [.ref qW, .int mar, .int rst])), (qW, .inl (cI, 1024, .inl fW)), (qT, .inr (2, [.ref qp, .ref qc, .ref qd, .ref qk, .int hand, .int hov, .int said])), (qp, .inl (cI, 16, .inl fp)), (qc, .inl (cI, 16, .inl fc)), (qd, .inl (cI, 16, .inl fd)), (qk, .inl (cZ, 16, .inl fk)), (qO, .inr (1, [.ref qo, .int kept, .int gone])), (qo, .inl (cI, 500, .inl fo))]) ⟨hx, hb, hml, hown, hts⟩ (c_X3_f2Of l D cI cZ p0) (cwS 1 hts (gd_S wm_X3_134 wt_X3_f2Of wz_X3 wo_X3_f2Of) rfl rfl rfl (by decide +kernel) ⟨Nat.le_of_ble_eq_true rfl, Nat.le_of_ble_eq_true rfl⟩) hK hP hD hS hA [] [0, 1, 2, 3, 4, 5, 6, 7, 8, 9, 10, 11, 12] rfl rfl (by decide) (by decide) (by decide) rfl rfl hl.1 (Nat.le_of_ble_eq_true rfl) dX3_mustWait_52 ⟨Nat.le_of_ble_eq_true rfl, Nat.le_of_ble_eq_true rfl⟩ (fun H locs hP hD hS => ?_)
            have hP : va_P D classes [(qx, .inr (3, [.ref qR, .ref qC, .ref qI, .ref qM, .ref qT, .ref qO, .int rT, .int rL, .int rC, .int rIn, .int cyc, .int wai])), (qR, .inl (cI, 32, .inl fR)), (qC, .inl (cI, 256, .inl fC)), (qI, .inl (cI, 1024, .inl fI)), (qM, .inr (0, [.ref qW, .int mar, .int rst])), (qW, .inl (cI, 1024, .inl fW)), (qT, .inr (2, [.ref qp, .ref qc, .ref qd, .ref qk, .int hand, .int hov, .int said])), (qp, .inl (cI, 16, .inl fp)), (qc, .inl (cI, 16, .inl fc)), (qd, .inl (cI, 16, .inl fd)), (qk, .inl (cZ, 16, .inl fk)), (qO, .inr (1, [.ref qo, .int kept, .int gone])), (qo, .inl (cI, 500, .inl fo))] H := hP
            have hD : va_D A [(qx, .inr (3, [.ref qR, .ref qC, .ref qI, .ref qM, .ref qT, .ref qO, .int rT, .int rL, .int rC, .int rIn, .int cyc, .int wai])), (qR, .inl (cI, 32, .inl fR)), (qC, .inl (cI, 256, .inl fC)), (qI, .inl (cI, 1024, .inl fI)), (qM, .inr (0, [.ref qW, .int mar, .int rst])), (qW, .inl (cI, 1024, .inl fW)), (qT, .inr (2, [.ref qp, .ref qc, .ref qd, .ref qk, .int hand, .int hov, .int said])), (qp, .inl (cI, 16, .inl fp)), (qc, .inl (cI, 16, .inl fc)), (qd, .inl (cI, 16, .inl fd)), (qk, .inl (cZ, 16, .inl fk)), (qO, .inr (1, [.ref qo, .int kept, .int gone])), (qo, .inl (cI, 500, .inl fo))] := hD
            refine lv_bipush (v := 6) hx hb dX3_mustWait_55 (by decide) ?_
            refine lv_icmp_ne (tgt := 69) hx hb dX3_mustWait_57 (by decide) (fun c_13 => ?_) (fun c_13 => ?_)
            · skip
              refine lv_iconst (v := 0) hx hb dX3_mustWait_69 (by decide) ?_
              have e_1 : r_X3_mustWait rst p0 = 0 := by simp only [r_X3_mustWait, if_pos c_1, if_neg c_8, if_neg c_9, if_neg c_12, if_neg c_13]
              exact ct_zret hx hb hr hlocks hP hD hS rfl (by rw [e_1]) (Or.inl rfl) dX3_mustWait_70
            · skip
              refine lv_iload_n hx hb dX3_mustWait_60 rfl (lv_at hl 1 rfl) ?_
              refine lv_iconst (v := 2) hx hb dX3_mustWait_61 (by decide) ?_
              refine lv_icmp_ge (tgt := 69) hx hb dX3_mustWait_62 (by decide) (fun c_14 => ?_) (fun c_14 => ?_)
              · skip
                refine lv_iconst (v := 0) hx hb dX3_mustWait_69 (by decide) ?_
                have e_1 : r_X3_mustWait rst p0 = 0 := by simp only [r_X3_mustWait, if_pos c_1, if_neg c_8, if_neg c_9, if_neg c_12, if_pos c_13, if_pos c_14]
                exact ct_zret hx hb hr hlocks hP hD hS rfl (by rw [e_1]) (Or.inl rfl) dX3_mustWait_70
              · skip
                refine lv_iconst (v := 1) hx hb dX3_mustWait_65 (by decide) ?_
                refine lv_goto (tgt := 70) hx hb dX3_mustWait_66 (by decide) ?_
                have e_1 : r_X3_mustWait rst p0 = 1 := by simp only [r_X3_mustWait, if_pos c_1, if_neg c_8, if_neg c_9, if_neg c_12, if_pos c_13, if_neg c_14]
                exact ct_zret hx hb hr hlocks hP hD hS rfl (by rw [e_1]) (Or.inr rfl) dX3_mustWait_70
  · skip
    refine lv_icmp_ne (tgt := 27) hx hb dX3_mustWait_13 (by decide) (fun c_15 => ?_) (fun c_15 => ?_)
    · skip
      refine lv_iconst (v := 0) hx hb dX3_mustWait_27 (by decide) ?_
      have hP := hP.sub (ws' := [(qx, .inr (3, [.ref qR, .ref qC, .ref qI, .ref qM, .ref qT, .ref qO, .int rT, .int rL, .int rC, .int rIn, .int cyc, .int wai])), (qR, .inl (cI, 32, .inl fR)), (qC, .inl (cI, 256, .inl fC)), (qI, .inl (cI, 1024, .inl fI)), (qM, .inr (0, [.ref qW, .int mar, .int rst])), (qW, .inl (cI, 1024, .inl fW)), (qT, .inr (2, [.ref qp, .ref qc, .ref qd, .ref qk, .int hand, .int hov, .int said])), (qp, .inl (cI, 16, .inl fp)), (qc, .inl (cI, 16, .inl fc)), (qd, .inl (cI, 16, .inl fd)), (qk, .inl (cZ, 16, .inl fk)), (qO, .inr (1, [.ref qo, .int kept, .int gone])), (qo, .inl (cI, 500, .inl fo))]) [0, 1, 2, 3, 4, 5, 6, 7, 8, 9, 10, 11, 12] rfl
      have hD := hD.sub (ws' := [(qx, .inr (3, [.ref qR, .ref qC, .ref qI, .ref qM, .ref qT, .ref qO, .int rT, .int rL, .int rC, .int rIn, .int cyc, .int wai])), (qR, .inl (cI, 32, .inl fR)), (qC, .inl (cI, 256, .inl fC)), (qI, .inl (cI, 1024, .inl fI)), (qM, .inr (0, [.ref qW, .int mar, .int rst])), (qW, .inl (cI, 1024, .inl fW)), (qT, .inr (2, [.ref qp, .ref qc, .ref qd, .ref qk, .int hand, .int hov, .int said])), (qp, .inl (cI, 16, .inl fp)), (qc, .inl (cI, 16, .inl fc)), (qd, .inl (cI, 16, .inl fd)), (qk, .inl (cZ, 16, .inl fk)), (qO, .inr (1, [.ref qo, .int kept, .int gone])), (qo, .inl (cI, 500, .inl fo))]) [0, 1, 2, 3, 4, 5, 6, 7, 8, 9, 10, 11, 12] (by decide) rfl
      have e_1 : j_X3_mustWait_28_s0 p0 = 0 := by simp only [j_X3_mustWait_28_s0, if_neg c_15]
      refine W.eq (g2 := F0 m 28 ls [.int (j_X3_mustWait_28_s0 p0)]) (by rw [e_1]) ?_
      exact J _ _ _ ⟨hP, hD, hS, (lv_sub hl [0, 1, 2] rfl)⟩
    · skip
      refine lv_iload_n hx hb dX3_mustWait_16 rfl (lv_at hl 2 rfl) ?_
      refine ctI_S (As := [.int p0]) (rest := []) (wc := []) (wr := [(qx, .inr (3, [.ref qR, .ref qC, .ref qI, .ref qM, .ref qT, .ref qO, .int rT, .int rL, .int rC, .int rIn, .int cyc, .int wai])), (qR, .inl (cI, 32, .inl fR)), (qC, .inl (cI, 256, .inl fC)), (qI, .inl (cI, 1024, .inl fI)), (qM, .inr (0, [.ref qW, .int mar, .int rst])), (qW, .inl (cI, 1024, .inl fW)), (qT, .inr (2, [.ref qp, .ref qc, .ref qd, .ref qk, .int hand, .int hov, .int said])), (qp, .inl (cI, 16, .inl fp)), (qc, .inl (cI, 16, .inl fc)), (qd, .inl (cI, 16, .inl fd)), (qk, .inl (cZ, 16, .inl fk)), (qO, .inr (1, [.ref qo, .int kept, .int gone])), (qo, .inl (cI, 500, .inl fo))]) ⟨hx, hb, hml, hown, hts⟩ (c_X3_hasConstant l D cI cZ p0) (cwS 1 hts (gd_S wm_X3_128 wt_X3_hasConstant wz_X3 wo_X3_hasConstant) rfl rfl rfl (by decide +kernel) ⟨Nat.le_of_ble_eq_true rfl, Nat.le_of_ble_eq_true rfl⟩) hK hP hD hS hA [] [0, 1, 2, 3, 4, 5, 6, 7, 8, 9, 10, 11, 12] rfl rfl (by decide) (by decide) (by decide) rfl rfl hl.1 (Nat.le_of_ble_eq_true rfl) dX3_mustWait_17 ⟨Nat.le_of_ble_eq_true rfl, Nat.le_of_ble_eq_true rfl⟩ (fun H locs hP hD hS => ?_)
      have hP : va_P D classes [(qx, .inr (3, [.ref qR, .ref qC, .ref qI, .ref qM, .ref qT, .ref qO, .int rT, .int rL, .int rC, .int rIn, .int cyc, .int wai])), (qR, .inl (cI, 32, .inl fR)), (qC, .inl (cI, 256, .inl fC)), (qI, .inl (cI, 1024, .inl fI)), (qM, .inr (0, [.ref qW, .int mar, .int rst])), (qW, .inl (cI, 1024, .inl fW)), (qT, .inr (2, [.ref qp, .ref qc, .ref qd, .ref qk, .int hand, .int hov, .int said])), (qp, .inl (cI, 16, .inl fp)), (qc, .inl (cI, 16, .inl fc)), (qd, .inl (cI, 16, .inl fd)), (qk, .inl (cZ, 16, .inl fk)), (qO, .inr (1, [.ref qo, .int kept, .int gone])), (qo, .inl (cI, 500, .inl fo))] H := hP
      have hD : va_D A [(qx, .inr (3, [.ref qR, .ref qC, .ref qI, .ref qM, .ref qT, .ref qO, .int rT, .int rL, .int rC, .int rIn, .int cyc, .int wai])), (qR, .inl (cI, 32, .inl fR)), (qC, .inl (cI, 256, .inl fC)), (qI, .inl (cI, 1024, .inl fI)), (qM, .inr (0, [.ref qW, .int mar, .int rst])), (qW, .inl (cI, 1024, .inl fW)), (qT, .inr (2, [.ref qp, .ref qc, .ref qd, .ref qk, .int hand, .int hov, .int said])), (qp, .inl (cI, 16, .inl fp)), (qc, .inl (cI, 16, .inl fc)), (qd, .inl (cI, 16, .inl fd)), (qk, .inl (cZ, 16, .inl fk)), (qO, .inr (1, [.ref qo, .int kept, .int gone])), (qo, .inl (cI, 500, .inl fo))] := hD
      refine lv_if_ne (tgt := 27) hx hb dX3_mustWait_20 (by decide) (fun c_16 => ?_) (fun c_16 => ?_)
      · skip
        refine lv_iconst (v := 0) hx hb dX3_mustWait_27 (by decide) ?_
        have hP := hP.sub (ws' := [(qx, .inr (3, [.ref qR, .ref qC, .ref qI, .ref qM, .ref qT, .ref qO, .int rT, .int rL, .int rC, .int rIn, .int cyc, .int wai])), (qR, .inl (cI, 32, .inl fR)), (qC, .inl (cI, 256, .inl fC)), (qI, .inl (cI, 1024, .inl fI)), (qM, .inr (0, [.ref qW, .int mar, .int rst])), (qW, .inl (cI, 1024, .inl fW)), (qT, .inr (2, [.ref qp, .ref qc, .ref qd, .ref qk, .int hand, .int hov, .int said])), (qp, .inl (cI, 16, .inl fp)), (qc, .inl (cI, 16, .inl fc)), (qd, .inl (cI, 16, .inl fd)), (qk, .inl (cZ, 16, .inl fk)), (qO, .inr (1, [.ref qo, .int kept, .int gone])), (qo, .inl (cI, 500, .inl fo))]) [0, 1, 2, 3, 4, 5, 6, 7, 8, 9, 10, 11, 12] rfl
        have hD := hD.sub (ws' := [(qx, .inr (3, [.ref qR, .ref qC, .ref qI, .ref qM, .ref qT, .ref qO, .int rT, .int rL, .int rC, .int rIn, .int cyc, .int wai])), (qR, .inl (cI, 32, .inl fR)), (qC, .inl (cI, 256, .inl fC)), (qI, .inl (cI, 1024, .inl fI)), (qM, .inr (0, [.ref qW, .int mar, .int rst])), (qW, .inl (cI, 1024, .inl fW)), (qT, .inr (2, [.ref qp, .ref qc, .ref qd, .ref qk, .int hand, .int hov, .int said])), (qp, .inl (cI, 16, .inl fp)), (qc, .inl (cI, 16, .inl fc)), (qd, .inl (cI, 16, .inl fd)), (qk, .inl (cZ, 16, .inl fk)), (qO, .inr (1, [.ref qo, .int kept, .int gone])), (qo, .inl (cI, 500, .inl fo))]) [0, 1, 2, 3, 4, 5, 6, 7, 8, 9, 10, 11, 12] (by decide) rfl
        have e_1 : j_X3_mustWait_28_s0 p0 = 0 := by simp only [j_X3_mustWait_28_s0, if_pos c_15, if_neg c_16]
        refine W.eq (g2 := F0 m 28 ls [.int (j_X3_mustWait_28_s0 p0)]) (by rw [e_1]) ?_
        exact J _ _ _ ⟨hP, hD, hS, (lv_sub hl [0, 1, 2] rfl)⟩
      · skip
        refine lv_iconst (v := 1) hx hb dX3_mustWait_23 (by decide) ?_
        refine lv_goto (tgt := 28) hx hb dX3_mustWait_24 (by decide) ?_
        have hP := hP.sub (ws' := [(qx, .inr (3, [.ref qR, .ref qC, .ref qI, .ref qM, .ref qT, .ref qO, .int rT, .int rL, .int rC, .int rIn, .int cyc, .int wai])), (qR, .inl (cI, 32, .inl fR)), (qC, .inl (cI, 256, .inl fC)), (qI, .inl (cI, 1024, .inl fI)), (qM, .inr (0, [.ref qW, .int mar, .int rst])), (qW, .inl (cI, 1024, .inl fW)), (qT, .inr (2, [.ref qp, .ref qc, .ref qd, .ref qk, .int hand, .int hov, .int said])), (qp, .inl (cI, 16, .inl fp)), (qc, .inl (cI, 16, .inl fc)), (qd, .inl (cI, 16, .inl fd)), (qk, .inl (cZ, 16, .inl fk)), (qO, .inr (1, [.ref qo, .int kept, .int gone])), (qo, .inl (cI, 500, .inl fo))]) [0, 1, 2, 3, 4, 5, 6, 7, 8, 9, 10, 11, 12] rfl
        have hD := hD.sub (ws' := [(qx, .inr (3, [.ref qR, .ref qC, .ref qI, .ref qM, .ref qT, .ref qO, .int rT, .int rL, .int rC, .int rIn, .int cyc, .int wai])), (qR, .inl (cI, 32, .inl fR)), (qC, .inl (cI, 256, .inl fC)), (qI, .inl (cI, 1024, .inl fI)), (qM, .inr (0, [.ref qW, .int mar, .int rst])), (qW, .inl (cI, 1024, .inl fW)), (qT, .inr (2, [.ref qp, .ref qc, .ref qd, .ref qk, .int hand, .int hov, .int said])), (qp, .inl (cI, 16, .inl fp)), (qc, .inl (cI, 16, .inl fc)), (qd, .inl (cI, 16, .inl fd)), (qk, .inl (cZ, 16, .inl fk)), (qO, .inr (1, [.ref qo, .int kept, .int gone])), (qo, .inl (cI, 500, .inl fo))]) [0, 1, 2, 3, 4, 5, 6, 7, 8, 9, 10, 11, 12] (by decide) rfl
        have e_1 : j_X3_mustWait_28_s0 p0 = 1 := by simp only [j_X3_mustWait_28_s0, if_pos c_15, if_pos c_16]
        refine W.eq (g2 := F0 m 28 ls [.int (j_X3_mustWait_28_s0 p0)]) (by rw [e_1]) ?_
        exact J _ _ _ ⟨hP, hD, hS, (lv_sub hl [0, 1, 2] rfl)⟩
end
end
section
section
def k_X3_perform_sh (rL : Int32) (p0 : Int32) : Int32 := r_X3_shiftedL rL ((p0 >>> (16 &&& 31)) &&& 15)
def k_X3_perform_bus (fR : Nat → Int32) (fC : Nat → Int32) (fW : Nat → Int32) (rL : Int32) (rIn : Int32) (mar : Int32) (hand : Int32) (p0 : Int32) : Int32 := r_X3_busOf fR fC fW rL rIn mar hand p0
def k_X3_perform_sum (fR : Nat → Int32) (fC : Nat → Int32) (fW : Nat → Int32) (rT : Int32) (rL : Int32) (rC : Int32) (rIn : Int32) (mar : Int32) (hand : Int32) (p0 : Int32) : Int32 := r_X3_sumOf rT rC ((p0 >>> (23 &&& 31)) &&& 15) (k_X3_perform_bus fR fC fW rL rIn mar hand p0)
def k_X3_perform_chg (fR : Nat → Int32) (fC : Nat → Int32) (fW : Nat → Int32) (rL : Int32) (rC : Int32) (rIn : Int32) (mar : Int32) (hand : Int32) (p0 : Int32) : Int32 := r_X3_changeOf rC rIn ((p0 >>> (12 &&& 31)) &&& 15) (k_X3_perform_bus fR fC fW rL rIn mar hand p0) (k_X3_perform_sh rL p0)
def j_X3_perform_80_qR (fR : Nat → Int32) (rL : Int32) (p0 : Int32) : Nat → Int32 := (if ((p0 >>> (20 &&& 31)) &&& 7) = 1 then (if (r_X3_hasConstant p0) = 0 then upd fR (Int32.toNatClampNeg (jushr p0 27)) (k_X3_perform_sh rL p0) else fR) else fR)
def j_X3_perform_105_qx6 (fR : Nat → Int32) (fC : Nat → Int32) (fW : Nat → Int32) (rT : Int32) (rL : Int32) (rC : Int32) (rIn : Int32) (mar : Int32) (hand : Int32) (p0 : Int32) : Int32 := (if (r_X3_loadsT p0) = 0 then rT else (if (r_X3_givesAluToT ((p0 >>> (23 &&& 31)) &&& 15)) = 0 then k_X3_perform_bus fR fC fW rL rIn mar hand p0 else (k_X3_perform_sum fR fC fW rT rL rC rIn mar hand p0) &&& 65535))
def j_X3_perform_127_qx7 (fR : Nat → Int32) (fC : Nat → Int32) (fW : Nat → Int32) (rT : Int32) (rL : Int32) (rC : Int32) (rIn : Int32) (mar : Int32) (hand : Int32) (p0 : Int32) : Int32 := (if (r_X3_loadsL p0) = 0 then rL else (k_X3_perform_sum fR fC fW rT rL rC rIn mar hand p0) &&& 65535)
def j_X3_perform_127_qx8 (fR : Nat → Int32) (fC : Nat → Int32) (fW : Nat → Int32) (rT : Int32) (rL : Int32) (rC : Int32) (rIn : Int32) (mar : Int32) (hand : Int32) (p0 : Int32) : Int32 := (if (r_X3_loadsL p0) = 0 then rC else (k_X3_perform_sum fR fC fW rT rL rC rIn mar hand p0) >>> (16 &&& 31))
def j_X3_perform_151_qO1 (kept : Int32) (p0 : Int32) : Int32 := (if ((p0 >>> (16 &&& 31)) &&& 15) = 8 then z_X1_send_qO1 kept else kept)
def j_X3_perform_151_qO2 (gone : Int32) (p0 : Int32) : Int32 := (if ((p0 >>> (16 &&& 31)) &&& 15) = 8 then gone + 1 else gone)
def j_X3_perform_151_qo (fR : Nat → Int32) (fC : Nat → Int32) (fW : Nat → Int32) (fo : Nat → Int32) (rL : Int32) (rIn : Int32) (mar : Int32) (hand : Int32) (kept : Int32) (p0 : Int32) : Nat → Int32 := (if ((p0 >>> (16 &&& 31)) &&& 15) = 8 then z_X1_send_qo fo kept (k_X3_perform_bus fR fC fW rL rIn mar hand p0) else fo)
set_option maxHeartbeats 4000000 in
set_option maxRecDepth 100000 in
theorem c_X3_perform (l : Launch) (D : va_G) (cI cZ : ClassId) (qx : Nat) (qR : Nat) (qC : Nat) (qI : Nat) (qM : Nat) (qW : Nat) (qT : Nat) (qp : Nat) (qc : Nat) (qd : Nat) (qk : Nat) (qO : Nat) (qo : Nat) (fR : Nat → Int32) (fC : Nat → Int32) (fI : Nat → Int32) (fW : Nat → Int32) (fp : Nat → Int32) (fc : Nat → Int32) (fd : Nat → Int32) (fk : Nat → Int32) (fo : Nat → Int32) (rT : Int32) (rL : Int32) (rC : Int32) (rIn : Int32) (cyc : Int32) (wai : Int32) (mar : Int32) (rst : Int32) (hand : Int32) (hov : Int32) (said : Int32) (kept : Int32) (gone : Int32) (p0 : Int32) (hh : vp_in hand 16) (hk0 : ¬ kept < 0) : CtV l D classes [(cI, .int), (cZ, .boolean)] yX3_perform w_X3_perform { frames := 3, cells := 0, slots := 0, locals := 63 } [.ref qx, .int p0] [(qx, .inr (3, [.ref qR, .ref qC, .ref qI, .ref qM, .ref qT, .ref qO, .int rT, .int rL, .int rC, .int rIn, .int cyc, .int wai])), (qR, .inl (cI, 32, .inl fR)), (qC, .inl (cI, 256, .inl fC)), (qI, .inl (cI, 1024, .inl fI)), (qM, .inr (0, [.ref qW, .int mar, .int rst])), (qW, .inl (cI, 1024, .inl fW)), (qT, .inr (2, [.ref qp, .ref qc, .ref qd, .ref qk, .int hand, .int hov, .int said])), (qp, .inl (cI, 16, .inl fp)), (qc, .inl (cI, 16, .inl fc)), (qd, .inl (cI, 16, .inl fd)), (qk, .inl (cZ, 16, .inl fk)), (qO, .inr (1, [.ref qo, .int kept, .int gone])), (qo, .inl (cI, 500, .inl fo))] (fun (_ : Unit) => [(qx, .inr (3, [.ref qR, .ref qC, .ref qI, .ref qM, .ref qT, .ref qO, .int (j_X3_perform_105_qx6 fR fC fW rT rL rC rIn mar hand p0), .int (j_X3_perform_127_qx7 fR fC fW rT rL rC rIn mar hand p0), .int (j_X3_perform_127_qx8 fR fC fW rT rL rC rIn mar hand p0), .int rIn, .int cyc, .int wai])), (qR, .inl (cI, 32, .inl (j_X3_perform_80_qR fR rL p0))), (qC, .inl (cI, 256, .inl fC)), (qI, .inl (cI, 1024, .inl fI)), (qM, .inr (0, [.ref qW, .int (z_X3_useMemory_qM1 mar p0 ((k_X3_perform_sum fR fC fW rT rL rC rIn mar hand p0) &&& 65535)), .int (z_X3_useMemory_qM2 rst p0)])), (qW, .inl (cI, 1024, .inl (j_X3_useMemory_17_qW fW mar p0 (k_X3_perform_bus fR fC fW rL rIn mar hand p0)))), (qT, .inr (2, [.ref qp, .ref qc, .ref qd, .ref qk, .int (j_X2_goOn_80_qT4 fk hand said ((p0 >>> (16 &&& 31)) &&& 15)), .int (j_X2_goOn_80_qT5 fk hand hov said ((p0 >>> (16 &&& 31)) &&& 15)), .int (z_X2_goOn_qT6 ((p0 >>> (16 &&& 31)) &&& 15))])), (qp, .inl (cI, 16, .inl (upd fp (Int32.toNatClampNeg hand) ((p0 &&& 1023) ||| (fc (Int32.toNatClampNeg hand)))))), (qc, .inl (cI, 16, .inl (upd fc (Int32.toNatClampNeg hand) (k_X3_perform_chg fR fC fW rL rC rIn mar hand p0)))), (qd, .inl (cI, 16, .inl (upd fd (Int32.toNatClampNeg hand) ((fd (Int32.toNatClampNeg hand)) + 1)))), (qk, .inl (cZ, 16, .inl (j_X2_goOn_65_qk fk hand ((p0 >>> (16 &&& 31)) &&& 15)))), (qO, .inr (1, [.ref qo, .int (j_X3_perform_151_qO1 kept p0), .int (j_X3_perform_151_qO2 gone p0)])), (qo, .inl (cI, 500, .inl (j_X3_perform_151_qo fR fC fW fo rL rIn mar hand kept p0)))]) 0 0 := by
  refine CtV.mk (cc := cX3_perform) (maxL := 9) (ret := none) (by decide) rfl (Nat.le_of_ble_eq_true rfl) ?_
  intro p e s m below meth c A hBeg ls hl
  obtain ⟨hx, hb, hr, hml, hts0, hown, hlocks, hin, hA, hK, hP, hD, hS⟩ := hBeg
  have hts := fun w h => hts0 w (List.mem_cons_of_mem _ h)
  have hown : s.vm.findClass RX3 = some m.cls := hown
  have hl : lv_has ls 9 [(0, .ref qx), (1, .int p0)] := hl
  skip
  refine lv_iload_n hx hb dX3_perform_0 rfl (lv_at hl 1 rfl) ?_
  refine ctI_S (As := [.int p0]) (rest := []) (wc := []) (wr := [(qx, .inr (3, [.ref qR, .ref qC, .ref qI, .ref qM, .ref qT, .ref qO, .int rT, .int rL, .int rC, .int rIn, .int cyc, .int wai])), (qR, .inl (cI, 32, .inl fR)), (qC, .inl (cI, 256, .inl fC)), (qI, .inl (cI, 1024, .inl fI)), (qM, .inr (0, [.ref qW, .int mar, .int rst])), (qW, .inl (cI, 1024, .inl fW)), (qT, .inr (2, [.ref qp, .ref qc, .ref qd, .ref qk, .int hand, .int hov, .int said])), (qp, .inl (cI, 16, .inl fp)), (qc, .inl (cI, 16, .inl fc)), (qd, .inl (cI, 16, .inl fd)), (qk, .inl (cZ, 16, .inl fk)), (qO, .inr (1, [.ref qo, .int kept, .int gone])), (qo, .inl (cI, 500, .inl fo))]) ⟨hx, hb, hml, hown, hts⟩ (c_X3_alufOf l D cI cZ p0) (cwS 1 hts (gd_S wm_X3_137 wt_X3_alufOf wz_X3 wo_X3_alufOf) rfl rfl rfl (by decide +kernel) ⟨Nat.le_of_ble_eq_true rfl, Nat.le_of_ble_eq_true rfl⟩) hK hP hD hS hA [] [0, 1, 2, 3, 4, 5, 6, 7, 8, 9, 10, 11, 12] rfl rfl (by decide) (by decide) (by decide) rfl rfl hl.1 (Nat.le_of_ble_eq_true rfl) dX3_perform_1 ⟨Nat.le_of_ble_eq_true rfl, Nat.le_of_ble_eq_true rfl⟩ (fun H locs hP hD hS => ?_)
  have hP : va_P D classes [(qx, .inr (3, [.ref qR, .ref qC, .ref qI, .ref qM, .ref qT, .ref qO, .int rT, .int rL, .int rC, .int rIn, .int cyc, .int wai])), (qR, .inl (cI, 32, .inl fR)), (qC, .inl (cI, 256, .inl fC)), (qI, .inl (cI, 1024, .inl fI)), (qM, .inr (0, [.ref qW, .int mar, .int rst])), (qW, .inl (cI, 1024, .inl fW)), (qT, .inr (2, [.ref qp, .ref qc, .ref qd, .ref qk, .int hand, .int hov, .int said])), (qp, .inl (cI, 16, .inl fp)), (qc, .inl (cI, 16, .inl fc)), (qd, .inl (cI, 16, .inl fd)), (qk, .inl (cZ, 16, .inl fk)), (qO, .inr (1, [.ref qo, .int kept, .int gone])), (qo, .inl (cI, 500, .inl fo))] H := hP
  have hD : va_D A [(qx, .inr (3, [.ref qR, .ref qC, .ref qI, .ref qM, .ref qT, .ref qO, .int rT, .int rL, .int rC, .int rIn, .int cyc, .int wai])), (qR, .inl (cI, 32, .inl fR)), (qC, .inl (cI, 256, .inl fC)), (qI, .inl (cI, 1024, .inl fI)), (qM, .inr (0, [.ref qW, .int mar, .int rst])), (qW, .inl (cI, 1024, .inl fW)), (qT, .inr (2, [.ref qp, .ref qc, .ref qd, .ref qk, .int hand, .int hov, .int said])), (qp, .inl (cI, 16, .inl fp)), (qc, .inl (cI, 16, .inl fc)), (qd, .inl (cI, 16, .inl fd)), (qk, .inl (cZ, 16, .inl fk)), (qO, .inr (1, [.ref qo, .int kept, .int gone])), (qo, .inl (cI, 500, .inl fo))] := hD
  refine lv_istore_n (lv' := [(2, .int ((p0 >>> (23 &&& 31)) &&& 15)), (0, .ref qx), (1, .int p0)]) hx hb dX3_perform_4 rfl hl (by decide) rfl (fun ls hl => ?_)
  refine lv_iload_n hx hb dX3_perform_5 rfl (lv_at hl 2 rfl) ?_
  refine ctI_S (As := [.int p0]) (rest := []) (wc := []) (wr := [(qx, .inr (3, [.ref qR, .ref qC, .ref qI, .ref qM, .ref qT, .ref qO, .int rT, .int rL, .int rC, .int rIn, .int cyc, .int wai])), (qR, .inl (cI, 32, .inl fR)), (qC, .inl (cI, 256, .inl fC)), (qI, .inl (cI, 1024, .inl fI)), (qM, .inr (0, [.ref qW, .int mar, .int rst])), (qW, .inl (cI, 1024, .inl fW)), (qT, .inr (2, [.ref qp, .ref qc, .ref qd, .ref qk, .int hand, .int hov, .int said])), (qp, .inl (cI, 16, .inl fp)), (qc, .inl (cI, 16, .inl fc)), (qd, .inl (cI, 16, .inl fd)), (qk, .inl (cZ, 16, .inl fk)), (qO, .inr (1, [.ref qo, .int kept, .int gone])), (qo, .inl (cI, 500, .inl fo))]) ⟨hx, hb, hml, hown, hts⟩ (c_X3_f1Of l D cI cZ p0) (cwS 1 hts (gd_S wm_X3_131 wt_X3_f1Of wz_X3 wo_X3_f1Of) rfl rfl rfl (by decide +kernel) ⟨Nat.le_of_ble_eq_true rfl, Nat.le_of_ble_eq_true rfl⟩) hK hP hD hS hA [] [0, 1, 2, 3, 4, 5, 6, 7, 8, 9, 10, 11, 12] rfl rfl (by decide) (by decide) (by decide) rfl rfl hl.1 (Nat.le_of_ble_eq_true rfl) dX3_perform_6 ⟨Nat.le_of_ble_eq_true rfl, Nat.le_of_ble_eq_true rfl⟩ (fun H locs hP hD hS => ?_)
  have hP : va_P D classes [(qx, .inr (3, [.ref qR, .ref qC, .ref qI, .ref qM, .ref qT, .ref qO, .int rT, .int rL, .int rC, .int rIn, .int cyc, .int wai])), (qR, .inl (cI, 32, .inl fR)), (qC, .inl (cI, 256, .inl fC)), (qI, .inl (cI, 1024, .inl fI)), (qM, .inr (0, [.ref qW, .int mar, .int rst])), (qW, .inl (cI, 1024, .inl fW)), (qT, .inr (2, [.ref qp, .ref qc, .ref qd, .ref qk, .int hand, .int hov, .int said])), (qp, .inl (cI, 16, .inl fp)), (qc, .inl (cI, 16, .inl fc)), (qd, .inl (cI, 16, .inl fd)), (qk, .inl (cZ, 16, .inl fk)), (qO, .inr (1, [.ref qo, .int kept, .int gone])), (qo, .inl (cI, 500, .inl fo))] H := hP
  have hD : va_D A [(qx, .inr (3, [.ref qR, .ref qC, .ref qI, .ref qM, .ref qT, .ref qO, .int rT, .int rL, .int rC, .int rIn, .int cyc, .int wai])), (qR, .inl (cI, 32, .inl fR)), (qC, .inl (cI, 256, .inl fC)), (qI, .inl (cI, 1024, .inl fI)), (qM, .inr (0, [.ref qW, .int mar, .int rst])), (qW, .inl (cI, 1024, .inl fW)), (qT, .inr (2, [.ref qp, .ref qc, .ref qd, .ref qk, .int hand, .int hov, .int said])), (qp, .inl (cI, 16, .inl fp)), (qc, .inl (cI, 16, .inl fc)), (qd, .inl (cI, 16, .inl fd)), (qk, .inl (cZ, 16, .inl fk)), (qO, .inr (1, [.ref qo, .int kept, .int gone])), (qo, .inl (cI, 500, .inl fo))] := hD
  refine lv_istore_n (lv' := [(3, .int ((p0 >>> (16 &&& 31)) &&& 15)), (2, .int ((p0 >>> (23 &&& 31)) &&& 15)), (0, .ref qx), (1, .int p0)]) hx hb dX3_perform_9 rfl hl (by decide) rfl (fun ls hl => ?_)
  refine lv_aload_n hx hb dX3_perform_10 rfl (lv_at hl 2 rfl) ?_
  refine lv_iload_n hx hb dX3_perform_11 rfl (lv_at hl 0 rfl) ?_
  refine ctI_V (As := [.int ((p0 >>> (16 &&& 31)) &&& 15)]) (rest := []) (wc := [(qx, .inr (3, [.ref qR, .ref qC, .ref qI, .ref qM, .ref qT, .ref qO, .int rT, .int rL, .int rC, .int rIn, .int cyc, .int wai])), (qR, .inl (cI, 32, .inl fR)), (qC, .inl (cI, 256, .inl fC)), (qI, .inl (cI, 1024, .inl fI)), (qM, .inr (0, [.ref qW, .int mar, .int rst])), (qW, .inl (cI, 1024, .inl fW)), (qT, .inr (2, [.ref qp, .ref qc, .ref qd, .ref qk, .int hand, .int hov, .int said])), (qp, .inl (cI, 16, .inl fp)), (qc, .inl (cI, 16, .inl fc)), (qd, .inl (cI, 16, .inl fd)), (qk, .inl (cZ, 16, .inl fk)), (qO, .inr (1, [.ref qo, .int kept, .int gone])), (qo, .inl (cI, 500, .inl fo))]) (wr := []) ⟨hx, hb, hml, hown, hts⟩ (c_X3_shiftedL l D cI cZ qx qR qC qI qM qW qT qp qc qd qk qO qo fR fC fI fW fp fc fd fk fo rT rL rC rIn cyc wai mar rst hand hov said kept gone ((p0 >>> (16 &&& 31)) &&& 15)) (cwV 1 hts (gd_V wm_X3_140 wi_X3_shiftedL ws_X3_shiftedL wz_X3 wo_X3_shiftedL) rfl rfl rfl (by decide +kernel) ⟨Nat.le_of_ble_eq_true rfl, Nat.le_of_ble_eq_true rfl⟩) hK hP hD hS hA 0 rfl rfl rfl [0, 1, 2, 3, 4, 5, 6, 7, 8, 9, 10, 11, 12] [] rfl rfl (by decide) (by decide) (by decide) rfl rfl hl.1 (Nat.le_of_ble_eq_true rfl) dX3_perform_12 ⟨Nat.le_of_ble_eq_true rfl, Nat.le_of_ble_eq_true rfl⟩ (fun H locs hP hD hS => ?_)
  have hP : va_P D classes [(qx, .inr (3, [.ref qR, .ref qC, .ref qI, .ref qM, .ref qT, .ref qO, .int rT, .int rL, .int rC, .int rIn, .int cyc, .int wai])), (qR, .inl (cI, 32, .inl fR)), (qC, .inl (cI, 256, .inl fC)), (qI, .inl (cI, 1024, .inl fI)), (qM, .inr (0, [.ref qW, .int mar, .int rst])), (qW, .inl (cI, 1024, .inl fW)), (qT, .inr (2, [.ref qp, .ref qc, .ref qd, .ref qk, .int hand, .int hov, .int said])), (qp, .inl (cI, 16, .inl fp)), (qc, .inl (cI, 16, .inl fc)), (qd, .inl (cI, 16, .inl fd)), (qk, .inl (cZ, 16, .inl fk)), (qO, .inr (1, [.ref qo, .int kept, .int gone])), (qo, .inl (cI, 500, .inl fo))] H := hP
  have hD : va_D A [(qx, .inr (3, [.ref qR, .ref qC, .ref qI, .ref qM, .ref qT, .ref qO, .int rT, .int rL, .int rC, .int rIn, .int cyc, .int wai])), (qR, .inl (cI, 32, .inl fR)), (qC, .inl (cI, 256, .inl fC)), (qI, .inl (cI, 1024, .inl fI)), (qM, .inr (0, [.ref qW, .int mar, .int rst])), (qW, .inl (cI, 1024, .inl fW)), (qT, .inr (2, [.ref qp, .ref qc, .ref qd, .ref qk, .int hand, .int hov, .int said])), (qp, .inl (cI, 16, .inl fp)), (qc, .inl (cI, 16, .inl fc)), (qd, .inl (cI, 16, .inl fd)), (qk, .inl (cZ, 16, .inl fk)), (qO, .inr (1, [.ref qo, .int kept, .int gone])), (qo, .inl (cI, 500, .inl fo))] := hD
  refine W.eq (g2 := F0 m 15 ls [.int (k_X3_perform_sh rL p0)]) rfl ?_
  refine lv_istore (lv' := [(4, .int (k_X3_perform_sh rL p0)), (3, .int ((p0 >>> (16 &&& 31)) &&& 15)), (2, .int ((p0 >>> (23 &&& 31)) &&& 15)), (0, .ref qx), (1, .int p0)]) hx hb dX3_perform_15 hl (by decide) rfl (fun ls hl => ?_)
  refine lv_aload_n hx hb dX3_perform_17 rfl (lv_at hl 3 rfl) ?_
  refine lv_iload_n hx hb dX3_perform_18 rfl (lv_at hl 4 rfl) ?_
  refine ctI_V (As := [.int p0]) (rest := []) (wc := [(qx, .inr (3, [.ref qR, .ref qC, .ref qI, .ref qM, .ref qT, .ref qO, .int rT, .int rL, .int rC, .int rIn, .int cyc, .int wai])), (qR, .inl (cI, 32, .inl fR)), (qC, .inl (cI, 256, .inl fC)), (qI, .inl (cI, 1024, .inl fI)), (qM, .inr (0, [.ref qW, .int mar, .int rst])), (qW, .inl (cI, 1024, .inl fW)), (qT, .inr (2, [.ref qp, .ref qc, .ref qd, .ref qk, .int hand, .int hov, .int said])), (qp, .inl (cI, 16, .inl fp)), (qc, .inl (cI, 16, .inl fc)), (qd, .inl (cI, 16, .inl fd)), (qk, .inl (cZ, 16, .inl fk)), (qO, .inr (1, [.ref qo, .int kept, .int gone])), (qo, .inl (cI, 500, .inl fo))]) (wr := []) ⟨hx, hb, hml, hown, hts⟩ (c_X3_busOf l D cI cZ qx qR qC qI qM qW qT qp qc qd qk qO qo fR fC fI fW fp fc fd fk fo rT rL rC rIn cyc wai mar rst hand hov said kept gone p0) (cwV 1 hts (gd_V wm_X3_143 wi_X3_busOf ws_X3_busOf wz_X3 wo_X3_busOf) rfl rfl rfl (by decide +kernel) ⟨Nat.le_of_ble_eq_true rfl, Nat.le_of_ble_eq_true rfl⟩) hK hP hD hS hA 0 rfl rfl rfl [0, 1, 2, 3, 4, 5, 6, 7, 8, 9, 10, 11, 12] [] rfl rfl (by decide) (by decide) (by decide) rfl rfl hl.1 (Nat.le_of_ble_eq_true rfl) dX3_perform_19 ⟨Nat.le_of_ble_eq_true rfl, Nat.le_of_ble_eq_true rfl⟩ (fun H locs hP hD hS => ?_)
  have hP : va_P D classes [(qx, .inr (3, [.ref qR, .ref qC, .ref qI, .ref qM, .ref qT, .ref qO, .int rT, .int rL, .int rC, .int rIn, .int cyc, .int wai])), (qR, .inl (cI, 32, .inl fR)), (qC, .inl (cI, 256, .inl fC)), (qI, .inl (cI, 1024, .inl fI)), (qM, .inr (0, [.ref qW, .int mar, .int rst])), (qW, .inl (cI, 1024, .inl fW)), (qT, .inr (2, [.ref qp, .ref qc, .ref qd, .ref qk, .int hand, .int hov, .int said])), (qp, .inl (cI, 16, .inl fp)), (qc, .inl (cI, 16, .inl fc)), (qd, .inl (cI, 16, .inl fd)), (qk, .inl (cZ, 16, .inl fk)), (qO, .inr (1, [.ref qo, .int kept, .int gone])), (qo, .inl (cI, 500, .inl fo))] H := hP
  have hD : va_D A [(qx, .inr (3, [.ref qR, .ref qC, .ref qI, .ref qM, .ref qT, .ref qO, .int rT, .int rL, .int rC, .int rIn, .int cyc, .int wai])), (qR, .inl (cI, 32, .inl fR)), (qC, .inl (cI, 256, .inl fC)), (qI, .inl (cI, 1024, .inl fI)), (qM, .inr (0, [.ref qW, .int mar, .int rst])), (qW, .inl (cI, 1024, .inl fW)), (qT, .inr (2, [.ref qp, .ref qc, .ref qd, .ref qk, .int hand, .int hov, .int said])), (qp, .inl (cI, 16, .inl fp)), (qc, .inl (cI, 16, .inl fc)), (qd, .inl (cI, 16, .inl fd)), (qk, .inl (cZ, 16, .inl fk)), (qO, .inr (1, [.ref qo, .int kept, .int gone])), (qo, .inl (cI, 500, .inl fo))] := hD
  refine W.eq (g2 := F0 m 22 ls [.int (k_X3_perform_bus fR fC fW rL rIn mar hand p0)]) rfl ?_
  refine lv_istore (lv' := [(5, .int (k_X3_perform_bus fR fC fW rL rIn mar hand p0)), (4, .int (k_X3_perform_sh rL p0)), (3, .int ((p0 >>> (16 &&& 31)) &&& 15)), (2, .int ((p0 >>> (23 &&& 31)) &&& 15)), (0, .ref qx), (1, .int p0)]) hx hb dX3_perform_22 hl (by decide) rfl (fun ls hl => ?_)
  refine lv_aload_n hx hb dX3_perform_24 rfl (lv_at hl 4 rfl) ?_
  refine lv_iload_n hx hb dX3_perform_25 rfl (lv_at hl 3 rfl) ?_
  refine lv_iload hx hb dX3_perform_26 (lv_at hl 0 rfl) ?_
  refine ctI_V (As := [.int ((p0 >>> (23 &&& 31)) &&& 15), .int (k_X3_perform_bus fR fC fW rL rIn mar hand p0)]) (rest := []) (wc := [(qx, .inr (3, [.ref qR, .ref qC, .ref qI, .ref qM, .ref qT, .ref qO, .int rT, .int rL, .int rC, .int rIn, .int cyc, .int wai])), (qR, .inl (cI, 32, .inl fR)), (qC, .inl (cI, 256, .inl fC)), (qI, .inl (cI, 1024, .inl fI)), (qM, .inr (0, [.ref qW, .int mar, .int rst])), (qW, .inl (cI, 1024, .inl fW)), (qT, .inr (2, [.ref qp, .ref qc, .ref qd, .ref qk, .int hand, .int hov, .int said])), (qp, .inl (cI, 16, .inl fp)), (qc, .inl (cI, 16, .inl fc)), (qd, .inl (cI, 16, .inl fd)), (qk, .inl (cZ, 16, .inl fk)), (qO, .inr (1, [.ref qo, .int kept, .int gone])), (qo, .inl (cI, 500, .inl fo))]) (wr := []) ⟨hx, hb, hml, hown, hts⟩ (c_X3_sumOf l D cI cZ qx qR qC qI qM qW qT qp qc qd qk qO qo fR fC fI fW fp fc fd fk fo rT rL rC rIn cyc wai mar rst hand hov said kept gone ((p0 >>> (23 &&& 31)) &&& 15) (k_X3_perform_bus fR fC fW rL rIn mar hand p0)) (cwV 2 hts (gd_V wm_X3_146 wi_X3_sumOf ws_X3_sumOf wz_X3 wo_X3_sumOf) rfl rfl rfl (by decide +kernel) ⟨Nat.le_of_ble_eq_true rfl, Nat.le_of_ble_eq_true rfl⟩) hK hP hD hS hA 0 rfl rfl rfl [0, 1, 2, 3, 4, 5, 6, 7, 8, 9, 10, 11, 12] [] rfl rfl (by decide) (by decide) (by decide) rfl rfl hl.1 (Nat.le_of_ble_eq_true rfl) dX3_perform_28 ⟨Nat.le_of_ble_eq_true rfl, Nat.le_of_ble_eq_true rfl⟩ (fun H locs hP hD hS => ?_)
  have hP : va_P D classes [(qx, .inr (3, [.ref qR, .ref qC, .ref qI, .ref qM, .ref qT, .ref qO, .int rT, .int rL, .int rC, .int rIn, .int cyc, .int wai])), (qR, .inl (cI, 32, .inl fR)), (qC, .inl (cI, 256, .inl fC)), (qI, .inl (cI, 1024, .inl fI)), (qM, .inr (0, [.ref qW, .int mar, .int rst])), (qW, .inl (cI, 1024, .inl fW)), (qT, .inr (2, [.ref qp, .ref qc, .ref qd, .ref qk, .int hand, .int hov, .int said])), (qp, .inl (cI, 16, .inl fp)), (qc, .inl (cI, 16, .inl fc)), (qd, .inl (cI, 16, .inl fd)), (qk, .inl (cZ, 16, .inl fk)), (qO, .inr (1, [.ref qo, .int kept, .int gone])), (qo, .inl (cI, 500, .inl fo))] H := hP
  have hD : va_D A [(qx, .inr (3, [.ref qR, .ref qC, .ref qI, .ref qM, .ref qT, .ref qO, .int rT, .int rL, .int rC, .int rIn, .int cyc, .int wai])), (qR, .inl (cI, 32, .inl fR)), (qC, .inl (cI, 256, .inl fC)), (qI, .inl (cI, 1024, .inl fI)), (qM, .inr (0, [.ref qW, .int mar, .int rst])), (qW, .inl (cI, 1024, .inl fW)), (qT, .inr (2, [.ref qp, .ref qc, .ref qd, .ref qk, .int hand, .int hov, .int said])), (qp, .inl (cI, 16, .inl fp)), (qc, .inl (cI, 16, .inl fc)), (qd, .inl (cI, 16, .inl fd)), (qk, .inl (cZ, 16, .inl fk)), (qO, .inr (1, [.ref qo, .int kept, .int gone])), (qo, .inl (cI, 500, .inl fo))] := hD
  refine W.eq (g2 := F0 m 31 ls [.int (k_X3_perform_sum fR fC fW rT rL rC rIn mar hand p0)]) rfl ?_
  refine lv_istore (lv' := [(6, .int (k_X3_perform_sum fR fC fW rT rL rC rIn mar hand p0)), (5, .int (k_X3_perform_bus fR fC fW rL rIn mar hand p0)), (4, .int (k_X3_perform_sh rL p0)), (3, .int ((p0 >>> (16 &&& 31)) &&& 15)), (2, .int ((p0 >>> (23 &&& 31)) &&& 15)), (0, .ref qx), (1, .int p0)]) hx hb dX3_perform_31 hl (by decide) rfl (fun ls hl => ?_)
  refine lv_iload hx hb dX3_perform_33 (lv_at hl 0 rfl) ?_
  refine lv_ldc (v := 65535) hx hb hown (hts _ wk_X3_44) dX3_perform_35 ?_
  refine lv_iand hx hb dX3_perform_37 ?_
  refine lv_istore (lv' := [(7, .int ((k_X3_perform_sum fR fC fW rT rL rC rIn mar hand p0) &&& 65535)), (6, .int (k_X3_perform_sum fR fC fW rT rL rC rIn mar hand p0)), (5, .int (k_X3_perform_bus fR fC fW rL rIn mar hand p0)), (4, .int (k_X3_perform_sh rL p0)), (3, .int ((p0 >>> (16 &&& 31)) &&& 15)), (2, .int ((p0 >>> (23 &&& 31)) &&& 15)), (0, .ref qx), (1, .int p0)]) hx hb dX3_perform_38 hl (by decide) rfl (fun ls hl => ?_)
  refine lv_aload_n hx hb dX3_perform_40 rfl (lv_at hl 6 rfl) ?_
  refine lv_iload_n hx hb dX3_perform_41 rfl (lv_at hl 7 rfl) ?_
  refine ctI_S (As := [.int p0]) (rest := [.ref qx]) (wc := []) (wr := [(qx, .inr (3, [.ref qR, .ref qC, .ref qI, .ref qM, .ref qT, .ref qO, .int rT, .int rL, .int rC, .int rIn, .int cyc, .int wai])), (qR, .inl (cI, 32, .inl fR)), (qC, .inl (cI, 256, .inl fC)), (qI, .inl (cI, 1024, .inl fI)), (qM, .inr (0, [.ref qW, .int mar, .int rst])), (qW, .inl (cI, 1024, .inl fW)), (qT, .inr (2, [.ref qp, .ref qc, .ref qd, .ref qk, .int hand, .int hov, .int said])), (qp, .inl (cI, 16, .inl fp)), (qc, .inl (cI, 16, .inl fc)), (qd, .inl (cI, 16, .inl fd)), (qk, .inl (cZ, 16, .inl fk)), (qO, .inr (1, [.ref qo, .int kept, .int gone])), (qo, .inl (cI, 500, .inl fo))]) ⟨hx, hb, hml, hown, hts⟩ (c_X3_f2Of l D cI cZ p0) (cwS 1 hts (gd_S wm_X3_134 wt_X3_f2Of wz_X3 wo_X3_f2Of) rfl rfl rfl (by decide +kernel) ⟨Nat.le_of_ble_eq_true rfl, Nat.le_of_ble_eq_true rfl⟩) hK hP hD hS hA [] [0, 1, 2, 3, 4, 5, 6, 7, 8, 9, 10, 11, 12] rfl rfl (by decide) (by decide) (by decide) rfl rfl hl.1 (Nat.le_of_ble_eq_true rfl) dX3_perform_42 ⟨Nat.le_of_ble_eq_true rfl, Nat.le_of_ble_eq_true rfl⟩ (fun H locs hP hD hS => ?_)
  have hP : va_P D classes [(qx, .inr (3, [.ref qR, .ref qC, .ref qI, .ref qM, .ref qT, .ref qO, .int rT, .int rL, .int rC, .int rIn, .int cyc, .int wai])), (qR, .inl (cI, 32, .inl fR)), (qC, .inl (cI, 256, .inl fC)), (qI, .inl (cI, 1024, .inl fI)), (qM, .inr (0, [.ref qW, .int mar, .int rst])), (qW, .inl (cI, 1024, .inl fW)), (qT, .inr (2, [.ref qp, .ref qc, .ref qd, .ref qk, .int hand, .int hov, .int said])), (qp, .inl (cI, 16, .inl fp)), (qc, .inl (cI, 16, .inl fc)), (qd, .inl (cI, 16, .inl fd)), (qk, .inl (cZ, 16, .inl fk)), (qO, .inr (1, [.ref qo, .int kept, .int gone])), (qo, .inl (cI, 500, .inl fo))] H := hP
  have hD : va_D A [(qx, .inr (3, [.ref qR, .ref qC, .ref qI, .ref qM, .ref qT, .ref qO, .int rT, .int rL, .int rC, .int rIn, .int cyc, .int wai])), (qR, .inl (cI, 32, .inl fR)), (qC, .inl (cI, 256, .inl fC)), (qI, .inl (cI, 1024, .inl fI)), (qM, .inr (0, [.ref qW, .int mar, .int rst])), (qW, .inl (cI, 1024, .inl fW)), (qT, .inr (2, [.ref qp, .ref qc, .ref qd, .ref qk, .int hand, .int hov, .int said])), (qp, .inl (cI, 16, .inl fp)), (qc, .inl (cI, 16, .inl fc)), (qd, .inl (cI, 16, .inl fd)), (qk, .inl (cZ, 16, .inl fk)), (qO, .inr (1, [.ref qo, .int kept, .int gone])), (qo, .inl (cI, 500, .inl fo))] := hD
  refine lv_iload hx hb dX3_perform_45 (lv_at hl 2 rfl) ?_
  refine lv_iload hx hb dX3_perform_47 (lv_at hl 3 rfl) ?_
  refine ctI_V (As := [.int ((p0 >>> (12 &&& 31)) &&& 15), .int (k_X3_perform_bus fR fC fW rL rIn mar hand p0), .int (k_X3_perform_sh rL p0)]) (rest := []) (wc := [(qx, .inr (3, [.ref qR, .ref qC, .ref qI, .ref qM, .ref qT, .ref qO, .int rT, .int rL, .int rC, .int rIn, .int cyc, .int wai])), (qR, .inl (cI, 32, .inl fR)), (qC, .inl (cI, 256, .inl fC)), (qI, .inl (cI, 1024, .inl fI)), (qM, .inr (0, [.ref qW, .int mar, .int rst])), (qW, .inl (cI, 1024, .inl fW)), (qT, .inr (2, [.ref qp, .ref qc, .ref qd, .ref qk, .int hand, .int hov, .int said])), (qp, .inl (cI, 16, .inl fp)), (qc, .inl (cI, 16, .inl fc)), (qd, .inl (cI, 16, .inl fd)), (qk, .inl (cZ, 16, .inl fk)), (qO, .inr (1, [.ref qo, .int kept, .int gone])), (qo, .inl (cI, 500, .inl fo))]) (wr := []) ⟨hx, hb, hml, hown, hts⟩ (c_X3_changeOf l D cI cZ qx qR qC qI qM qW qT qp qc qd qk qO qo fR fC fI fW fp fc fd fk fo rT rL rC rIn cyc wai mar rst hand hov said kept gone ((p0 >>> (12 &&& 31)) &&& 15) (k_X3_perform_bus fR fC fW rL rIn mar hand p0) (k_X3_perform_sh rL p0)) (cwV 3 hts (gd_V wm_X3_150 wi_X3_changeOf ws_X3_changeOf wz_X3 wo_X3_changeOf) rfl rfl rfl (by decide +kernel) ⟨Nat.le_of_ble_eq_true rfl, Nat.le_of_ble_eq_true rfl⟩) hK hP hD hS hA 0 rfl rfl rfl [0, 1, 2, 3, 4, 5, 6, 7, 8, 9, 10, 11, 12] [] rfl rfl (by decide) (by decide) (by decide) rfl rfl hl.1 (Nat.le_of_ble_eq_true rfl) dX3_perform_49 ⟨Nat.le_of_ble_eq_true rfl, Nat.le_of_ble_eq_true rfl⟩ (fun H locs hP hD hS => ?_)
  have hP : va_P D classes [(qx, .inr (3, [.ref qR, .ref qC, .ref qI, .ref qM, .ref qT, .ref qO, .int rT, .int rL, .int rC, .int rIn, .int cyc, .int wai])), (qR, .inl (cI, 32, .inl fR)), (qC, .inl (cI, 256, .inl fC)), (qI, .inl (cI, 1024, .inl fI)), (qM, .inr (0, [.ref qW, .int mar, .int rst])), (qW, .inl (cI, 1024, .inl fW)), (qT, .inr (2, [.ref qp, .ref qc, .ref qd, .ref qk, .int hand, .int hov, .int said])), (qp, .inl (cI, 16, .inl fp)), (qc, .inl (cI, 16, .inl fc)), (qd, .inl (cI, 16, .inl fd)), (qk, .inl (cZ, 16, .inl fk)), (qO, .inr (1, [.ref qo, .int kept, .int gone])), (qo, .inl (cI, 500, .inl fo))] H := hP
  have hD : va_D A [(qx, .inr (3, [.ref qR, .ref qC, .ref qI, .ref qM, .ref qT, .ref qO, .int rT, .int rL, .int rC, .int rIn, .int cyc, .int wai])), (qR, .inl (cI, 32, .inl fR)), (qC, .inl (cI, 256, .inl fC)), (qI, .inl (cI, 1024, .inl fI)), (qM, .inr (0, [.ref qW, .int mar, .int rst])), (qW, .inl (cI, 1024, .inl fW)), (qT, .inr (2, [.ref qp, .ref qc, .ref qd, .ref qk, .int hand, .int hov, .int said])), (qp, .inl (cI, 16, .inl fp)), (qc, .inl (cI, 16, .inl fc)), (qd, .inl (cI, 16, .inl fd)), (qk, .inl (cZ, 16, .inl fk)), (qO, .inr (1, [.ref qo, .int kept, .int gone])), (qo, .inl (cI, 500, .inl fo))] := hD
  refine W.eq (g2 := F0 m 52 ls [.int (k_X3_perform_chg fR fC fW rL rC rIn mar hand p0)]) rfl ?_
  refine lv_istore (lv' := [(8, .int (k_X3_perform_chg fR fC fW rL rC rIn mar hand p0)), (7, .int ((k_X3_perform_sum fR fC fW rT rL rC rIn mar hand p0) &&& 65535)), (6, .int (k_X3_perform_sum fR fC fW rT rL rC rIn mar hand p0)), (5, .int (k_X3_perform_bus fR fC fW rL rIn mar hand p0)), (4, .int (k_X3_perform_sh rL p0)), (3, .int ((p0 >>> (16 &&& 31)) &&& 15)), (2, .int ((p0 >>> (23 &&& 31)) &&& 15)), (0, .ref qx), (1, .int p0)]) hx hb dX3_perform_52 hl (by decide) rfl (fun ls hl => ?_)
  refine lv_iload_n hx hb dX3_perform_54 rfl (lv_at hl 8 rfl) ?_
  refine ctI_S (As := [.int p0]) (rest := []) (wc := []) (wr := [(qx, .inr (3, [.ref qR, .ref qC, .ref qI, .ref qM, .ref qT, .ref qO, .int rT, .int rL, .int rC, .int rIn, .int cyc, .int wai])), (qR, .inl (cI, 32, .inl fR)), (qC, .inl (cI, 256, .inl fC)), (qI, .inl (cI, 1024, .inl fI)), (qM, .inr (0, [.ref qW, .int mar, .int rst])), (qW, .inl (cI, 1024, .inl fW)), (qT, .inr (2, [.ref qp, .ref qc, .ref qd, .ref qk, .int hand, .int hov, .int said])), (qp, .inl (cI, 16, .inl fp)), (qc, .inl (cI, 16, .inl fc)), (qd, .inl (cI, 16, .inl fd)), (qk, .inl (cZ, 16, .inl fk)), (qO, .inr (1, [.ref qo, .int kept, .int gone])), (qo, .inl (cI, 500, .inl fo))]) ⟨hx, hb, hml, hown, hts⟩ (c_X3_bsOf l D cI cZ p0) (cwS 1 hts (gd_S wm_X3_124 wt_X3_bsOf wz_X3 wo_X3_bsOf) rfl rfl rfl (by decide +kernel) ⟨Nat.le_of_ble_eq_true rfl, Nat.le_of_ble_eq_true rfl⟩) hK hP hD hS hA [] [0, 1, 2, 3, 4, 5, 6, 7, 8, 9, 10, 11, 12] rfl rfl (by decide) (by decide) (by decide) rfl rfl hl.1 (Nat.le_of_ble_eq_true rfl) dX3_perform_55 ⟨Nat.le_of_ble_eq_true rfl, Nat.le_of_ble_eq_true rfl⟩ (fun H locs hP hD hS => ?_)
  have hP : va_P D classes [(qx, .inr (3, [.ref qR, .ref qC, .ref qI, .ref qM, .ref qT, .ref qO, .int rT, .int rL, .int rC, .int rIn, .int cyc, .int wai])), (qR, .inl (cI, 32, .inl fR)), (qC, .inl (cI, 256, .inl fC)), (qI, .inl (cI, 1024, .inl fI)), (qM, .inr (0, [.ref qW, .int mar, .int rst])), (qW, .inl (cI, 1024, .inl fW)), (qT, .inr (2, [.ref qp, .ref qc, .ref qd, .ref qk, .int hand, .int hov, .int said])), (qp, .inl (cI, 16, .inl fp)), (qc, .inl (cI, 16, .inl fc)), (qd, .inl (cI, 16, .inl fd)), (qk, .inl (cZ, 16, .inl fk)), (qO, .inr (1, [.ref qo, .int kept, .int gone])), (qo, .inl (cI, 500, .inl fo))] H := hP
  have hD : va_D A [(qx, .inr (3, [.ref qR, .ref qC, .ref qI, .ref qM, .ref qT, .ref qO, .int rT, .int rL, .int rC, .int rIn, .int cyc, .int wai])), (qR, .inl (cI, 32, .inl fR)), (qC, .inl (cI, 256, .inl fC)), (qI, .inl (cI, 1024, .inl fI)), (qM, .inr (0, [.ref qW, .int mar, .int rst])), (qW, .inl (cI, 1024, .inl fW)), (qT, .inr (2, [.ref qp, .ref qc, .ref qd, .ref qk, .int hand, .int hov, .int said])), (qp, .inl (cI, 16, .inl fp)), (qc, .inl (cI, 16, .inl fc)), (qd, .inl (cI, 16, .inl fd)), (qk, .inl (cZ, 16, .inl fk)), (qO, .inr (1, [.ref qo, .int kept, .int gone])), (qo, .inl (cI, 500, .inl fo))] := hD
  refine lv_iconst (v := 1) hx hb dX3_perform_58 (by decide) ?_
  refine ct_merge (fun H locs ls => va_P D classes [(qx, .inr (3, [.ref qR, .ref qC, .ref qI, .ref qM, .ref qT, .ref qO, .int rT, .int rL, .int rC, .int rIn, .int cyc, .int wai])), (qR, .inl (cI, 32, .inl (j_X3_perform_80_qR fR rL p0))), (qC, .inl (cI, 256, .inl fC)), (qI, .inl (cI, 1024, .inl fI)), (qM, .inr (0, [.ref qW, .int mar, .int rst])), (qW, .inl (cI, 1024, .inl fW)), (qT, .inr (2, [.ref qp, .ref qc, .ref qd, .ref qk, .int hand, .int hov, .int said])), (qp, .inl (cI, 16, .inl fp)), (qc, .inl (cI, 16, .inl fc)), (qd, .inl (cI, 16, .inl fd)), (qk, .inl (cZ, 16, .inl fk)), (qO, .inr (1, [.ref qo, .int kept, .int gone])), (qo, .inl (cI, 500, .inl fo))] H ∧ va_D A [(qx, .inr (3, [.ref qR, .ref qC, .ref qI, .ref qM, .ref qT, .ref qO, .int rT, .int rL, .int rC, .int rIn, .int cyc, .int wai])), (qR, .inl (cI, 32, .inl (j_X3_perform_80_qR fR rL p0))), (qC, .inl (cI, 256, .inl fC)), (qI, .inl (cI, 1024, .inl fI)), (qM, .inr (0, [.ref qW, .int mar, .int rst])), (qW, .inl (cI, 1024, .inl fW)), (qT, .inr (2, [.ref qp, .ref qc, .ref qd, .ref qk, .int hand, .int hov, .int said])), (qp, .inl (cI, 16, .inl fp)), (qc, .inl (cI, 16, .inl fc)), (qd, .inl (cI, 16, .inl fd)), (qk, .inl (cZ, 16, .inl fk)), (qO, .inr (1, [.ref qo, .int kept, .int gone])), (qo, .inl (cI, 500, .inl fo))] ∧ va_S A s.heap H locs ∧ lv_has ls 9 [(8, .int (k_X3_perform_chg fR fC fW rL rC rIn mar hand p0)), (7, .int ((k_X3_perform_sum fR fC fW rT rL rC rIn mar hand p0) &&& 65535)), (6, .int (k_X3_perform_sum fR fC fW rT rL rC rIn mar hand p0)), (5, .int (k_X3_perform_bus fR fC fW rL rIn mar hand p0)), (4, .int (k_X3_perform_sh rL p0)), (3, .int ((p0 >>> (16 &&& 31)) &&& 15)), (2, .int ((p0 >>> (23 &&& 31)) &&& 15)), (0, .ref qx), (1, .int p0)]) 80 [] ?_ (fun J => ?_)
  · skip
    intro H locs ls hh
    obtain ⟨hP, hD, hS, hl⟩ := hh
    refine lv_iload_n hx hb dX3_perform_80 rfl (lv_at hl 8 rfl) ?_
    refine ctI_S (As := [.int p0]) (rest := []) (wc := []) (wr := [(qx, .inr (3, [.ref qR, .ref qC, .ref qI, .ref qM, .ref qT, .ref qO, .int rT, .int rL, .int rC, .int rIn, .int cyc, .int wai])), (qR, .inl (cI, 32, .inl (j_X3_perform_80_qR fR rL p0))), (qC, .inl (cI, 256, .inl fC)), (qI, .inl (cI, 1024, .inl fI)), (qM, .inr (0, [.ref qW, .int mar, .int rst])), (qW, .inl (cI, 1024, .inl fW)), (qT, .inr (2, [.ref qp, .ref qc, .ref qd, .ref qk, .int hand, .int hov, .int said])), (qp, .inl (cI, 16, .inl fp)), (qc, .inl (cI, 16, .inl fc)), (qd, .inl (cI, 16, .inl fd)), (qk, .inl (cZ, 16, .inl fk)), (qO, .inr (1, [.ref qo, .int kept, .int gone])), (qo, .inl (cI, 500, .inl fo))]) ⟨hx, hb, hml, hown, hts⟩ (c_X3_loadsT l D cI cZ p0) (cwS 1 hts (gd_S wm_X3_157 wt_X3_loadsT wz_X3 wo_X3_loadsT) rfl rfl rfl (by decide +kernel) ⟨Nat.le_of_ble_eq_true rfl, Nat.le_of_ble_eq_true rfl⟩) hK hP hD hS hA [] [0, 1, 2, 3, 4, 5, 6, 7, 8, 9, 10, 11, 12] rfl rfl (by decide) (by decide) (by decide) rfl rfl hl.1 (Nat.le_of_ble_eq_true rfl) dX3_perform_81 ⟨Nat.le_of_ble_eq_true rfl, Nat.le_of_ble_eq_true rfl⟩ (fun H locs hP hD hS => ?_)
    have hP : va_P D classes [(qx, .inr (3, [.ref qR, .ref qC, .ref qI, .ref qM, .ref qT, .ref qO, .int rT, .int rL, .int rC, .int rIn, .int cyc, .int wai])), (qR, .inl (cI, 32, .inl (j_X3_perform_80_qR fR rL p0))), (qC, .inl (cI, 256, .inl fC)), (qI, .inl (cI, 1024, .inl fI)), (qM, .inr (0, [.ref qW, .int mar, .int rst])), (qW, .inl (cI, 1024, .inl fW)), (qT, .inr (2, [.ref qp, .ref qc, .ref qd, .ref qk, .int hand, .int hov, .int said])), (qp, .inl (cI, 16, .inl fp)), (qc, .inl (cI, 16, .inl fc)), (qd, .inl (cI, 16, .inl fd)), (qk, .inl (cZ, 16, .inl fk)), (qO, .inr (1, [.ref qo, .int kept, .int gone])), (qo, .inl (cI, 500, .inl fo))] H := hP
    have hD : va_D A [(qx, .inr (3, [.ref qR, .ref qC, .ref qI, .ref qM, .ref qT, .ref qO, .int rT, .int rL, .int rC, .int rIn, .int cyc, .int wai])), (qR, .inl (cI, 32, .inl (j_X3_perform_80_qR fR rL p0))), (qC, .inl (cI, 256, .inl fC)), (qI, .inl (cI, 1024, .inl fI)), (qM, .inr (0, [.ref qW, .int mar, .int rst])), (qW, .inl (cI, 1024, .inl fW)), (qT, .inr (2, [.ref qp, .ref qc, .ref qd, .ref qk, .int hand, .int hov, .int said])), (qp, .inl (cI, 16, .inl fp)), (qc, .inl (cI, 16, .inl fc)), (qd, .inl (cI, 16, .inl fd)), (qk, .inl (cZ, 16, .inl fk)), (qO, .inr (1, [.ref qo, .int kept, .int gone])), (qo, .inl (cI, 500, .inl fo))] := hD
    refine ct_merge (fun H locs ls => va_P D classes [(qx, .inr (3, [.ref qR, .ref qC, .ref qI, .ref qM, .ref qT, .ref qO, .int (j_X3_perform_105_qx6 fR fC fW rT rL rC rIn mar hand p0), .int rL, .int rC, .int rIn, .int cyc, .int wai])), (qR, .inl (cI, 32, .inl (j_X3_perform_80_qR fR rL p0))), (qC, .inl (cI, 256, .inl fC)), (qI, .inl (cI, 1024, .inl fI)), (qM, .inr (0, [.ref qW, .int mar, .int rst])), (qW, .inl (cI, 1024, .inl fW)), (qT, .inr (2, [.ref qp, .ref qc, .ref qd, .ref qk, .int hand, .int hov, .int said])), (qp, .inl (cI, 16, .inl fp)), (qc, .inl (cI, 16, .inl fc)), (qd, .inl (cI, 16, .inl fd)), (qk, .inl (cZ, 16, .inl fk)), (qO, .inr (1, [.ref qo, .int kept, .int gone])), (qo, .inl (cI, 500, .inl fo))] H ∧ va_D A [(qx, .inr (3, [.ref qR, .ref qC, .ref qI, .ref qM, .ref qT, .ref qO, .int (j_X3_perform_105_qx6 fR fC fW rT rL rC rIn mar hand p0), .int rL, .int rC, .int rIn, .int cyc, .int wai])), (qR, .inl (cI, 32, .inl (j_X3_perform_80_qR fR rL p0))), (qC, .inl (cI, 256, .inl fC)), (qI, .inl (cI, 1024, .inl fI)), (qM, .inr (0, [.ref qW, .int mar, .int rst])), (qW, .inl (cI, 1024, .inl fW)), (qT, .inr (2, [.ref qp, .ref qc, .ref qd, .ref qk, .int hand, .int hov, .int said])), (qp, .inl (cI, 16, .inl fp)), (qc, .inl (cI, 16, .inl fc)), (qd, .inl (cI, 16, .inl fd)), (qk, .inl (cZ, 16, .inl fk)), (qO, .inr (1, [.ref qo, .int kept, .int gone])), (qo, .inl (cI, 500, .inl fo))] ∧ va_S A s.heap H locs ∧ lv_has ls 9 [(8, .int (k_X3_perform_chg fR fC fW rL rC rIn mar hand p0)), (7, .int ((k_X3_perform_sum fR fC fW rT rL rC rIn mar hand p0) &&& 65535)), (6, .int (k_X3_perform_sum fR fC fW rT rL rC rIn mar hand p0)), (5, .int (k_X3_perform_bus fR fC fW rL rIn mar hand p0)), (4, .int (k_X3_perform_sh rL p0)), (3, .int ((p0 >>> (16 &&& 31)) &&& 15)), (2, .int ((p0 >>> (23 &&& 31)) &&& 15)), (0, .ref qx), (1, .int p0)]) 105 [] ?_ (fun J => ?_)
    · skip
      intro H locs ls hh
      obtain ⟨hP, hD, hS, hl⟩ := hh
      refine lv_iload_n hx hb dX3_perform_105 rfl (lv_at hl 8 rfl) ?_
      refine ctI_S (As := [.int p0]) (rest := []) (wc := []) (wr := [(qx, .inr (3, [.ref qR, .ref qC, .ref qI, .ref qM, .ref qT, .ref qO, .int (j_X3_perform_105_qx6 fR fC fW rT rL rC rIn mar hand p0), .int rL, .int rC, .int rIn, .int cyc, .int wai])), (qR, .inl (cI, 32, .inl (j_X3_perform_80_qR fR rL p0))), (qC, .inl (cI, 256, .inl fC)), (qI, .inl (cI, 1024, .inl fI)), (qM, .inr (0, [.ref qW, .int mar, .int rst])), (qW, .inl (cI, 1024, .inl fW)), (qT, .inr (2, [.ref qp, .ref qc, .ref qd, .ref qk, .int hand, .int hov, .int said])), (qp, .inl (cI, 16, .inl fp)), (qc, .inl (cI, 16, .inl fc)), (qd, .inl (cI, 16, .inl fd)), (qk, .inl (cZ, 16, .inl fk)), (qO, .inr (1, [.ref qo, .int kept, .int gone])), (qo, .inl (cI, 500, .inl fo))]) ⟨hx, hb, hml, hown, hts⟩ (c_X3_loadsL l D cI cZ p0) (cwS 1 hts (gd_S wm_X3_163 wt_X3_loadsL wz_X3 wo_X3_loadsL) rfl rfl rfl (by decide +kernel) ⟨Nat.le_of_ble_eq_true rfl, Nat.le_of_ble_eq_true rfl⟩) hK hP hD hS hA [] [0, 1, 2, 3, 4, 5, 6, 7, 8, 9, 10, 11, 12] rfl rfl (by decide) (by decide) (by decide) rfl rfl hl.1 (Nat.le_of_ble_eq_true rfl) dX3_perform_106 ⟨Nat.le_of_ble_eq_true rfl, Nat.le_of_ble_eq_true rfl⟩ (fun H locs hP hD hS => ?_)
      have hP : va_P D classes [(qx, .inr (3, [.ref qR, .ref qC, .ref qI, .ref qM, .ref qT, .ref qO, .int (j_X3_perform_105_qx6 fR fC fW rT rL rC rIn mar hand p0), .int rL, .int rC, .int rIn, .int cyc, .int wai])), (qR, .inl (cI, 32, .inl (j_X3_perform_80_qR fR rL p0))), (qC, .inl (cI, 256, .inl fC)), (qI, .inl (cI, 1024, .inl fI)), (qM, .inr (0, [.ref qW, .int mar, .int rst])), (qW, .inl (cI, 1024, .inl fW)), (qT, .inr (2, [.ref qp, .ref qc, .ref qd, .ref qk, .int hand, .int hov, .int said])), (qp, .inl (cI, 16, .inl fp)), (qc, .inl (cI, 16, .inl fc)), (qd, .inl (cI, 16, .inl fd)), (qk, .inl (cZ, 16, .inl fk)), (qO, .inr (1, [.ref qo, .int kept, .int gone])), (qo, .inl (cI, 500, .inl fo))] H := hP
      have hD : va_D A [(qx, .inr (3, [.ref qR, .ref qC, .ref qI, .ref qM, .ref qT, .ref qO, .int (j_X3_perform_105_qx6 fR fC fW rT rL rC rIn mar hand p0), .int rL, .int rC, .int rIn, .int cyc, .int wai])), (qR, .inl (cI, 32, .inl (j_X3_perform_80_qR fR rL p0))), (qC, .inl (cI, 256, .inl fC)), (qI, .inl (cI, 1024, .inl fI)), (qM, .inr (0, [.ref qW, .int mar, .int rst])), (qW, .inl (cI, 1024, .inl fW)), (qT, .inr (2, [.ref qp, .ref qc, .ref qd, .ref qk, .int hand, .int hov, .int said])), (qp, .inl (cI, 16, .inl fp)), (qc, .inl (cI, 16, .inl fc)), (qd, .inl (cI, 16, .inl fd)), (qk, .inl (cZ, 16, .inl fk)), (qO, .inr (1, [.ref qo, .int kept, .int gone])), (qo, .inl (cI, 500, .inl fo))] := hD
      refine ct_merge (fun H locs ls => va_P D classes [(qx, .inr (3, [.ref qR, .ref qC, .ref qI, .ref qM, .ref qT, .ref qO, .int (j_X3_perform_105_qx6 fR fC fW rT rL rC rIn mar hand p0), .int (j_X3_perform_127_qx7 fR fC fW rT rL rC rIn mar hand p0), .int (j_X3_perform_127_qx8 fR fC fW rT rL rC rIn mar hand p0), .int rIn, .int cyc, .int wai])), (qR, .inl (cI, 32, .inl (j_X3_perform_80_qR fR rL p0))), (qC, .inl (cI, 256, .inl fC)), (qI, .inl (cI, 1024, .inl fI)), (qM, .inr (0, [.ref qW, .int mar, .int rst])), (qW, .inl (cI, 1024, .inl fW)), (qT, .inr (2, [.ref qp, .ref qc, .ref qd, .ref qk, .int hand, .int hov, .int said])), (qp, .inl (cI, 16, .inl fp)), (qc, .inl (cI, 16, .inl fc)), (qd, .inl (cI, 16, .inl fd)), (qk, .inl (cZ, 16, .inl fk)), (qO, .inr (1, [.ref qo, .int kept, .int gone])), (qo, .inl (cI, 500, .inl fo))] H ∧ va_D A [(qx, .inr (3, [.ref qR, .ref qC, .ref qI, .ref qM, .ref qT, .ref qO, .int (j_X3_perform_105_qx6 fR fC fW rT rL rC rIn mar hand p0), .int (j_X3_perform_127_qx7 fR fC fW rT rL rC rIn mar hand p0), .int (j_X3_perform_127_qx8 fR fC fW rT rL rC rIn mar hand p0), .int rIn, .int cyc, .int wai])), (qR, .inl (cI, 32, .inl (j_X3_perform_80_qR fR rL p0))), (qC, .inl (cI, 256, .inl fC)), (qI, .inl (cI, 1024, .inl fI)), (qM, .inr (0, [.ref qW, .int mar, .int rst])), (qW, .inl (cI, 1024, .inl fW)), (qT, .inr (2, [.ref qp, .ref qc, .ref qd, .ref qk, .int hand, .int hov, .int said])), (qp, .inl (cI, 16, .inl fp)), (qc, .inl (cI, 16, .inl fc)), (qd, .inl (cI, 16, .inl fd)), (qk, .inl (cZ, 16, .inl fk)), (qO, .inr (1, [.ref qo, .int kept, .int gone])), (qo, .inl (cI, 500, .inl fo))] ∧ va_S A s.heap H locs ∧ lv_has ls 9 [(8, .int (k_X3_perform_chg fR fC fW rL rC rIn mar hand p0)), (7, .int ((k_X3_perform_sum fR fC fW rT rL rC rIn mar hand p0) &&& 65535)), (6, .int (k_X3_perform_sum fR fC fW rT rL rC rIn mar hand p0)), (5, .int (k_X3_perform_bus fR fC fW rL rIn mar hand p0)), (4, .int (k_X3_perform_sh rL p0)), (3, .int ((p0 >>> (16 &&& 31)) &&& 15)), (2, .int ((p0 >>> (23 &&& 31)) &&& 15)), (0, .ref qx), (1, .int p0)]) 127 [] ?_ (fun J => ?_)
      · skip
        intro H locs ls hh
        obtain ⟨hP, hD, hS, hl⟩ := hh
        refine lv_aload_n hx hb dX3_perform_127 rfl (lv_at hl 7 rfl) ?_
        refine lv_iload_n hx hb dX3_perform_128 rfl (lv_at hl 8 rfl) ?_
        refine lv_iload hx hb dX3_perform_129 (lv_at hl 3 rfl) ?_
        refine lv_iload hx hb dX3_perform_131 (lv_at hl 1 rfl) ?_
        refine ctV_V (As := [.int p0, .int (k_X3_perform_bus fR fC fW rL rIn mar hand p0), .int ((k_X3_perform_sum fR fC fW rT rL rC rIn mar hand p0) &&& 65535)]) (rest := []) (wc := [(qx, .inr (3, [.ref qR, .ref qC, .ref qI, .ref qM, .ref qT, .ref qO, .int (j_X3_perform_105_qx6 fR fC fW rT rL rC rIn mar hand p0), .int (j_X3_perform_127_qx7 fR fC fW rT rL rC rIn mar hand p0), .int (j_X3_perform_127_qx8 fR fC fW rT rL rC rIn mar hand p0), .int rIn, .int cyc, .int wai])), (qR, .inl (cI, 32, .inl (j_X3_perform_80_qR fR rL p0))), (qC, .inl (cI, 256, .inl fC)), (qI, .inl (cI, 1024, .inl fI)), (qM, .inr (0, [.ref qW, .int mar, .int rst])), (qW, .inl (cI, 1024, .inl fW)), (qT, .inr (2, [.ref qp, .ref qc, .ref qd, .ref qk, .int hand, .int hov, .int said])), (qp, .inl (cI, 16, .inl fp)), (qc, .inl (cI, 16, .inl fc)), (qd, .inl (cI, 16, .inl fd)), (qk, .inl (cZ, 16, .inl fk)), (qO, .inr (1, [.ref qo, .int kept, .int gone])), (qo, .inl (cI, 500, .inl fo))]) (wr := []) ⟨hx, hb, hml, hown, hts⟩ (c_X3_useMemory l D cI cZ qx qR qC qI qM qW qT qp qc qd qk qO qo (j_X3_perform_80_qR fR rL p0) fC fI fW fp fc fd fk fo (j_X3_perform_105_qx6 fR fC fW rT rL rC rIn mar hand p0) (j_X3_perform_127_qx7 fR fC fW rT rL rC rIn mar hand p0) (j_X3_perform_127_qx8 fR fC fW rT rL rC rIn mar hand p0) rIn cyc wai mar rst hand hov said kept gone p0 (k_X3_perform_bus fR fC fW rL rIn mar hand p0) ((k_X3_perform_sum fR fC fW rT rL rC rIn mar hand p0) &&& 65535)) (cwV 3 hts (gd_V wm_X3_166 wi_X3_useMemory ws_X3_useMemory wz_X3 wo_X3_useMemory) rfl rfl rfl (by decide +kernel) ⟨Nat.le_of_ble_eq_true rfl, Nat.le_of_ble_eq_true rfl⟩) hK hP hD hS hA 0 rfl rfl rfl [0, 1, 2, 3, 4, 5, 6, 7, 8, 9, 10, 11, 12] [] rfl rfl (by decide) (by decide) (by decide) rfl rfl hl.1 (Nat.le_of_ble_eq_true rfl) dX3_perform_133 ⟨Nat.le_of_ble_eq_true rfl, Nat.le_of_ble_eq_true rfl⟩ (fun u H locs hP hD hS => ?_)
        have hP : va_P D classes [(qx, .inr (3, [.ref qR, .ref qC, .ref qI, .ref qM, .ref qT, .ref qO, .int (j_X3_perform_105_qx6 fR fC fW rT rL rC rIn mar hand p0), .int (j_X3_perform_127_qx7 fR fC fW rT rL rC rIn mar hand p0), .int (j_X3_perform_127_qx8 fR fC fW rT rL rC rIn mar hand p0), .int rIn, .int cyc, .int wai])), (qR, .inl (cI, 32, .inl (j_X3_perform_80_qR fR rL p0))), (qC, .inl (cI, 256, .inl fC)), (qI, .inl (cI, 1024, .inl fI)), (qM, .inr (0, [.ref qW, .int (z_X3_useMemory_qM1 mar p0 ((k_X3_perform_sum fR fC fW rT rL rC rIn mar hand p0) &&& 65535)), .int (z_X3_useMemory_qM2 rst p0)])), (qW, .inl (cI, 1024, .inl (j_X3_useMemory_17_qW fW mar p0 (k_X3_perform_bus fR fC fW rL rIn mar hand p0)))), (qT, .inr (2, [.ref qp, .ref qc, .ref qd, .ref qk, .int hand, .int hov, .int said])), (qp, .inl (cI, 16, .inl fp)), (qc, .inl (cI, 16, .inl fc)), (qd, .inl (cI, 16, .inl fd)), (qk, .inl (cZ, 16, .inl fk)), (qO, .inr (1, [.ref qo, .int kept, .int gone])), (qo, .inl (cI, 500, .inl fo))] H := hP
        have hD : va_D A [(qx, .inr (3, [.ref qR, .ref qC, .ref qI, .ref qM, .ref qT, .ref qO, .int (j_X3_perform_105_qx6 fR fC fW rT rL rC rIn mar hand p0), .int (j_X3_perform_127_qx7 fR fC fW rT rL rC rIn mar hand p0), .int (j_X3_perform_127_qx8 fR fC fW rT rL rC rIn mar hand p0), .int rIn, .int cyc, .int wai])), (qR, .inl (cI, 32, .inl (j_X3_perform_80_qR fR rL p0))), (qC, .inl (cI, 256, .inl fC)), (qI, .inl (cI, 1024, .inl fI)), (qM, .inr (0, [.ref qW, .int (z_X3_useMemory_qM1 mar p0 ((k_X3_perform_sum fR fC fW rT rL rC rIn mar hand p0) &&& 65535)), .int (z_X3_useMemory_qM2 rst p0)])), (qW, .inl (cI, 1024, .inl (j_X3_useMemory_17_qW fW mar p0 (k_X3_perform_bus fR fC fW rL rIn mar hand p0)))), (qT, .inr (2, [.ref qp, .ref qc, .ref qd, .ref qk, .int hand, .int hov, .int said])), (qp, .inl (cI, 16, .inl fp)), (qc, .inl (cI, 16, .inl fc)), (qd, .inl (cI, 16, .inl fd)), (qk, .inl (cZ, 16, .inl fk)), (qO, .inr (1, [.ref qo, .int kept, .int gone])), (qo, .inl (cI, 500, .inl fo))] := hD
        refine lv_iload_n hx hb dX3_perform_136 rfl (lv_at hl 5 rfl) ?_
        refine lv_bipush (v := 8) hx hb dX3_perform_137 (by decide) ?_
        refine ct_merge (fun H locs ls => va_P D classes [(qx, .inr (3, [.ref qR, .ref qC, .ref qI, .ref qM, .ref qT, .ref qO, .int (j_X3_perform_105_qx6 fR fC fW rT rL rC rIn mar hand p0), .int (j_X3_perform_127_qx7 fR fC fW rT rL rC rIn mar hand p0), .int (j_X3_perform_127_qx8 fR fC fW rT rL rC rIn mar hand p0), .int rIn, .int cyc, .int wai])), (qR, .inl (cI, 32, .inl (j_X3_perform_80_qR fR rL p0))), (qC, .inl (cI, 256, .inl fC)), (qI, .inl (cI, 1024, .inl fI)), (qM, .inr (0, [.ref qW, .int (z_X3_useMemory_qM1 mar p0 ((k_X3_perform_sum fR fC fW rT rL rC rIn mar hand p0) &&& 65535)), .int (z_X3_useMemory_qM2 rst p0)])), (qW, .inl (cI, 1024, .inl (j_X3_useMemory_17_qW fW mar p0 (k_X3_perform_bus fR fC fW rL rIn mar hand p0)))), (qT, .inr (2, [.ref qp, .ref qc, .ref qd, .ref qk, .int hand, .int hov, .int said])), (qp, .inl (cI, 16, .inl fp)), (qc, .inl (cI, 16, .inl fc)), (qd, .inl (cI, 16, .inl fd)), (qk, .inl (cZ, 16, .inl fk)), (qO, .inr (1, [.ref qo, .int (j_X3_perform_151_qO1 kept p0), .int (j_X3_perform_151_qO2 gone p0)])), (qo, .inl (cI, 500, .inl (j_X3_perform_151_qo fR fC fW fo rL rIn mar hand kept p0)))] H ∧ va_D A [(qx, .inr (3, [.ref qR, .ref qC, .ref qI, .ref qM, .ref qT, .ref qO, .int (j_X3_perform_105_qx6 fR fC fW rT rL rC rIn mar hand p0), .int (j_X3_perform_127_qx7 fR fC fW rT rL rC rIn mar hand p0), .int (j_X3_perform_127_qx8 fR fC fW rT rL rC rIn mar hand p0), .int rIn, .int cyc, .int wai])), (qR, .inl (cI, 32, .inl (j_X3_perform_80_qR fR rL p0))), (qC, .inl (cI, 256, .inl fC)), (qI, .inl (cI, 1024, .inl fI)), (qM, .inr (0, [.ref qW, .int (z_X3_useMemory_qM1 mar p0 ((k_X3_perform_sum fR fC fW rT rL rC rIn mar hand p0) &&& 65535)), .int (z_X3_useMemory_qM2 rst p0)])), (qW, .inl (cI, 1024, .inl (j_X3_useMemory_17_qW fW mar p0 (k_X3_perform_bus fR fC fW rL rIn mar hand p0)))), (qT, .inr (2, [.ref qp, .ref qc, .ref qd, .ref qk, .int hand, .int hov, .int said])), (qp, .inl (cI, 16, .inl fp)), (qc, .inl (cI, 16, .inl fc)), (qd, .inl (cI, 16, .inl fd)), (qk, .inl (cZ, 16, .inl fk)), (qO, .inr (1, [.ref qo, .int (j_X3_perform_151_qO1 kept p0), .int (j_X3_perform_151_qO2 gone p0)])), (qo, .inl (cI, 500, .inl (j_X3_perform_151_qo fR fC fW fo rL rIn mar hand kept p0)))] ∧ va_S A s.heap H locs ∧ lv_has ls 9 [(8, .int (k_X3_perform_chg fR fC fW rL rC rIn mar hand p0)), (7, .int ((k_X3_perform_sum fR fC fW rT rL rC rIn mar hand p0) &&& 65535)), (6, .int (k_X3_perform_sum fR fC fW rT rL rC rIn mar hand p0)), (5, .int (k_X3_perform_bus fR fC fW rL rIn mar hand p0)), (4, .int (k_X3_perform_sh rL p0)), (3, .int ((p0 >>> (16 &&& 31)) &&& 15)), (2, .int ((p0 >>> (23 &&& 31)) &&& 15)), (0, .ref qx), (1, .int p0)]) 151 [] ?_ (fun J => ?_)
        · skip
          intro H locs ls hh
          obtain ⟨hP, hD, hS, hl⟩ := hh
          refine lv_aload_n hx hb dX3_perform_151 rfl (lv_at hl 7 rfl) ?_
          refine va_get (D := D) (ci := 3) (v := .ref qT) (C := RX3) (T := TX3) (N := 12) hx hb hts ilX3 hown hK hP 0 rfl rfl 4 (by decide) (hts _ wf_X3_29) (fun _ h9 => h9) rfl dX3_perform_152 ?_
          refine lv_iload_n hx hb dX3_perform_155 rfl (lv_at hl 8 rfl) ?_
          refine ctI_S (As := [.int p0]) (rest := [.ref qT]) (wc := []) (wr := [(qx, .inr (3, [.ref qR, .ref qC, .ref qI, .ref qM, .ref qT, .ref qO, .int (j_X3_perform_105_qx6 fR fC fW rT rL rC rIn mar hand p0), .int (j_X3_perform_127_qx7 fR fC fW rT rL rC rIn mar hand p0), .int (j_X3_perform_127_qx8 fR fC fW rT rL rC rIn mar hand p0), .int rIn, .int cyc, .int wai])), (qR, .inl (cI, 32, .inl (j_X3_perform_80_qR fR rL p0))), (qC, .inl (cI, 256, .inl fC)), (qI, .inl (cI, 1024, .inl fI)), (qM, .inr (0, [.ref qW, .int (z_X3_useMemory_qM1 mar p0 ((k_X3_perform_sum fR fC fW rT rL rC rIn mar hand p0) &&& 65535)), .int (z_X3_useMemory_qM2 rst p0)])), (qW, .inl (cI, 1024, .inl (j_X3_useMemory_17_qW fW mar p0 (k_X3_perform_bus fR fC fW rL rIn mar hand p0)))), (qT, .inr (2, [.ref qp, .ref qc, .ref qd, .ref qk, .int hand, .int hov, .int said])), (qp, .inl (cI, 16, .inl fp)), (qc, .inl (cI, 16, .inl fc)), (qd, .inl (cI, 16, .inl fd)), (qk, .inl (cZ, 16, .inl fk)), (qO, .inr (1, [.ref qo, .int (j_X3_perform_151_qO1 kept p0), .int (j_X3_perform_151_qO2 gone p0)])), (qo, .inl (cI, 500, .inl (j_X3_perform_151_qo fR fC fW fo rL rIn mar hand kept p0)))]) ⟨hx, hb, hml, hown, hts⟩ (c_X3_nextOf l D cI cZ p0) (cwS 1 hts (gd_S wm_X3_173 wt_X3_nextOf wz_X3 wo_X3_nextOf) rfl rfl rfl (by decide +kernel) ⟨Nat.le_of_ble_eq_true rfl, Nat.le_of_ble_eq_true rfl⟩) hK hP hD hS hA [] [0, 1, 2, 3, 4, 5, 6, 7, 8, 9, 10, 11, 12] rfl rfl (by decide) (by decide) (by decide) rfl rfl hl.1 (Nat.le_of_ble_eq_true rfl) dX3_perform_156 ⟨Nat.le_of_ble_eq_true rfl, Nat.le_of_ble_eq_true rfl⟩ (fun H locs hP hD hS => ?_)
          have hP : va_P D classes [(qx, .inr (3, [.ref qR, .ref qC, .ref qI, .ref qM, .ref qT, .ref qO, .int (j_X3_perform_105_qx6 fR fC fW rT rL rC rIn mar hand p0), .int (j_X3_perform_127_qx7 fR fC fW rT rL rC rIn mar hand p0), .int (j_X3_perform_127_qx8 fR fC fW rT rL rC rIn mar hand p0), .int rIn, .int cyc, .int wai])), (qR, .inl (cI, 32, .inl (j_X3_perform_80_qR fR rL p0))), (qC, .inl (cI, 256, .inl fC)), (qI, .inl (cI, 1024, .inl fI)), (qM, .inr (0, [.ref qW, .int (z_X3_useMemory_qM1 mar p0 ((k_X3_perform_sum fR fC fW rT rL rC rIn mar hand p0) &&& 65535)), .int (z_X3_useMemory_qM2 rst p0)])), (qW, .inl (cI, 1024, .inl (j_X3_useMemory_17_qW fW mar p0 (k_X3_perform_bus fR fC fW rL rIn mar hand p0)))), (qT, .inr (2, [.ref qp, .ref qc, .ref qd, .ref qk, .int hand, .int hov, .int said])), (qp, .inl (cI, 16, .inl fp)), (qc, .inl (cI, 16, .inl fc)), (qd, .inl (cI, 16, .inl fd)), (qk, .inl (cZ, 16, .inl fk)), (qO, .inr (1, [.ref qo, .int (j_X3_perform_151_qO1 kept p0), .int (j_X3_perform_151_qO2 gone p0)])), (qo, .inl (cI, 500, .inl (j_X3_perform_151_qo fR fC fW fo rL rIn mar hand kept p0)))] H := hP
          have hD : va_D A [(qx, .inr (3, [.ref qR, .ref qC, .ref qI, .ref qM, .ref qT, .ref qO, .int (j_X3_perform_105_qx6 fR fC fW rT rL rC rIn mar hand p0), .int (j_X3_perform_127_qx7 fR fC fW rT rL rC rIn mar hand p0), .int (j_X3_perform_127_qx8 fR fC fW rT rL rC rIn mar hand p0), .int rIn, .int cyc, .int wai])), (qR, .inl (cI, 32, .inl (j_X3_perform_80_qR fR rL p0))), (qC, .inl (cI, 256, .inl fC)), (qI, .inl (cI, 1024, .inl fI)), (qM, .inr (0, [.ref qW, .int (z_X3_useMemory_qM1 mar p0 ((k_X3_perform_sum fR fC fW rT rL rC rIn mar hand p0) &&& 65535)), .int (z_X3_useMemory_qM2 rst p0)])), (qW, .inl (cI, 1024, .inl (j_X3_useMemory_17_qW fW mar p0 (k_X3_perform_bus fR fC fW rL rIn mar hand p0)))), (qT, .inr (2, [.ref qp, .ref qc, .ref qd, .ref qk, .int hand, .int hov, .int said])), (qp, .inl (cI, 16, .inl fp)), (qc, .inl (cI, 16, .inl fc)), (qd, .inl (cI, 16, .inl fd)), (qk, .inl (cZ, 16, .inl fk)), (qO, .inr (1, [.ref qo, .int (j_X3_perform_151_qO1 kept p0), .int (j_X3_perform_151_qO2 gone p0)])), (qo, .inl (cI, 500, .inl (j_X3_perform_151_qo fR fC fW fo rL rIn mar hand kept p0)))] := hD
          refine lv_iload hx hb dX3_perform_159 (lv_at hl 0 rfl) ?_
          refine lv_iload_n hx hb dX3_perform_161 rfl (lv_at hl 5 rfl) ?_
          refine ctV_V (As := [.int (p0 &&& 1023), .int (k_X3_perform_chg fR fC fW rL rC rIn mar hand p0), .int ((p0 >>> (16 &&& 31)) &&& 15)]) (rest := []) (wc := [(qT, .inr (2, [.ref qp, .ref qc, .ref qd, .ref qk, .int hand, .int hov, .int said])), (qp, .inl (cI, 16, .inl fp)), (qc, .inl (cI, 16, .inl fc)), (qd, .inl (cI, 16, .inl fd)), (qk, .inl (cZ, 16, .inl fk))]) (wr := [(qx, .inr (3, [.ref qR, .ref qC, .ref qI, .ref qM, .ref qT, .ref qO, .int (j_X3_perform_105_qx6 fR fC fW rT rL rC rIn mar hand p0), .int (j_X3_perform_127_qx7 fR fC fW rT rL rC rIn mar hand p0), .int (j_X3_perform_127_qx8 fR fC fW rT rL rC rIn mar hand p0), .int rIn, .int cyc, .int wai])), (qR, .inl (cI, 32, .inl (j_X3_perform_80_qR fR rL p0))), (qC, .inl (cI, 256, .inl fC)), (qI, .inl (cI, 1024, .inl fI)), (qM, .inr (0, [.ref qW, .int (z_X3_useMemory_qM1 mar p0 ((k_X3_perform_sum fR fC fW rT rL rC rIn mar hand p0) &&& 65535)), .int (z_X3_useMemory_qM2 rst p0)])), (qW, .inl (cI, 1024, .inl (j_X3_useMemory_17_qW fW mar p0 (k_X3_perform_bus fR fC fW rL rIn mar hand p0)))), (qO, .inr (1, [.ref qo, .int (j_X3_perform_151_qO1 kept p0), .int (j_X3_perform_151_qO2 gone p0)])), (qo, .inl (cI, 500, .inl (j_X3_perform_151_qo fR fC fW fo rL rIn mar hand kept p0)))]) ⟨hx, hb, hml, hown, hts⟩ (c_X2_goOn l D cI cZ qT qp qc qd qk fp fc fd fk hand hov said (p0 &&& 1023) (k_X3_perform_chg fR fC fW rL rC rIn mar hand p0) ((p0 >>> (16 &&& 31)) &&& 15) hh) (cwV 3 hts (gd_V wm_X3_176 wi_X2_goOn ws_X2_goOn wz_X2 wo_X2_goOn) rfl rfl rfl (by decide +kernel) ⟨Nat.le_of_ble_eq_true rfl, Nat.le_of_ble_eq_true rfl⟩) hK hP hD hS hA 6 rfl rfl rfl [6, 7, 8, 9, 10] [0, 1, 2, 3, 4, 5, 11, 12] rfl rfl (by decide) (by decide) (by decide) rfl rfl hl.1 (Nat.le_of_ble_eq_true rfl) dX3_perform_162 ⟨Nat.le_of_ble_eq_true rfl, Nat.le_of_ble_eq_true rfl⟩ (fun u H locs hP hD hS => ?_)
          have hP : va_P D classes [(qx, .inr (3, [.ref qR, .ref qC, .ref qI, .ref qM, .ref qT, .ref qO, .int (j_X3_perform_105_qx6 fR fC fW rT rL rC rIn mar hand p0), .int (j_X3_perform_127_qx7 fR fC fW rT rL rC rIn mar hand p0), .int (j_X3_perform_127_qx8 fR fC fW rT rL rC rIn mar hand p0), .int rIn, .int cyc, .int wai])), (qR, .inl (cI, 32, .inl (j_X3_perform_80_qR fR rL p0))), (qC, .inl (cI, 256, .inl fC)), (qI, .inl (cI, 1024, .inl fI)), (qM, .inr (0, [.ref qW, .int (z_X3_useMemory_qM1 mar p0 ((k_X3_perform_sum fR fC fW rT rL rC rIn mar hand p0) &&& 65535)), .int (z_X3_useMemory_qM2 rst p0)])), (qW, .inl (cI, 1024, .inl (j_X3_useMemory_17_qW fW mar p0 (k_X3_perform_bus fR fC fW rL rIn mar hand p0)))), (qO, .inr (1, [.ref qo, .int (j_X3_perform_151_qO1 kept p0), .int (j_X3_perform_151_qO2 gone p0)])), (qo, .inl (cI, 500, .inl (j_X3_perform_151_qo fR fC fW fo rL rIn mar hand kept p0))), (qT, .inr (2, [.ref qp, .ref qc, .ref qd, .ref qk, .int (j_X2_goOn_80_qT4 fk hand said ((p0 >>> (16 &&& 31)) &&& 15)), .int (j_X2_goOn_80_qT5 fk hand hov said ((p0 >>> (16 &&& 31)) &&& 15)), .int (z_X2_goOn_qT6 ((p0 >>> (16 &&& 31)) &&& 15))])), (qp, .inl (cI, 16, .inl (upd fp (Int32.toNatClampNeg hand) ((p0 &&& 1023) ||| (fc (Int32.toNatClampNeg hand)))))), (qc, .inl (cI, 16, .inl (upd fc (Int32.toNatClampNeg hand) (k_X3_perform_chg fR fC fW rL rC rIn mar hand p0)))), (qd, .inl (cI, 16, .inl (upd fd (Int32.toNatClampNeg hand) ((fd (Int32.toNatClampNeg hand)) + 1)))), (qk, .inl (cZ, 16, .inl (j_X2_goOn_65_qk fk hand ((p0 >>> (16 &&& 31)) &&& 15))))] H := hP
          have hD : va_D A [(qx, .inr (3, [.ref qR, .ref qC, .ref qI, .ref qM, .ref qT, .ref qO, .int (j_X3_perform_105_qx6 fR fC fW rT rL rC rIn mar hand p0), .int (j_X3_perform_127_qx7 fR fC fW rT rL rC rIn mar hand p0), .int (j_X3_perform_127_qx8 fR fC fW rT rL rC rIn mar hand p0), .int rIn, .int cyc, .int wai])), (qR, .inl (cI, 32, .inl (j_X3_perform_80_qR fR rL p0))), (qC, .inl (cI, 256, .inl fC)), (qI, .inl (cI, 1024, .inl fI)), (qM, .inr (0, [.ref qW, .int (z_X3_useMemory_qM1 mar p0 ((k_X3_perform_sum fR fC fW rT rL rC rIn mar hand p0) &&& 65535)), .int (z_X3_useMemory_qM2 rst p0)])), (qW, .inl (cI, 1024, .inl (j_X3_useMemory_17_qW fW mar p0 (k_X3_perform_bus fR fC fW rL rIn mar hand p0)))), (qO, .inr (1, [.ref qo, .int (j_X3_perform_151_qO1 kept p0), .int (j_X3_perform_151_qO2 gone p0)])), (qo, .inl (cI, 500, .inl (j_X3_perform_151_qo fR fC fW fo rL rIn mar hand kept p0))), (qT, .inr (2, [.ref qp, .ref qc, .ref qd, .ref qk, .int (j_X2_goOn_80_qT4 fk hand said ((p0 >>> (16 &&& 31)) &&& 15)), .int (j_X2_goOn_80_qT5 fk hand hov said ((p0 >>> (16 &&& 31)) &&& 15)), .int (z_X2_goOn_qT6 ((p0 >>> (16 &&& 31)) &&& 15))])), (qp, .inl (cI, 16, .inl (upd fp (Int32.toNatClampNeg hand) ((p0 &&& 1023) ||| (fc (Int32.toNatClampNeg hand)))))), (qc, .inl (cI, 16, .inl (upd fc (Int32.toNatClampNeg hand) (k_X3_perform_chg fR fC fW rL rC rIn mar hand p0)))), (qd, .inl (cI, 16, .inl (upd fd (Int32.toNatClampNeg hand) ((fd (Int32.toNatClampNeg hand)) + 1)))), (qk, .inl (cZ, 16, .inl (j_X2_goOn_65_qk fk hand ((p0 >>> (16 &&& 31)) &&& 15))))] := hD
          have hP := hP.sub (ws' := [(qx, .inr (3, [.ref qR, .ref qC, .ref qI, .ref qM, .ref qT, .ref qO, .int (j_X3_perform_105_qx6 fR fC fW rT rL rC rIn mar hand p0), .int (j_X3_perform_127_qx7 fR fC fW rT rL rC rIn mar hand p0), .int (j_X3_perform_127_qx8 fR fC fW rT rL rC rIn mar hand p0), .int rIn, .int cyc, .int wai])), (qR, .inl (cI, 32, .inl (j_X3_perform_80_qR fR rL p0))), (qC, .inl (cI, 256, .inl fC)), (qI, .inl (cI, 1024, .inl fI)), (qM, .inr (0, [.ref qW, .int (z_X3_useMemory_qM1 mar p0 ((k_X3_perform_sum fR fC fW rT rL rC rIn mar hand p0) &&& 65535)), .int (z_X3_useMemory_qM2 rst p0)])), (qW, .inl (cI, 1024, .inl (j_X3_useMemory_17_qW fW mar p0 (k_X3_perform_bus fR fC fW rL rIn mar hand p0)))), (qT, .inr (2, [.ref qp, .ref qc, .ref qd, .ref qk, .int (j_X2_goOn_80_qT4 fk hand said ((p0 >>> (16 &&& 31)) &&& 15)), .int (j_X2_goOn_80_qT5 fk hand hov said ((p0 >>> (16 &&& 31)) &&& 15)), .int (z_X2_goOn_qT6 ((p0 >>> (16 &&& 31)) &&& 15))])), (qp, .inl (cI, 16, .inl (upd fp (Int32.toNatClampNeg hand) ((p0 &&& 1023) ||| (fc (Int32.toNatClampNeg hand)))))), (qc, .inl (cI, 16, .inl (upd fc (Int32.toNatClampNeg hand) (k_X3_perform_chg fR fC fW rL rC rIn mar hand p0)))), (qd, .inl (cI, 16, .inl (upd fd (Int32.toNatClampNeg hand) ((fd (Int32.toNatClampNeg hand)) + 1)))), (qk, .inl (cZ, 16, .inl (j_X2_goOn_65_qk fk hand ((p0 >>> (16 &&& 31)) &&& 15)))), (qO, .inr (1, [.ref qo, .int (j_X3_perform_151_qO1 kept p0), .int (j_X3_perform_151_qO2 gone p0)])), (qo, .inl (cI, 500, .inl (j_X3_perform_151_qo fR fC fW fo rL rIn mar hand kept p0)))]) [0, 1, 2, 3, 4, 5, 8, 9, 10, 11, 12, 6, 7] rfl
          have hD := hD.sub (ws' := [(qx, .inr (3, [.ref qR, .ref qC, .ref qI, .ref qM, .ref qT, .ref qO, .int (j_X3_perform_105_qx6 fR fC fW rT rL rC rIn mar hand p0), .int (j_X3_perform_127_qx7 fR fC fW rT rL rC rIn mar hand p0), .int (j_X3_perform_127_qx8 fR fC fW rT rL rC rIn mar hand p0), .int rIn, .int cyc, .int wai])), (qR, .inl (cI, 32, .inl (j_X3_perform_80_qR fR rL p0))), (qC, .inl (cI, 256, .inl fC)), (qI, .inl (cI, 1024, .inl fI)), (qM, .inr (0, [.ref qW, .int (z_X3_useMemory_qM1 mar p0 ((k_X3_perform_sum fR fC fW rT rL rC rIn mar hand p0) &&& 65535)), .int (z_X3_useMemory_qM2 rst p0)])), (qW, .inl (cI, 1024, .inl (j_X3_useMemory_17_qW fW mar p0 (k_X3_perform_bus fR fC fW rL rIn mar hand p0)))), (qT, .inr (2, [.ref qp, .ref qc, .ref qd, .ref qk, .int (j_X2_goOn_80_qT4 fk hand said ((p0 >>> (16 &&& 31)) &&& 15)), .int (j_X2_goOn_80_qT5 fk hand hov said ((p0 >>> (16 &&& 31)) &&& 15)), .int (z_X2_goOn_qT6 ((p0 >>> (16 &&& 31)) &&& 15))])), (qp, .inl (cI, 16, .inl (upd fp (Int32.toNatClampNeg hand) ((p0 &&& 1023) ||| (fc (Int32.toNatClampNeg hand)))))), (qc, .inl (cI, 16, .inl (upd fc (Int32.toNatClampNeg hand) (k_X3_perform_chg fR fC fW rL rC rIn mar hand p0)))), (qd, .inl (cI, 16, .inl (upd fd (Int32.toNatClampNeg hand) ((fd (Int32.toNatClampNeg hand)) + 1)))), (qk, .inl (cZ, 16, .inl (j_X2_goOn_65_qk fk hand ((p0 >>> (16 &&& 31)) &&& 15)))), (qO, .inr (1, [.ref qo, .int (j_X3_perform_151_qO1 kept p0), .int (j_X3_perform_151_qO2 gone p0)])), (qo, .inl (cI, 500, .inl (j_X3_perform_151_qo fR fC fW fo rL rIn mar hand kept p0)))]) [0, 1, 2, 3, 4, 5, 8, 9, 10, 11, 12, 6, 7] (by decide) rfl
          exact ct_vret () hx hb hr hlocks hP hD hS rfl dX3_perform_165
        · skip
          refine lv_icmp_ne (tgt := 151) hx hb dX3_perform_139 (by decide) (fun c_1 => ?_) (fun c_1 => ?_)
          · skip
            have hP := hP.sub (ws' := [(qx, .inr (3, [.ref qR, .ref qC, .ref qI, .ref qM, .ref qT, .ref qO, .int (j_X3_perform_105_qx6 fR fC fW rT rL rC rIn mar hand p0), .int (j_X3_perform_127_qx7 fR fC fW rT rL rC rIn mar hand p0), .int (j_X3_perform_127_qx8 fR fC fW rT rL rC rIn mar hand p0), .int rIn, .int cyc, .int wai])), (qR, .inl (cI, 32, .inl (j_X3_perform_80_qR fR rL p0))), (qC, .inl (cI, 256, .inl fC)), (qI, .inl (cI, 1024, .inl fI)), (qM, .inr (0, [.ref qW, .int (z_X3_useMemory_qM1 mar p0 ((k_X3_perform_sum fR fC fW rT rL rC rIn mar hand p0) &&& 65535)), .int (z_X3_useMemory_qM2 rst p0)])), (qW, .inl (cI, 1024, .inl (j_X3_useMemory_17_qW fW mar p0 (k_X3_perform_bus fR fC fW rL rIn mar hand p0)))), (qT, .inr (2, [.ref qp, .ref qc, .ref qd, .ref qk, .int hand, .int hov, .int said])), (qp, .inl (cI, 16, .inl fp)), (qc, .inl (cI, 16, .inl fc)), (qd, .inl (cI, 16, .inl fd)), (qk, .inl (cZ, 16, .inl fk)), (qO, .inr (1, [.ref qo, .int kept, .int gone])), (qo, .inl (cI, 500, .inl fo))]) [0, 1, 2, 3, 4, 5, 6, 7, 8, 9, 10, 11, 12] rfl
            have hD := hD.sub (ws' := [(qx, .inr (3, [.ref qR, .ref qC, .ref qI, .ref qM, .ref qT, .ref qO, .int (j_X3_perform_105_qx6 fR fC fW rT rL rC rIn mar hand p0), .int (j_X3_perform_127_qx7 fR fC fW rT rL rC rIn mar hand p0), .int (j_X3_perform_127_qx8 fR fC fW rT rL rC rIn mar hand p0), .int rIn, .int cyc, .int wai])), (qR, .inl (cI, 32, .inl (j_X3_perform_80_qR fR rL p0))), (qC, .inl (cI, 256, .inl fC)), (qI, .inl (cI, 1024, .inl fI)), (qM, .inr (0, [.ref qW, .int (z_X3_useMemory_qM1 mar p0 ((k_X3_perform_sum fR fC fW rT rL rC rIn mar hand p0) &&& 65535)), .int (z_X3_useMemory_qM2 rst p0)])), (qW, .inl (cI, 1024, .inl (j_X3_useMemory_17_qW fW mar p0 (k_X3_perform_bus fR fC fW rL rIn mar hand p0)))), (qT, .inr (2, [.ref qp, .ref qc, .ref qd, .ref qk, .int hand, .int hov, .int said])), (qp, .inl (cI, 16, .inl fp)), (qc, .inl (cI, 16, .inl fc)), (qd, .inl (cI, 16, .inl fd)), (qk, .inl (cZ, 16, .inl fk)), (qO, .inr (1, [.ref qo, .int kept, .int gone])), (qo, .inl (cI, 500, .inl fo))]) [0, 1, 2, 3, 4, 5, 6, 7, 8, 9, 10, 11, 12] (by decide) rfl
            have e_1 : j_X3_perform_151_qO1 kept p0 = kept := by simp only [j_X3_perform_151_qO1, if_neg c_1]
            have e_2 : j_X3_perform_151_qO2 gone p0 = gone := by simp only [j_X3_perform_151_qO2, if_neg c_1]
            have e_3 : j_X3_perform_151_qo fR fC fW fo rL rIn mar hand kept p0 = fo := by simp only [j_X3_perform_151_qo, if_neg c_1]
            exact J _ _ _ ⟨(by rw [e_1, e_2, e_3]; exact hP), (by rw [e_1, e_2, e_3]; exact hD), hS, (lv_sub hl [0, 1, 2, 3, 4, 5, 6, 7, 8] rfl)⟩
          · skip
            refine lv_aload_n hx hb dX3_perform_142 rfl (lv_at hl 7 rfl) ?_
            refine va_get (D := D) (ci := 3) (v := .ref qO) (C := RX3) (T := TX3) (N := 12) hx hb hts ilX3 hown hK hP 0 rfl rfl 5 (by decide) (hts _ wf_X3_36) (fun _ h9 => h9) rfl dX3_perform_143 ?_
            refine lv_iload hx hb dX3_perform_146 (lv_at hl 3 rfl) ?_
            refine ctV_V (As := [.int (k_X3_perform_bus fR fC fW rL rIn mar hand p0)]) (rest := []) (wc := [(qO, .inr (1, [.ref qo, .int kept, .int gone])), (qo, .inl (cI, 500, .inl fo))]) (wr := [(qx, .inr (3, [.ref qR, .ref qC, .ref qI, .ref qM, .ref qT, .ref qO, .int (j_X3_perform_105_qx6 fR fC fW rT rL rC rIn mar hand p0), .int (j_X3_perform_127_qx7 fR fC fW rT rL rC rIn mar hand p0), .int (j_X3_perform_127_qx8 fR fC fW rT rL rC rIn mar hand p0), .int rIn, .int cyc, .int wai])), (qR, .inl (cI, 32, .inl (j_X3_perform_80_qR fR rL p0))), (qC, .inl (cI, 256, .inl fC)), (qI, .inl (cI, 1024, .inl fI)), (qM, .inr (0, [.ref qW, .int (z_X3_useMemory_qM1 mar p0 ((k_X3_perform_sum fR fC fW rT rL rC rIn mar hand p0) &&& 65535)), .int (z_X3_useMemory_qM2 rst p0)])), (qW, .inl (cI, 1024, .inl (j_X3_useMemory_17_qW fW mar p0 (k_X3_perform_bus fR fC fW rL rIn mar hand p0)))), (qT, .inr (2, [.ref qp, .ref qc, .ref qd, .ref qk, .int hand, .int hov, .int said])), (qp, .inl (cI, 16, .inl fp)), (qc, .inl (cI, 16, .inl fc)), (qd, .inl (cI, 16, .inl fd)), (qk, .inl (cZ, 16, .inl fk))]) ⟨hx, hb, hml, hown, hts⟩ (c_X1_send l D cI cZ qO qo fo kept gone (k_X3_perform_bus fR fC fW rL rIn mar hand p0) hk0) (cwV 1 hts (gd_V wm_X3_170 wi_X1_send ws_X1_send wz_X1 wo_X1_send) rfl rfl rfl (by decide +kernel) ⟨Nat.le_of_ble_eq_true rfl, Nat.le_of_ble_eq_true rfl⟩) hK hP hD hS hA 11 rfl rfl rfl [11, 12] [0, 1, 2, 3, 4, 5, 6, 7, 8, 9, 10] rfl rfl (by decide) (by decide) (by decide) rfl rfl hl.1 (Nat.le_of_ble_eq_true rfl) dX3_perform_148 ⟨Nat.le_of_ble_eq_true rfl, Nat.le_of_ble_eq_true rfl⟩ (fun u H locs hP hD hS => ?_)
            have hP : va_P D classes [(qx, .inr (3, [.ref qR, .ref qC, .ref qI, .ref qM, .ref qT, .ref qO, .int (j_X3_perform_105_qx6 fR fC fW rT rL rC rIn mar hand p0), .int (j_X3_perform_127_qx7 fR fC fW rT rL rC rIn mar hand p0), .int (j_X3_perform_127_qx8 fR fC fW rT rL rC rIn mar hand p0), .int rIn, .int cyc, .int wai])), (qR, .inl (cI, 32, .inl (j_X3_perform_80_qR fR rL p0))), (qC, .inl (cI, 256, .inl fC)), (qI, .inl (cI, 1024, .inl fI)), (qM, .inr (0, [.ref qW, .int (z_X3_useMemory_qM1 mar p0 ((k_X3_perform_sum fR fC fW rT rL rC rIn mar hand p0) &&& 65535)), .int (z_X3_useMemory_qM2 rst p0)])), (qW, .inl (cI, 1024, .inl (j_X3_useMemory_17_qW fW mar p0 (k_X3_perform_bus fR fC fW rL rIn mar hand p0)))), (qT, .inr (2, [.ref qp, .ref qc, .ref qd, .ref qk, .int hand, .int hov, .int said])), (qp, .inl (cI, 16, .inl fp)), (qc, .inl (cI, 16, .inl fc)), (qd, .inl (cI, 16, .inl fd)), (qk, .inl (cZ, 16, .inl fk)), (qO, .inr (1, [.ref qo, .int (z_X1_send_qO1 kept), .int (gone + 1)])), (qo, .inl (cI, 500, .inl (z_X1_send_qo fo kept (k_X3_perform_bus fR fC fW rL rIn mar hand p0))))] H := hP
            have hD : va_D A [(qx, .inr (3, [.ref qR, .ref qC, .ref qI, .ref qM, .ref qT, .ref qO, .int (j_X3_perform_105_qx6 fR fC fW rT rL rC rIn mar hand p0), .int (j_X3_perform_127_qx7 fR fC fW rT rL rC rIn mar hand p0), .int (j_X3_perform_127_qx8 fR fC fW rT rL rC rIn mar hand p0), .int rIn, .int cyc, .int wai])), (qR, .inl (cI, 32, .inl (j_X3_perform_80_qR fR rL p0))), (qC, .inl (cI, 256, .inl fC)), (qI, .inl (cI, 1024, .inl fI)), (qM, .inr (0, [.ref qW, .int (z_X3_useMemory_qM1 mar p0 ((k_X3_perform_sum fR fC fW rT rL rC rIn mar hand p0) &&& 65535)), .int (z_X3_useMemory_qM2 rst p0)])), (qW, .inl (cI, 1024, .inl (j_X3_useMemory_17_qW fW mar p0 (k_X3_perform_bus fR fC fW rL rIn mar hand p0)))), (qT, .inr (2, [.ref qp, .ref qc, .ref qd, .ref qk, .int hand, .int hov, .int said])), (qp, .inl (cI, 16, .inl fp)), (qc, .inl (cI, 16, .inl fc)), (qd, .inl (cI, 16, .inl fd)), (qk, .inl (cZ, 16, .inl fk)), (qO, .inr (1, [.ref qo, .int (z_X1_send_qO1 kept), .int (gone + 1)])), (qo, .inl (cI, 500, .inl (z_X1_send_qo fo kept (k_X3_perform_bus fR fC fW rL rIn mar hand p0))))] := hD
            have hP := hP.sub (ws' := [(qx, .inr (3, [.ref qR, .ref qC, .ref qI, .ref qM, .ref qT, .ref qO, .int (j_X3_perform_105_qx6 fR fC fW rT rL rC rIn mar hand p0), .int (j_X3_perform_127_qx7 fR fC fW rT rL rC rIn mar hand p0), .int (j_X3_perform_127_qx8 fR fC fW rT rL rC rIn mar hand p0), .int rIn, .int cyc, .int wai])), (qR, .inl (cI, 32, .inl (j_X3_perform_80_qR fR rL p0))), (qC, .inl (cI, 256, .inl fC)), (qI, .inl (cI, 1024, .inl fI)), (qM, .inr (0, [.ref qW, .int (z_X3_useMemory_qM1 mar p0 ((k_X3_perform_sum fR fC fW rT rL rC rIn mar hand p0) &&& 65535)), .int (z_X3_useMemory_qM2 rst p0)])), (qW, .inl (cI, 1024, .inl (j_X3_useMemory_17_qW fW mar p0 (k_X3_perform_bus fR fC fW rL rIn mar hand p0)))), (qT, .inr (2, [.ref qp, .ref qc, .ref qd, .ref qk, .int hand, .int hov, .int said])), (qp, .inl (cI, 16, .inl fp)), (qc, .inl (cI, 16, .inl fc)), (qd, .inl (cI, 16, .inl fd)), (qk, .inl (cZ, 16, .inl fk)), (qO, .inr (1, [.ref qo, .int (z_X1_send_qO1 kept), .int (gone + 1)])), (qo, .inl (cI, 500, .inl (z_X1_send_qo fo kept (k_X3_perform_bus fR fC fW rL rIn mar hand p0))))]) [0, 1, 2, 3, 4, 5, 6, 7, 8, 9, 10, 11, 12] rfl
            have hD := hD.sub (ws' := [(qx, .inr (3, [.ref qR, .ref qC, .ref qI, .ref qM, .ref qT, .ref qO, .int (j_X3_perform_105_qx6 fR fC fW rT rL rC rIn mar hand p0), .int (j_X3_perform_127_qx7 fR fC fW rT rL rC rIn mar hand p0), .int (j_X3_perform_127_qx8 fR fC fW rT rL rC rIn mar hand p0), .int rIn, .int cyc, .int wai])), (qR, .inl (cI, 32, .inl (j_X3_perform_80_qR fR rL p0))), (qC, .inl (cI, 256, .inl fC)), (qI, .inl (cI, 1024, .inl fI)), (qM, .inr (0, [.ref qW, .int (z_X3_useMemory_qM1 mar p0 ((k_X3_perform_sum fR fC fW rT rL rC rIn mar hand p0) &&& 65535)), .int (z_X3_useMemory_qM2 rst p0)])), (qW, .inl (cI, 1024, .inl (j_X3_useMemory_17_qW fW mar p0 (k_X3_perform_bus fR fC fW rL rIn mar hand p0)))), (qT, .inr (2, [.ref qp, .ref qc, .ref qd, .ref qk, .int hand, .int hov, .int said])), (qp, .inl (cI, 16, .inl fp)), (qc, .inl (cI, 16, .inl fc)), (qd, .inl (cI, 16, .inl fd)), (qk, .inl (cZ, 16, .inl fk)), (qO, .inr (1, [.ref qo, .int (z_X1_send_qO1 kept), .int (gone + 1)])), (qo, .inl (cI, 500, .inl (z_X1_send_qo fo kept (k_X3_perform_bus fR fC fW rL rIn mar hand p0))))]) [0, 1, 2, 3, 4, 5, 6, 7, 8, 9, 10, 11, 12] (by decide) rfl
            have e_1 : j_X3_perform_151_qO1 kept p0 = z_X1_send_qO1 kept := by simp only [j_X3_perform_151_qO1, if_pos c_1]
            have e_2 : j_X3_perform_151_qO2 gone p0 = gone + 1 := by simp only [j_X3_perform_151_qO2, if_pos c_1]
            have e_3 : j_X3_perform_151_qo fR fC fW fo rL rIn mar hand kept p0 = z_X1_send_qo fo kept (k_X3_perform_bus fR fC fW rL rIn mar hand p0) := by simp only [j_X3_perform_151_qo, if_pos c_1]
            exact J _ _ _ ⟨(by rw [e_1, e_2, e_3]; exact hP), (by rw [e_1, e_2, e_3]; exact hD), hS, (lv_sub hl [0, 1, 2, 3, 4, 5, 6, 7, 8] rfl)⟩
      · skip
        refine lv_if_eq (tgt := 127) hx hb dX3_perform_109 (by decide) (fun c_2 => ?_) (fun c_2 => ?_)
        · skip
          have hP := hP.sub (ws' := [(qx, .inr (3, [.ref qR, .ref qC, .ref qI, .ref qM, .ref qT, .ref qO, .int (j_X3_perform_105_qx6 fR fC fW rT rL rC rIn mar hand p0), .int rL, .int rC, .int rIn, .int cyc, .int wai])), (qR, .inl (cI, 32, .inl (j_X3_perform_80_qR fR rL p0))), (qC, .inl (cI, 256, .inl fC)), (qI, .inl (cI, 1024, .inl fI)), (qM, .inr (0, [.ref qW, .int mar, .int rst])), (qW, .inl (cI, 1024, .inl fW)), (qT, .inr (2, [.ref qp, .ref qc, .ref qd, .ref qk, .int hand, .int hov, .int said])), (qp, .inl (cI, 16, .inl fp)), (qc, .inl (cI, 16, .inl fc)), (qd, .inl (cI, 16, .inl fd)), (qk, .inl (cZ, 16, .inl fk)), (qO, .inr (1, [.ref qo, .int kept, .int gone])), (qo, .inl (cI, 500, .inl fo))]) [0, 1, 2, 3, 4, 5, 6, 7, 8, 9, 10, 11, 12] rfl
          have hD := hD.sub (ws' := [(qx, .inr (3, [.ref qR, .ref qC, .ref qI, .ref qM, .ref qT, .ref qO, .int (j_X3_perform_105_qx6 fR fC fW rT rL rC rIn mar hand p0), .int rL, .int rC, .int rIn, .int cyc, .int wai])), (qR, .inl (cI, 32, .inl (j_X3_perform_80_qR fR rL p0))), (qC, .inl (cI, 256, .inl fC)), (qI, .inl (cI, 1024, .inl fI)), (qM, .inr (0, [.ref qW, .int mar, .int rst])), (qW, .inl (cI, 1024, .inl fW)), (qT, .inr (2, [.ref qp, .ref qc, .ref qd, .ref qk, .int hand, .int hov, .int said])), (qp, .inl (cI, 16, .inl fp)), (qc, .inl (cI, 16, .inl fc)), (qd, .inl (cI, 16, .inl fd)), (qk, .inl (cZ, 16, .inl fk)), (qO, .inr (1, [.ref qo, .int kept, .int gone])), (qo, .inl (cI, 500, .inl fo))]) [0, 1, 2, 3, 4, 5, 6, 7, 8, 9, 10, 11, 12] (by decide) rfl
          have e_1 : j_X3_perform_127_qx7 fR fC fW rT rL rC rIn mar hand p0 = rL := by simp only [j_X3_perform_127_qx7, if_pos c_2]
          have e_2 : j_X3_perform_127_qx8 fR fC fW rT rL rC rIn mar hand p0 = rC := by simp only [j_X3_perform_127_qx8, if_pos c_2]
          exact J _ _ _ ⟨(by rw [e_1, e_2]; exact hP), (by rw [e_1, e_2]; exact hD), hS, (lv_sub hl [0, 1, 2, 3, 4, 5, 6, 7, 8] rfl)⟩
        · skip
          refine lv_aload_n hx hb dX3_perform_112 rfl (lv_at hl 7 rfl) ?_
          refine lv_iload hx hb dX3_perform_113 (lv_at hl 1 rfl) ?_
          refine va_put (D := D) (ci := 3) (v := .int ((k_X3_perform_sum fR fC fW rT rL rC rIn mar hand p0) &&& 65535)) (ty := (.int)) (C := RX3) (T := TX3) (N := 12) hx hb hts ilX3 tyX3 tyX3_ok nmX3 hown hK hP hD hS 0 rfl rfl 7 (by decide) (hts _ wf_X3_72) (fun _ h9 => h9) rfl (by decide +kernel) rfl rfl (Nat.le_of_ble_eq_true rfl) dX3_perform_115 (fun H locs hP hD hS => ?_)
          have hP : va_P D classes [(qx, .inr (3, [.ref qR, .ref qC, .ref qI, .ref qM, .ref qT, .ref qO, .int (j_X3_perform_105_qx6 fR fC fW rT rL rC rIn mar hand p0), .int ((k_X3_perform_sum fR fC fW rT rL rC rIn mar hand p0) &&& 65535), .int rC, .int rIn, .int cyc, .int wai])), (qR, .inl (cI, 32, .inl (j_X3_perform_80_qR fR rL p0))), (qC, .inl (cI, 256, .inl fC)), (qI, .inl (cI, 1024, .inl fI)), (qM, .inr (0, [.ref qW, .int mar, .int rst])), (qW, .inl (cI, 1024, .inl fW)), (qT, .inr (2, [.ref qp, .ref qc, .ref qd, .ref qk, .int hand, .int hov, .int said])), (qp, .inl (cI, 16, .inl fp)), (qc, .inl (cI, 16, .inl fc)), (qd, .inl (cI, 16, .inl fd)), (qk, .inl (cZ, 16, .inl fk)), (qO, .inr (1, [.ref qo, .int kept, .int gone])), (qo, .inl (cI, 500, .inl fo))] H := hP
          have hD : va_D A [(qx, .inr (3, [.ref qR, .ref qC, .ref qI, .ref qM, .ref qT, .ref qO, .int (j_X3_perform_105_qx6 fR fC fW rT rL rC rIn mar hand p0), .int ((k_X3_perform_sum fR fC fW rT rL rC rIn mar hand p0) &&& 65535), .int rC, .int rIn, .int cyc, .int wai])), (qR, .inl (cI, 32, .inl (j_X3_perform_80_qR fR rL p0))), (qC, .inl (cI, 256, .inl fC)), (qI, .inl (cI, 1024, .inl fI)), (qM, .inr (0, [.ref qW, .int mar, .int rst])), (qW, .inl (cI, 1024, .inl fW)), (qT, .inr (2, [.ref qp, .ref qc, .ref qd, .ref qk, .int hand, .int hov, .int said])), (qp, .inl (cI, 16, .inl fp)), (qc, .inl (cI, 16, .inl fc)), (qd, .inl (cI, 16, .inl fd)), (qk, .inl (cZ, 16, .inl fk)), (qO, .inr (1, [.ref qo, .int kept, .int gone])), (qo, .inl (cI, 500, .inl fo))] := hD
          refine lv_aload_n hx hb dX3_perform_118 rfl (lv_at hl 7 rfl) ?_
          refine lv_iload hx hb dX3_perform_119 (lv_at hl 2 rfl) ?_
          refine lv_bipush (v := 16) hx hb dX3_perform_121 (by decide) ?_
          refine lv_ishr hx hb dX3_perform_123 ?_
          refine va_put (D := D) (ci := 3) (v := .int ((k_X3_perform_sum fR fC fW rT rL rC rIn mar hand p0) >>> (16 &&& 31))) (ty := (.int)) (C := RX3) (T := TX3) (N := 12) hx hb hts ilX3 tyX3 tyX3_ok nmX3 hown hK hP hD hS 0 rfl rfl 8 (by decide) (hts _ wf_X3_75) (fun _ h9 => h9) rfl (by decide +kernel) rfl rfl (Nat.le_of_ble_eq_true rfl) dX3_perform_124 (fun H locs hP hD hS => ?_)
          have hP : va_P D classes [(qx, .inr (3, [.ref qR, .ref qC, .ref qI, .ref qM, .ref qT, .ref qO, .int (j_X3_perform_105_qx6 fR fC fW rT rL rC rIn mar hand p0), .int ((k_X3_perform_sum fR fC fW rT rL rC rIn mar hand p0) &&& 65535), .int ((k_X3_perform_sum fR fC fW rT rL rC rIn mar hand p0) >>> (16 &&& 31)), .int rIn, .int cyc, .int wai])), (qR, .inl (cI, 32, .inl (j_X3_perform_80_qR fR rL p0))), (qC, .inl (cI, 256, .inl fC)), (qI, .inl (cI, 1024, .inl fI)), (qM, .inr (0, [.ref qW, .int mar, .int rst])), (qW, .inl (cI, 1024, .inl fW)), (qT, .inr (2, [.ref qp, .ref qc, .ref qd, .ref qk, .int hand, .int hov, .int said])), (qp, .inl (cI, 16, .inl fp)), (qc, .inl (cI, 16, .inl fc)), (qd, .inl (cI, 16, .inl fd)), (qk, .inl (cZ, 16, .inl fk)), (qO, .inr (1, [.ref qo, .int kept, .int gone])), (qo, .inl (cI, 500, .inl fo))] H := hP
          have hD : va_D A [(qx, .inr (3, [.ref qR, .ref qC, .ref qI, .ref qM, .ref qT, .ref qO, .int (j_X3_perform_105_qx6 fR fC fW rT rL rC rIn mar hand p0), .int ((k_X3_perform_sum fR fC fW rT rL rC rIn mar hand p0) &&& 65535), .int ((k_X3_perform_sum fR fC fW rT rL rC rIn mar hand p0) >>> (16 &&& 31)), .int rIn, .int cyc, .int wai])), (qR, .inl (cI, 32, .inl (j_X3_perform_80_qR fR rL p0))), (qC, .inl (cI, 256, .inl fC)), (qI, .inl (cI, 1024, .inl fI)), (qM, .inr (0, [.ref qW, .int mar, .int rst])), (qW, .inl (cI, 1024, .inl fW)), (qT, .inr (2, [.ref qp, .ref qc, .ref qd, .ref qk, .int hand, .int hov, .int said])), (qp, .inl (cI, 16, .inl fp)), (qc, .inl (cI, 16, .inl fc)), (qd, .inl (cI, 16, .inl fd)), (qk, .inl (cZ, 16, .inl fk)), (qO, .inr (1, [.ref qo, .int kept, .int gone])), (qo, .inl (cI, 500, .inl fo))] := hD
          have hP := hP.sub (ws' := [(qx, .inr (3, [.ref qR, .ref qC, .ref qI, .ref qM, .ref qT, .ref qO, .int (j_X3_perform_105_qx6 fR fC fW rT rL rC rIn mar hand p0), .int ((k_X3_perform_sum fR fC fW rT rL rC rIn mar hand p0) &&& 65535), .int ((k_X3_perform_sum fR fC fW rT rL rC rIn mar hand p0) >>> (16 &&& 31)), .int rIn, .int cyc, .int wai])), (qR, .inl (cI, 32, .inl (j_X3_perform_80_qR fR rL p0))), (qC, .inl (cI, 256, .inl fC)), (qI, .inl (cI, 1024, .inl fI)), (qM, .inr (0, [.ref qW, .int mar, .int rst])), (qW, .inl (cI, 1024, .inl fW)), (qT, .inr (2, [.ref qp, .ref qc, .ref qd, .ref qk, .int hand, .int hov, .int said])), (qp, .inl (cI, 16, .inl fp)), (qc, .inl (cI, 16, .inl fc)), (qd, .inl (cI, 16, .inl fd)), (qk, .inl (cZ, 16, .inl fk)), (qO, .inr (1, [.ref qo, .int kept, .int gone])), (qo, .inl (cI, 500, .inl fo))]) [0, 1, 2, 3, 4, 5, 6, 7, 8, 9, 10, 11, 12] rfl
          have hD := hD.sub (ws' := [(qx, .inr (3, [.ref qR, .ref qC, .ref qI, .ref qM, .ref qT, .ref qO, .int (j_X3_perform_105_qx6 fR fC fW rT rL rC rIn mar hand p0), .int ((k_X3_perform_sum fR fC fW rT rL rC rIn mar hand p0) &&& 65535), .int ((k_X3_perform_sum fR fC fW rT rL rC rIn mar hand p0) >>> (16 &&& 31)), .int rIn, .int cyc, .int wai])), (qR, .inl (cI, 32, .inl (j_X3_perform_80_qR fR rL p0))), (qC, .inl (cI, 256, .inl fC)), (qI, .inl (cI, 1024, .inl fI)), (qM, .inr (0, [.ref qW, .int mar, .int rst])), (qW, .inl (cI, 1024, .inl fW)), (qT, .inr (2, [.ref qp, .ref qc, .ref qd, .ref qk, .int hand, .int hov, .int said])), (qp, .inl (cI, 16, .inl fp)), (qc, .inl (cI, 16, .inl fc)), (qd, .inl (cI, 16, .inl fd)), (qk, .inl (cZ, 16, .inl fk)), (qO, .inr (1, [.ref qo, .int kept, .int gone])), (qo, .inl (cI, 500, .inl fo))]) [0, 1, 2, 3, 4, 5, 6, 7, 8, 9, 10, 11, 12] (by decide) rfl
          have e_1 : j_X3_perform_127_qx7 fR fC fW rT rL rC rIn mar hand p0 = (k_X3_perform_sum fR fC fW rT rL rC rIn mar hand p0) &&& 65535 := by simp only [j_X3_perform_127_qx7, if_neg c_2]
          have e_2 : j_X3_perform_127_qx8 fR fC fW rT rL rC rIn mar hand p0 = (k_X3_perform_sum fR fC fW rT rL rC rIn mar hand p0) >>> (16 &&& 31) := by simp only [j_X3_perform_127_qx8, if_neg c_2]
          exact J _ _ _ ⟨(by rw [e_1, e_2]; exact hP), (by rw [e_1, e_2]; exact hD), hS, (lv_sub hl [0, 1, 2, 3, 4, 5, 6, 7, 8] rfl)⟩
    · skip
      refine lv_if_eq (tgt := 105) hx hb dX3_perform_84 (by decide) (fun c_3 => ?_) (fun c_3 => ?_)
      · skip
        have hP := hP.sub (ws' := [(qx, .inr (3, [.ref qR, .ref qC, .ref qI, .ref qM, .ref qT, .ref qO, .int rT, .int rL, .int rC, .int rIn, .int cyc, .int wai])), (qR, .inl (cI, 32, .inl (j_X3_perform_80_qR fR rL p0))), (qC, .inl (cI, 256, .inl fC)), (qI, .inl (cI, 1024, .inl fI)), (qM, .inr (0, [.ref qW, .int mar, .int rst])), (qW, .inl (cI, 1024, .inl fW)), (qT, .inr (2, [.ref qp, .ref qc, .ref qd, .ref qk, .int hand, .int hov, .int said])), (qp, .inl (cI, 16, .inl fp)), (qc, .inl (cI, 16, .inl fc)), (qd, .inl (cI, 16, .inl fd)), (qk, .inl (cZ, 16, .inl fk)), (qO, .inr (1, [.ref qo, .int kept, .int gone])), (qo, .inl (cI, 500, .inl fo))]) [0, 1, 2, 3, 4, 5, 6, 7, 8, 9, 10, 11, 12] rfl
        have hD := hD.sub (ws' := [(qx, .inr (3, [.ref qR, .ref qC, .ref qI, .ref qM, .ref qT, .ref qO, .int rT, .int rL, .int rC, .int rIn, .int cyc, .int wai])), (qR, .inl (cI, 32, .inl (j_X3_perform_80_qR fR rL p0))), (qC, .inl (cI, 256, .inl fC)), (qI, .inl (cI, 1024, .inl fI)), (qM, .inr (0, [.ref qW, .int mar, .int rst])), (qW, .inl (cI, 1024, .inl fW)), (qT, .inr (2, [.ref qp, .ref qc, .ref qd, .ref qk, .int hand, .int hov, .int said])), (qp, .inl (cI, 16, .inl fp)), (qc, .inl (cI, 16, .inl fc)), (qd, .inl (cI, 16, .inl fd)), (qk, .inl (cZ, 16, .inl fk)), (qO, .inr (1, [.ref qo, .int kept, .int gone])), (qo, .inl (cI, 500, .inl fo))]) [0, 1, 2, 3, 4, 5, 6, 7, 8, 9, 10, 11, 12] (by decide) rfl
        have e_1 : j_X3_perform_105_qx6 fR fC fW rT rL rC rIn mar hand p0 = rT := by simp only [j_X3_perform_105_qx6, if_pos c_3]
        exact J _ _ _ ⟨(by rw [e_1]; exact hP), (by rw [e_1]; exact hD), hS, (lv_sub hl [0, 1, 2, 3, 4, 5, 6, 7, 8] rfl)⟩
      · skip
        refine lv_aload_n hx hb dX3_perform_87 rfl (lv_at hl 7 rfl) ?_
        refine lv_iload_n hx hb dX3_perform_88 rfl (lv_at hl 6 rfl) ?_
        refine ctI_S (As := [.int ((p0 >>> (23 &&& 31)) &&& 15)]) (rest := [.ref qx]) (wc := []) (wr := [(qx, .inr (3, [.ref qR, .ref qC, .ref qI, .ref qM, .ref qT, .ref qO, .int rT, .int rL, .int rC, .int rIn, .int cyc, .int wai])), (qR, .inl (cI, 32, .inl (j_X3_perform_80_qR fR rL p0))), (qC, .inl (cI, 256, .inl fC)), (qI, .inl (cI, 1024, .inl fI)), (qM, .inr (0, [.ref qW, .int mar, .int rst])), (qW, .inl (cI, 1024, .inl fW)), (qT, .inr (2, [.ref qp, .ref qc, .ref qd, .ref qk, .int hand, .int hov, .int said])), (qp, .inl (cI, 16, .inl fp)), (qc, .inl (cI, 16, .inl fc)), (qd, .inl (cI, 16, .inl fd)), (qk, .inl (cZ, 16, .inl fk)), (qO, .inr (1, [.ref qo, .int kept, .int gone])), (qo, .inl (cI, 500, .inl fo))]) ⟨hx, hb, hml, hown, hts⟩ (c_X3_givesAluToT l D cI cZ ((p0 >>> (23 &&& 31)) &&& 15)) (cwS 1 hts (gd_S wm_X3_160 wt_X3_givesAluToT wz_X3 wo_X3_givesAluToT) rfl rfl rfl (by decide +kernel) ⟨Nat.le_of_ble_eq_true rfl, Nat.le_of_ble_eq_true rfl⟩) hK hP hD hS hA [] [0, 1, 2, 3, 4, 5, 6, 7, 8, 9, 10, 11, 12] rfl rfl (by decide) (by decide) (by decide) rfl rfl hl.1 (Nat.le_of_ble_eq_true rfl) dX3_perform_89 ⟨Nat.le_of_ble_eq_true rfl, Nat.le_of_ble_eq_true rfl⟩ (fun H locs hP hD hS => ?_)
        have hP : va_P D classes [(qx, .inr (3, [.ref qR, .ref qC, .ref qI, .ref qM, .ref qT, .ref qO, .int rT, .int rL, .int rC, .int rIn, .int cyc, .int wai])), (qR, .inl (cI, 32, .inl (j_X3_perform_80_qR fR rL p0))), (qC, .inl (cI, 256, .inl fC)), (qI, .inl (cI, 1024, .inl fI)), (qM, .inr (0, [.ref qW, .int mar, .int rst])), (qW, .inl (cI, 1024, .inl fW)), (qT, .inr (2, [.ref qp, .ref qc, .ref qd, .ref qk, .int hand, .int hov, .int said])), (qp, .inl (cI, 16, .inl fp)), (qc, .inl (cI, 16, .inl fc)), (qd, .inl (cI, 16, .inl fd)), (qk, .inl (cZ, 16, .inl fk)), (qO, .inr (1, [.ref qo, .int kept, .int gone])), (qo, .inl (cI, 500, .inl fo))] H := hP
        have hD : va_D A [(qx, .inr (3, [.ref qR, .ref qC, .ref qI, .ref qM, .ref qT, .ref qO, .int rT, .int rL, .int rC, .int rIn, .int cyc, .int wai])), (qR, .inl (cI, 32, .inl (j_X3_perform_80_qR fR rL p0))), (qC, .inl (cI, 256, .inl fC)), (qI, .inl (cI, 1024, .inl fI)), (qM, .inr (0, [.ref qW, .int mar, .int rst])), (qW, .inl (cI, 1024, .inl fW)), (qT, .inr (2, [.ref qp, .ref qc, .ref qd, .ref qk, .int hand, .int hov, .int said])), (qp, .inl (cI, 16, .inl fp)), (qc, .inl (cI, 16, .inl fc)), (qd, .inl (cI, 16, .inl fd)), (qk, .inl (cZ, 16, .inl fk)), (qO, .inr (1, [.ref qo, .int kept, .int gone])), (qo, .inl (cI, 500, .inl fo))] := hD
        refine lv_if_eq (tgt := 100) hx hb dX3_perform_92 (by decide) (fun c_4 => ?_) (fun c_4 => ?_)
        · skip
          refine lv_iload hx hb dX3_perform_100 (lv_at hl 3 rfl) ?_
          refine va_put (D := D) (ci := 3) (v := .int (k_X3_perform_bus fR fC fW rL rIn mar hand p0)) (ty := (.int)) (C := RX3) (T := TX3) (N := 12) hx hb hts ilX3 tyX3 tyX3_ok nmX3 hown hK hP hD hS 0 rfl rfl 6 (by decide) (hts _ wf_X3_69) (fun _ h9 => h9) rfl (by decide +kernel) rfl rfl (Nat.le_of_ble_eq_true rfl) dX3_perform_102 (fun H locs hP hD hS => ?_)
          have hP : va_P D classes [(qx, .inr (3, [.ref qR, .ref qC, .ref qI, .ref qM, .ref qT, .ref qO, .int (k_X3_perform_bus fR fC fW rL rIn mar hand p0), .int rL, .int rC, .int rIn, .int cyc, .int wai])), (qR, .inl (cI, 32, .inl (j_X3_perform_80_qR fR rL p0))), (qC, .inl (cI, 256, .inl fC)), (qI, .inl (cI, 1024, .inl fI)), (qM, .inr (0, [.ref qW, .int mar, .int rst])), (qW, .inl (cI, 1024, .inl fW)), (qT, .inr (2, [.ref qp, .ref qc, .ref qd, .ref qk, .int hand, .int hov, .int said])), (qp, .inl (cI, 16, .inl fp)), (qc, .inl (cI, 16, .inl fc)), (qd, .inl (cI, 16, .inl fd)), (qk, .inl (cZ, 16, .inl fk)), (qO, .inr (1, [.ref qo, .int kept, .int gone])), (qo, .inl (cI, 500, .inl fo))] H := hP
          have hD : va_D A [(qx, .inr (3, [.ref qR, .ref qC, .ref qI, .ref qM, .ref qT, .ref qO, .int (k_X3_perform_bus fR fC fW rL rIn mar hand p0), .int rL, .int rC, .int rIn, .int cyc, .int wai])), (qR, .inl (cI, 32, .inl (j_X3_perform_80_qR fR rL p0))), (qC, .inl (cI, 256, .inl fC)), (qI, .inl (cI, 1024, .inl fI)), (qM, .inr (0, [.ref qW, .int mar, .int rst])), (qW, .inl (cI, 1024, .inl fW)), (qT, .inr (2, [.ref qp, .ref qc, .ref qd, .ref qk, .int hand, .int hov, .int said])), (qp, .inl (cI, 16, .inl fp)), (qc, .inl (cI, 16, .inl fc)), (qd, .inl (cI, 16, .inl fd)), (qk, .inl (cZ, 16, .inl fk)), (qO, .inr (1, [.ref qo, .int kept, .int gone])), (qo, .inl (cI, 500, .inl fo))] := hD
          have hP := hP.sub (ws' := [(qx, .inr (3, [.ref qR, .ref qC, .ref qI, .ref qM, .ref qT, .ref qO, .int (k_X3_perform_bus fR fC fW rL rIn mar hand p0), .int rL, .int rC, .int rIn, .int cyc, .int wai])), (qR, .inl (cI, 32, .inl (j_X3_perform_80_qR fR rL p0))), (qC, .inl (cI, 256, .inl fC)), (qI, .inl (cI, 1024, .inl fI)), (qM, .inr (0, [.ref qW, .int mar, .int rst])), (qW, .inl (cI, 1024, .inl fW)), (qT, .inr (2, [.ref qp, .ref qc, .ref qd, .ref qk, .int hand, .int hov, .int said])), (qp, .inl (cI, 16, .inl fp)), (qc, .inl (cI, 16, .inl fc)), (qd, .inl (cI, 16, .inl fd)), (qk, .inl (cZ, 16, .inl fk)), (qO, .inr (1, [.ref qo, .int kept, .int gone])), (qo, .inl (cI, 500, .inl fo))]) [0, 1, 2, 3, 4, 5, 6, 7, 8, 9, 10, 11, 12] rfl
          have hD := hD.sub (ws' := [(qx, .inr (3, [.ref qR, .ref qC, .ref qI, .ref qM, .ref qT, .ref qO, .int (k_X3_perform_bus fR fC fW rL rIn mar hand p0), .int rL, .int rC, .int rIn, .int cyc, .int wai])), (qR, .inl (cI, 32, .inl (j_X3_perform_80_qR fR rL p0))), (qC, .inl (cI, 256, .inl fC)), (qI, .inl (cI, 1024, .inl fI)), (qM, .inr (0, [.ref qW, .int mar, .int rst])), (qW, .inl (cI, 1024, .inl fW)), (qT, .inr (2, [.ref qp, .ref qc, .ref qd, .ref qk, .int hand, .int hov, .int said])), (qp, .inl (cI, 16, .inl fp)), (qc, .inl (cI, 16, .inl fc)), (qd, .inl (cI, 16, .inl fd)), (qk, .inl (cZ, 16, .inl fk)), (qO, .inr (1, [.ref qo, .int kept, .int gone])), (qo, .inl (cI, 500, .inl fo))]) [0, 1, 2, 3, 4, 5, 6, 7, 8, 9, 10, 11, 12] (by decide) rfl
          have e_1 : j_X3_perform_105_qx6 fR fC fW rT rL rC rIn mar hand p0 = k_X3_perform_bus fR fC fW rL rIn mar hand p0 := by simp only [j_X3_perform_105_qx6, if_neg c_3, if_pos c_4]
          exact J _ _ _ ⟨(by rw [e_1]; exact hP), (by rw [e_1]; exact hD), hS, (lv_sub hl [0, 1, 2, 3, 4, 5, 6, 7, 8] rfl)⟩
        · skip
          refine lv_iload hx hb dX3_perform_95 (lv_at hl 1 rfl) ?_
          refine lv_goto (tgt := 102) hx hb dX3_perform_97 (by decide) ?_
          refine va_put (D := D) (ci := 3) (v := .int ((k_X3_perform_sum fR fC fW rT rL rC rIn mar hand p0) &&& 65535)) (ty := (.int)) (C := RX3) (T := TX3) (N := 12) hx hb hts ilX3 tyX3 tyX3_ok nmX3 hown hK hP hD hS 0 rfl rfl 6 (by decide) (hts _ wf_X3_69) (fun _ h9 => h9) rfl (by decide +kernel) rfl rfl (Nat.le_of_ble_eq_true rfl) dX3_perform_102 (fun H locs hP hD hS => ?_)
          have hP : va_P D classes [(qx, .inr (3, [.ref qR, .ref qC, .ref qI, .ref qM, .ref qT, .ref qO, .int ((k_X3_perform_sum fR fC fW rT rL rC rIn mar hand p0) &&& 65535), .int rL, .int rC, .int rIn, .int cyc, .int wai])), (qR, .inl (cI, 32, .inl (j_X3_perform_80_qR fR rL p0))), (qC, .inl (cI, 256, .inl fC)), (qI, .inl (cI, 1024, .inl fI)), (qM, .inr (0, [.ref qW, .int mar, .int rst])), (qW, .inl (cI, 1024, .inl fW)), (qT, .inr (2, [.ref qp, .ref qc, .ref qd, .ref qk, .int hand, .int hov, .int said])), (qp, .inl (cI, 16, .inl fp)), (qc, .inl (cI, 16, .inl fc)), (qd, .inl (cI, 16, .inl fd)), (qk, .inl (cZ, 16, .inl fk)), (qO, .inr (1, [.ref qo, .int kept, .int gone])), (qo, .inl (cI, 500, .inl fo))] H := hP
          have hD : va_D A [(qx, .inr (3, [.ref qR, .ref qC, .ref qI, .ref qM, .ref qT, .ref qO, .int ((k_X3_perform_sum fR fC fW rT rL rC rIn mar hand p0) &&& 65535), .int rL, .int rC, .int rIn, .int cyc, .int wai])), (qR, .inl (cI, 32, .inl (j_X3_perform_80_qR fR rL p0))), (qC, .inl (cI, 256, .inl fC)), (qI, .inl (cI, 1024, .inl fI)), (qM, .inr (0, [.ref qW, .int mar, .int rst])), (qW, .inl (cI, 1024, .inl fW)), (qT, .inr (2, [.ref qp, .ref qc, .ref qd, .ref qk, .int hand, .int hov, .int said])), (qp, .inl (cI, 16, .inl fp)), (qc, .inl (cI, 16, .inl fc)), (qd, .inl (cI, 16, .inl fd)), (qk, .inl (cZ, 16, .inl fk)), (qO, .inr (1, [.ref qo, .int kept, .int gone])), (qo, .inl (cI, 500, .inl fo))] := hD
          have hP := hP.sub (ws' := [(qx, .inr (3, [.ref qR, .ref qC, .ref qI, .ref qM, .ref qT, .ref qO, .int ((k_X3_perform_sum fR fC fW rT rL rC rIn mar hand p0) &&& 65535), .int rL, .int rC, .int rIn, .int cyc, .int wai])), (qR, .inl (cI, 32, .inl (j_X3_perform_80_qR fR rL p0))), (qC, .inl (cI, 256, .inl fC)), (qI, .inl (cI, 1024, .inl fI)), (qM, .inr (0, [.ref qW, .int mar, .int rst])), (qW, .inl (cI, 1024, .inl fW)), (qT, .inr (2, [.ref qp, .ref qc, .ref qd, .ref qk, .int hand, .int hov, .int said])), (qp, .inl (cI, 16, .inl fp)), (qc, .inl (cI, 16, .inl fc)), (qd, .inl (cI, 16, .inl fd)), (qk, .inl (cZ, 16, .inl fk)), (qO, .inr (1, [.ref qo, .int kept, .int gone])), (qo, .inl (cI, 500, .inl fo))]) [0, 1, 2, 3, 4, 5, 6, 7, 8, 9, 10, 11, 12] rfl
          have hD := hD.sub (ws' := [(qx, .inr (3, [.ref qR, .ref qC, .ref qI, .ref qM, .ref qT, .ref qO, .int ((k_X3_perform_sum fR fC fW rT rL rC rIn mar hand p0) &&& 65535), .int rL, .int rC, .int rIn, .int cyc, .int wai])), (qR, .inl (cI, 32, .inl (j_X3_perform_80_qR fR rL p0))), (qC, .inl (cI, 256, .inl fC)), (qI, .inl (cI, 1024, .inl fI)), (qM, .inr (0, [.ref qW, .int mar, .int rst])), (qW, .inl (cI, 1024, .inl fW)), (qT, .inr (2, [.ref qp, .ref qc, .ref qd, .ref qk, .int hand, .int hov, .int said])), (qp, .inl (cI, 16, .inl fp)), (qc, .inl (cI, 16, .inl fc)), (qd, .inl (cI, 16, .inl fd)), (qk, .inl (cZ, 16, .inl fk)), (qO, .inr (1, [.ref qo, .int kept, .int gone])), (qo, .inl (cI, 500, .inl fo))]) [0, 1, 2, 3, 4, 5, 6, 7, 8, 9, 10, 11, 12] (by decide) rfl
          have e_1 : j_X3_perform_105_qx6 fR fC fW rT rL rC rIn mar hand p0 = (k_X3_perform_sum fR fC fW rT rL rC rIn mar hand p0) &&& 65535 := by simp only [j_X3_perform_105_qx6, if_neg c_3, if_neg c_4]
          exact J _ _ _ ⟨(by rw [e_1]; exact hP), (by rw [e_1]; exact hD), hS, (lv_sub hl [0, 1, 2, 3, 4, 5, 6, 7, 8] rfl)⟩
  · skip
    refine lv_icmp_ne (tgt := 80) hx hb dX3_perform_59 (by decide) (fun c_5 => ?_) (fun c_5 => ?_)
    · skip
      have hP := hP.sub (ws' := [(qx, .inr (3, [.ref qR, .ref qC, .ref qI, .ref qM, .ref qT, .ref qO, .int rT, .int rL, .int rC, .int rIn, .int cyc, .int wai])), (qR, .inl (cI, 32, .inl fR)), (qC, .inl (cI, 256, .inl fC)), (qI, .inl (cI, 1024, .inl fI)), (qM, .inr (0, [.ref qW, .int mar, .int rst])), (qW, .inl (cI, 1024, .inl fW)), (qT, .inr (2, [.ref qp, .ref qc, .ref qd, .ref qk, .int hand, .int hov, .int said])), (qp, .inl (cI, 16, .inl fp)), (qc, .inl (cI, 16, .inl fc)), (qd, .inl (cI, 16, .inl fd)), (qk, .inl (cZ, 16, .inl fk)), (qO, .inr (1, [.ref qo, .int kept, .int gone])), (qo, .inl (cI, 500, .inl fo))]) [0, 1, 2, 3, 4, 5, 6, 7, 8, 9, 10, 11, 12] rfl
      have hD := hD.sub (ws' := [(qx, .inr (3, [.ref qR, .ref qC, .ref qI, .ref qM, .ref qT, .ref qO, .int rT, .int rL, .int rC, .int rIn, .int cyc, .int wai])), (qR, .inl (cI, 32, .inl fR)), (qC, .inl (cI, 256, .inl fC)), (qI, .inl (cI, 1024, .inl fI)), (qM, .inr (0, [.ref qW, .int mar, .int rst])), (qW, .inl (cI, 1024, .inl fW)), (qT, .inr (2, [.ref qp, .ref qc, .ref qd, .ref qk, .int hand, .int hov, .int said])), (qp, .inl (cI, 16, .inl fp)), (qc, .inl (cI, 16, .inl fc)), (qd, .inl (cI, 16, .inl fd)), (qk, .inl (cZ, 16, .inl fk)), (qO, .inr (1, [.ref qo, .int kept, .int gone])), (qo, .inl (cI, 500, .inl fo))]) [0, 1, 2, 3, 4, 5, 6, 7, 8, 9, 10, 11, 12] (by decide) rfl
      have e_1 : j_X3_perform_80_qR fR rL p0 = fR := by simp only [j_X3_perform_80_qR, if_neg c_5]
      exact J _ _ _ ⟨(by rw [e_1]; exact hP), (by rw [e_1]; exact hD), hS, (lv_sub hl [0, 1, 2, 3, 4, 5, 6, 7, 8] rfl)⟩
    · skip
      refine lv_iload_n hx hb dX3_perform_62 rfl (lv_at hl 8 rfl) ?_
      refine ctI_S (As := [.int p0]) (rest := []) (wc := []) (wr := [(qx, .inr (3, [.ref qR, .ref qC, .ref qI, .ref qM, .ref qT, .ref qO, .int rT, .int rL, .int rC, .int rIn, .int cyc, .int wai])), (qR, .inl (cI, 32, .inl fR)), (qC, .inl (cI, 256, .inl fC)), (qI, .inl (cI, 1024, .inl fI)), (qM, .inr (0, [.ref qW, .int mar, .int rst])), (qW, .inl (cI, 1024, .inl fW)), (qT, .inr (2, [.ref qp, .ref qc, .ref qd, .ref qk, .int hand, .int hov, .int said])), (qp, .inl (cI, 16, .inl fp)), (qc, .inl (cI, 16, .inl fc)), (qd, .inl (cI, 16, .inl fd)), (qk, .inl (cZ, 16, .inl fk)), (qO, .inr (1, [.ref qo, .int kept, .int gone])), (qo, .inl (cI, 500, .inl fo))]) ⟨hx, hb, hml, hown, hts⟩ (c_X3_hasConstant l D cI cZ p0) (cwS 1 hts (gd_S wm_X3_128 wt_X3_hasConstant wz_X3 wo_X3_hasConstant) rfl rfl rfl (by decide +kernel) ⟨Nat.le_of_ble_eq_true rfl, Nat.le_of_ble_eq_true rfl⟩) hK hP hD hS hA [] [0, 1, 2, 3, 4, 5, 6, 7, 8, 9, 10, 11, 12] rfl rfl (by decide) (by decide) (by decide) rfl rfl hl.1 (Nat.le_of_ble_eq_true rfl) dX3_perform_63 ⟨Nat.le_of_ble_eq_true rfl, Nat.le_of_ble_eq_true rfl⟩ (fun H locs hP hD hS => ?_)
      have hP : va_P D classes [(qx, .inr (3, [.ref qR, .ref qC, .ref qI, .ref qM, .ref qT, .ref qO, .int rT, .int rL, .int rC, .int rIn, .int cyc, .int wai])), (qR, .inl (cI, 32, .inl fR)), (qC, .inl (cI, 256, .inl fC)), (qI, .inl (cI, 1024, .inl fI)), (qM, .inr (0, [.ref qW, .int mar, .int rst])), (qW, .inl (cI, 1024, .inl fW)), (qT, .inr (2, [.ref qp, .ref qc, .ref qd, .ref qk, .int hand, .int hov, .int said])), (qp, .inl (cI, 16, .inl fp)), (qc, .inl (cI, 16, .inl fc)), (qd, .inl (cI, 16, .inl fd)), (qk, .inl (cZ, 16, .inl fk)), (qO, .inr (1, [.ref qo, .int kept, .int gone])), (qo, .inl (cI, 500, .inl fo))] H := hP
      have hD : va_D A [(qx, .inr (3, [.ref qR, .ref qC, .ref qI, .ref qM, .ref qT, .ref qO, .int rT, .int rL, .int rC, .int rIn, .int cyc, .int wai])), (qR, .inl (cI, 32, .inl fR)), (qC, .inl (cI, 256, .inl fC)), (qI, .inl (cI, 1024, .inl fI)), (qM, .inr (0, [.ref qW, .int mar, .int rst])), (qW, .inl (cI, 1024, .inl fW)), (qT, .inr (2, [.ref qp, .ref qc, .ref qd, .ref qk, .int hand, .int hov, .int said])), (qp, .inl (cI, 16, .inl fp)), (qc, .inl (cI, 16, .inl fc)), (qd, .inl (cI, 16, .inl fd)), (qk, .inl (cZ, 16, .inl fk)), (qO, .inr (1, [.ref qo, .int kept, .int gone])), (qo, .inl (cI, 500, .inl fo))] := hD
      refine lv_if_ne (tgt := 80) hx hb dX3_perform_66 (by decide) (fun c_6 => ?_) (fun c_6 => ?_)
      · skip
        have hP := hP.sub (ws' := [(qx, .inr (3, [.ref qR, .ref qC, .ref qI, .ref qM, .ref qT, .ref qO, .int rT, .int rL, .int rC, .int rIn, .int cyc, .int wai])), (qR, .inl (cI, 32, .inl fR)), (qC, .inl (cI, 256, .inl fC)), (qI, .inl (cI, 1024, .inl fI)), (qM, .inr (0, [.ref qW, .int mar, .int rst])), (qW, .inl (cI, 1024, .inl fW)), (qT, .inr (2, [.ref qp, .ref qc, .ref qd, .ref qk, .int hand, .int hov, .int said])), (qp, .inl (cI, 16, .inl fp)), (qc, .inl (cI, 16, .inl fc)), (qd, .inl (cI, 16, .inl fd)), (qk, .inl (cZ, 16, .inl fk)), (qO, .inr (1, [.ref qo, .int kept, .int gone])), (qo, .inl (cI, 500, .inl fo))]) [0, 1, 2, 3, 4, 5, 6, 7, 8, 9, 10, 11, 12] rfl
        have hD := hD.sub (ws' := [(qx, .inr (3, [.ref qR, .ref qC, .ref qI, .ref qM, .ref qT, .ref qO, .int rT, .int rL, .int rC, .int rIn, .int cyc, .int wai])), (qR, .inl (cI, 32, .inl fR)), (qC, .inl (cI, 256, .inl fC)), (qI, .inl (cI, 1024, .inl fI)), (qM, .inr (0, [.ref qW, .int mar, .int rst])), (qW, .inl (cI, 1024, .inl fW)), (qT, .inr (2, [.ref qp, .ref qc, .ref qd, .ref qk, .int hand, .int hov, .int said])), (qp, .inl (cI, 16, .inl fp)), (qc, .inl (cI, 16, .inl fc)), (qd, .inl (cI, 16, .inl fd)), (qk, .inl (cZ, 16, .inl fk)), (qO, .inr (1, [.ref qo, .int kept, .int gone])), (qo, .inl (cI, 500, .inl fo))]) [0, 1, 2, 3, 4, 5, 6, 7, 8, 9, 10, 11, 12] (by decide) rfl
        have e_1 : j_X3_perform_80_qR fR rL p0 = fR := by simp only [j_X3_perform_80_qR, if_pos c_5, if_neg c_6]
        exact J _ _ _ ⟨(by rw [e_1]; exact hP), (by rw [e_1]; exact hD), hS, (lv_sub hl [0, 1, 2, 3, 4, 5, 6, 7, 8] rfl)⟩
      · skip
        refine lv_aload_n hx hb dX3_perform_69 rfl (lv_at hl 7 rfl) ?_
        refine va_get (D := D) (ci := 3) (v := .ref qR) (C := RX3) (T := TX3) (N := 12) hx hb hts ilX3 hown hK hP 0 rfl rfl 0 (by decide) (hts _ wf_X3_9) (fun _ h9 => h9) rfl dX3_perform_70 ?_
        refine lv_iload_n hx hb dX3_perform_73 rfl (lv_at hl 8 rfl) ?_
        refine ctI_S (As := [.int p0]) (rest := [.ref qR]) (wc := []) (wr := [(qx, .inr (3, [.ref qR, .ref qC, .ref qI, .ref qM, .ref qT, .ref qO, .int rT, .int rL, .int rC, .int rIn, .int cyc, .int wai])), (qR, .inl (cI, 32, .inl fR)), (qC, .inl (cI, 256, .inl fC)), (qI, .inl (cI, 1024, .inl fI)), (qM, .inr (0, [.ref qW, .int mar, .int rst])), (qW, .inl (cI, 1024, .inl fW)), (qT, .inr (2, [.ref qp, .ref qc, .ref qd, .ref qk, .int hand, .int hov, .int said])), (qp, .inl (cI, 16, .inl fp)), (qc, .inl (cI, 16, .inl fc)), (qd, .inl (cI, 16, .inl fd)), (qk, .inl (cZ, 16, .inl fk)), (qO, .inr (1, [.ref qo, .int kept, .int gone])), (qo, .inl (cI, 500, .inl fo))]) ⟨hx, hb, hml, hown, hts⟩ (c_X3_rselOf l D cI cZ p0) (cwS 1 hts (gd_S wm_X3_154 wt_X3_rselOf wz_X3 wo_X3_rselOf) rfl rfl rfl (by decide +kernel) ⟨Nat.le_of_ble_eq_true rfl, Nat.le_of_ble_eq_true rfl⟩) hK hP hD hS hA [] [0, 1, 2, 3, 4, 5, 6, 7, 8, 9, 10, 11, 12] rfl rfl (by decide) (by decide) (by decide) rfl rfl hl.1 (Nat.le_of_ble_eq_true rfl) dX3_perform_74 ⟨Nat.le_of_ble_eq_true rfl, Nat.le_of_ble_eq_true rfl⟩ (fun H locs hP hD hS => ?_)
        have hP : va_P D classes [(qx, .inr (3, [.ref qR, .ref qC, .ref qI, .ref qM, .ref qT, .ref qO, .int rT, .int rL, .int rC, .int rIn, .int cyc, .int wai])), (qR, .inl (cI, 32, .inl fR)), (qC, .inl (cI, 256, .inl fC)), (qI, .inl (cI, 1024, .inl fI)), (qM, .inr (0, [.ref qW, .int mar, .int rst])), (qW, .inl (cI, 1024, .inl fW)), (qT, .inr (2, [.ref qp, .ref qc, .ref qd, .ref qk, .int hand, .int hov, .int said])), (qp, .inl (cI, 16, .inl fp)), (qc, .inl (cI, 16, .inl fc)), (qd, .inl (cI, 16, .inl fd)), (qk, .inl (cZ, 16, .inl fk)), (qO, .inr (1, [.ref qo, .int kept, .int gone])), (qo, .inl (cI, 500, .inl fo))] H := hP
        have hD : va_D A [(qx, .inr (3, [.ref qR, .ref qC, .ref qI, .ref qM, .ref qT, .ref qO, .int rT, .int rL, .int rC, .int rIn, .int cyc, .int wai])), (qR, .inl (cI, 32, .inl fR)), (qC, .inl (cI, 256, .inl fC)), (qI, .inl (cI, 1024, .inl fI)), (qM, .inr (0, [.ref qW, .int mar, .int rst])), (qW, .inl (cI, 1024, .inl fW)), (qT, .inr (2, [.ref qp, .ref qc, .ref qd, .ref qk, .int hand, .int hov, .int said])), (qp, .inl (cI, 16, .inl fp)), (qc, .inl (cI, 16, .inl fc)), (qd, .inl (cI, 16, .inl fd)), (qk, .inl (cZ, 16, .inl fk)), (qO, .inr (1, [.ref qo, .int kept, .int gone])), (qo, .inl (cI, 500, .inl fo))] := hD
        refine lv_iload hx hb dX3_perform_77 (lv_at hl 4 rfl) ?_
        refine va_iast hx hb hK hP hD hS 1 0 rfl rfl (vp_rsel _) dX3_perform_79 (fun H locs hP hD hS => ?_)
        have hP : va_P D classes [(qx, .inr (3, [.ref qR, .ref qC, .ref qI, .ref qM, .ref qT, .ref qO, .int rT, .int rL, .int rC, .int rIn, .int cyc, .int wai])), (qR, .inl (cI, 32, .inl (upd fR (Int32.toNatClampNeg (jushr p0 27)) (k_X3_perform_sh rL p0)))), (qC, .inl (cI, 256, .inl fC)), (qI, .inl (cI, 1024, .inl fI)), (qM, .inr (0, [.ref qW, .int mar, .int rst])), (qW, .inl (cI, 1024, .inl fW)), (qT, .inr (2, [.ref qp, .ref qc, .ref qd, .ref qk, .int hand, .int hov, .int said])), (qp, .inl (cI, 16, .inl fp)), (qc, .inl (cI, 16, .inl fc)), (qd, .inl (cI, 16, .inl fd)), (qk, .inl (cZ, 16, .inl fk)), (qO, .inr (1, [.ref qo, .int kept, .int gone])), (qo, .inl (cI, 500, .inl fo))] H := hP
        have hD : va_D A [(qx, .inr (3, [.ref qR, .ref qC, .ref qI, .ref qM, .ref qT, .ref qO, .int rT, .int rL, .int rC, .int rIn, .int cyc, .int wai])), (qR, .inl (cI, 32, .inl (upd fR (Int32.toNatClampNeg (jushr p0 27)) (k_X3_perform_sh rL p0)))), (qC, .inl (cI, 256, .inl fC)), (qI, .inl (cI, 1024, .inl fI)), (qM, .inr (0, [.ref qW, .int mar, .int rst])), (qW, .inl (cI, 1024, .inl fW)), (qT, .inr (2, [.ref qp, .ref qc, .ref qd, .ref qk, .int hand, .int hov, .int said])), (qp, .inl (cI, 16, .inl fp)), (qc, .inl (cI, 16, .inl fc)), (qd, .inl (cI, 16, .inl fd)), (qk, .inl (cZ, 16, .inl fk)), (qO, .inr (1, [.ref qo, .int kept, .int gone])), (qo, .inl (cI, 500, .inl fo))] := hD
        have hP := hP.sub (ws' := [(qx, .inr (3, [.ref qR, .ref qC, .ref qI, .ref qM, .ref qT, .ref qO, .int rT, .int rL, .int rC, .int rIn, .int cyc, .int wai])), (qR, .inl (cI, 32, .inl (upd fR (Int32.toNatClampNeg (jushr p0 27)) (k_X3_perform_sh rL p0)))), (qC, .inl (cI, 256, .inl fC)), (qI, .inl (cI, 1024, .inl fI)), (qM, .inr (0, [.ref qW, .int mar, .int rst])), (qW, .inl (cI, 1024, .inl fW)), (qT, .inr (2, [.ref qp, .ref qc, .ref qd, .ref qk, .int hand, .int hov, .int said])), (qp, .inl (cI, 16, .inl fp)), (qc, .inl (cI, 16, .inl fc)), (qd, .inl (cI, 16, .inl fd)), (qk, .inl (cZ, 16, .inl fk)), (qO, .inr (1, [.ref qo, .int kept, .int gone])), (qo, .inl (cI, 500, .inl fo))]) [0, 1, 2, 3, 4, 5, 6, 7, 8, 9, 10, 11, 12] rfl
        have hD := hD.sub (ws' := [(qx, .inr (3, [.ref qR, .ref qC, .ref qI, .ref qM, .ref qT, .ref qO, .int rT, .int rL, .int rC, .int rIn, .int cyc, .int wai])), (qR, .inl (cI, 32, .inl (upd fR (Int32.toNatClampNeg (jushr p0 27)) (k_X3_perform_sh rL p0)))), (qC, .inl (cI, 256, .inl fC)), (qI, .inl (cI, 1024, .inl fI)), (qM, .inr (0, [.ref qW, .int mar, .int rst])), (qW, .inl (cI, 1024, .inl fW)), (qT, .inr (2, [.ref qp, .ref qc, .ref qd, .ref qk, .int hand, .int hov, .int said])), (qp, .inl (cI, 16, .inl fp)), (qc, .inl (cI, 16, .inl fc)), (qd, .inl (cI, 16, .inl fd)), (qk, .inl (cZ, 16, .inl fk)), (qO, .inr (1, [.ref qo, .int kept, .int gone])), (qo, .inl (cI, 500, .inl fo))]) [0, 1, 2, 3, 4, 5, 6, 7, 8, 9, 10, 11, 12] (by decide) rfl
        have e_1 : j_X3_perform_80_qR fR rL p0 = upd fR (Int32.toNatClampNeg (jushr p0 27)) (k_X3_perform_sh rL p0) := by simp only [j_X3_perform_80_qR, if_pos c_5, if_pos c_6]
        exact J _ _ _ ⟨(by rw [e_1]; exact hP), (by rw [e_1]; exact hD), hS, (lv_sub hl [0, 1, 2, 3, 4, 5, 6, 7, 8] rfl)⟩
end
end
section
section
def k_X3_cycle_ins (fI : Nat → Int32) (fp : Nat → Int32) (hand : Int32) : Int32 := fI (Int32.toNatClampNeg (fp (Int32.toNatClampNeg hand)))
def z_X3_cycle_qx6 (fR : Nat → Int32) (fC : Nat → Int32) (fI : Nat → Int32) (fW : Nat → Int32) (fp : Nat → Int32) (rT : Int32) (rL : Int32) (rC : Int32) (rIn : Int32) (mar : Int32) (rst : Int32) (hand : Int32) : Int32 := (if (r_X3_mustWait rst (k_X3_cycle_ins fI fp hand)) = 0 then j_X3_perform_105_qx6 fR fC fW rT rL rC rIn mar hand (k_X3_cycle_ins fI fp hand) else rT)
def z_X3_cycle_qx7 (fR : Nat → Int32) (fC : Nat → Int32) (fI : Nat → Int32) (fW : Nat → Int32) (fp : Nat → Int32) (rT : Int32) (rL : Int32) (rC : Int32) (rIn : Int32) (mar : Int32) (rst : Int32) (hand : Int32) : Int32 := (if (r_X3_mustWait rst (k_X3_cycle_ins fI fp hand)) = 0 then j_X3_perform_127_qx7 fR fC fW rT rL rC rIn mar hand (k_X3_cycle_ins fI fp hand) else rL)
def z_X3_cycle_qx8 (fR : Nat → Int32) (fC : Nat → Int32) (fI : Nat → Int32) (fW : Nat → Int32) (fp : Nat → Int32) (rT : Int32) (rL : Int32) (rC : Int32) (rIn : Int32) (mar : Int32) (rst : Int32) (hand : Int32) : Int32 := (if (r_X3_mustWait rst (k_X3_cycle_ins fI fp hand)) = 0 then j_X3_perform_127_qx8 fR fC fW rT rL rC rIn mar hand (k_X3_cycle_ins fI fp hand) else rC)
def z_X3_cycle_qx11 (fI : Nat → Int32) (fp : Nat → Int32) (wai : Int32) (rst : Int32) (hand : Int32) : Int32 := (if (r_X3_mustWait rst (k_X3_cycle_ins fI fp hand)) = 0 then wai else wai + 1)
def z_X3_cycle_qR (fR : Nat → Int32) (fI : Nat → Int32) (fp : Nat → Int32) (rL : Int32) (rst : Int32) (hand : Int32) : Nat → Int32 := (if (r_X3_mustWait rst (k_X3_cycle_ins fI fp hand)) = 0 then j_X3_perform_80_qR fR rL (k_X3_cycle_ins fI fp hand) else fR)
def z_X3_cycle_qM1 (fR : Nat → Int32) (fC : Nat → Int32) (fI : Nat → Int32) (fW : Nat → Int32) (fp : Nat → Int32) (rT : Int32) (rL : Int32) (rC : Int32) (rIn : Int32) (mar : Int32) (rst : Int32) (hand : Int32) : Int32 := (if (r_X3_mustWait rst (k_X3_cycle_ins fI fp hand)) = 0 then z_X3_useMemory_qM1 mar (k_X3_cycle_ins fI fp hand) ((k_X3_perform_sum fR fC fW rT rL rC rIn mar hand (k_X3_cycle_ins fI fp hand)) &&& 65535) else mar)
def z_X3_cycle_qM2 (fI : Nat → Int32) (fp : Nat → Int32) (rst : Int32) (hand : Int32) : Int32 := (if (r_X3_mustWait rst (k_X3_cycle_ins fI fp hand)) = 0 then z_X0_rest_qM2 (z_X3_useMemory_qM2 rst (k_X3_cycle_ins fI fp hand)) else z_X0_rest_qM2 rst)
def z_X3_cycle_qW (fR : Nat → Int32) (fC : Nat → Int32) (fI : Nat → Int32) (fW : Nat → Int32) (fp : Nat → Int32) (rL : Int32) (rIn : Int32) (mar : Int32) (rst : Int32) (hand : Int32) : Nat → Int32 := (if (r_X3_mustWait rst (k_X3_cycle_ins fI fp hand)) = 0 then j_X3_useMemory_17_qW fW mar (k_X3_cycle_ins fI fp hand) (k_X3_perform_bus fR fC fW rL rIn mar hand (k_X3_cycle_ins fI fp hand)) else fW)
def z_X3_cycle_qT4 (fI : Nat → Int32) (fp : Nat → Int32) (fk : Nat → Int32) (rst : Int32) (hand : Int32) (said : Int32) : Int32 := (if (r_X3_mustWait rst (k_X3_cycle_ins fI fp hand)) = 0 then j_X2_goOn_80_qT4 fk hand said (((k_X3_cycle_ins fI fp hand) >>> (16 &&& 31)) &&& 15) else hand)
def z_X3_cycle_qT5 (fI : Nat → Int32) (fp : Nat → Int32) (fk : Nat → Int32) (rst : Int32) (hand : Int32) (hov : Int32) (said : Int32) : Int32 := (if (r_X3_mustWait rst (k_X3_cycle_ins fI fp hand)) = 0 then j_X2_goOn_80_qT5 fk hand hov said (((k_X3_cycle_ins fI fp hand) >>> (16 &&& 31)) &&& 15) else hov)
def z_X3_cycle_qT6 (fI : Nat → Int32) (fp : Nat → Int32) (rst : Int32) (hand : Int32) (said : Int32) : Int32 := (if (r_X3_mustWait rst (k_X3_cycle_ins fI fp hand)) = 0 then z_X2_goOn_qT6 (((k_X3_cycle_ins fI fp hand) >>> (16 &&& 31)) &&& 15) else said)
def z_X3_cycle_qp (fI : Nat → Int32) (fp : Nat → Int32) (fc : Nat → Int32) (rst : Int32) (hand : Int32) : Nat → Int32 := (if (r_X3_mustWait rst (k_X3_cycle_ins fI fp hand)) = 0 then upd fp (Int32.toNatClampNeg hand) (((k_X3_cycle_ins fI fp hand) &&& 1023) ||| (fc (Int32.toNatClampNeg hand))) else fp)
def z_X3_cycle_qc (fR : Nat → Int32) (fC : Nat → Int32) (fI : Nat → Int32) (fW : Nat → Int32) (fp : Nat → Int32) (fc : Nat → Int32) (rL : Int32) (rC : Int32) (rIn : Int32) (mar : Int32) (rst : Int32) (hand : Int32) : Nat → Int32 := (if (r_X3_mustWait rst (k_X3_cycle_ins fI fp hand)) = 0 then upd fc (Int32.toNatClampNeg hand) (k_X3_perform_chg fR fC fW rL rC rIn mar hand (k_X3_cycle_ins fI fp hand)) else fc)
def z_X3_cycle_qd (fI : Nat → Int32) (fp : Nat → Int32) (fd : Nat → Int32) (rst : Int32) (hand : Int32) : Nat → Int32 := (if (r_X3_mustWait rst (k_X3_cycle_ins fI fp hand)) = 0 then upd fd (Int32.toNatClampNeg hand) ((fd (Int32.toNatClampNeg hand)) + 1) else fd)
def z_X3_cycle_qk (fI : Nat → Int32) (fp : Nat → Int32) (fk : Nat → Int32) (rst : Int32) (hand : Int32) : Nat → Int32 := (if (r_X3_mustWait rst (k_X3_cycle_ins fI fp hand)) = 0 then j_X2_goOn_65_qk fk hand (((k_X3_cycle_ins fI fp hand) >>> (16 &&& 31)) &&& 15) else fk)
def z_X3_cycle_qO1 (fI : Nat → Int32) (fp : Nat → Int32) (rst : Int32) (hand : Int32) (kept : Int32) : Int32 := (if (r_X3_mustWait rst (k_X3_cycle_ins fI fp hand)) = 0 then j_X3_perform_151_qO1 kept (k_X3_cycle_ins fI fp hand) else kept)
def z_X3_cycle_qO2 (fI : Nat → Int32) (fp : Nat → Int32) (rst : Int32) (hand : Int32) (gone : Int32) : Int32 := (if (r_X3_mustWait rst (k_X3_cycle_ins fI fp hand)) = 0 then j_X3_perform_151_qO2 gone (k_X3_cycle_ins fI fp hand) else gone)
def z_X3_cycle_qo (fR : Nat → Int32) (fC : Nat → Int32) (fI : Nat → Int32) (fW : Nat → Int32) (fp : Nat → Int32) (fo : Nat → Int32) (rL : Int32) (rIn : Int32) (mar : Int32) (rst : Int32) (hand : Int32) (kept : Int32) : Nat → Int32 := (if (r_X3_mustWait rst (k_X3_cycle_ins fI fp hand)) = 0 then j_X3_perform_151_qo fR fC fW fo rL rIn mar hand kept (k_X3_cycle_ins fI fp hand) else fo)
def r_X3_cycle (fI : Nat → Int32) (fp : Nat → Int32) (rst : Int32) (hand : Int32) : Int32 := (if (r_X3_mustWait rst (k_X3_cycle_ins fI fp hand)) = 0 then 1 else 0)
set_option maxHeartbeats 4000000 in
set_option maxRecDepth 100000 in
theorem c_X3_cycle (l : Launch) (D : va_G) (cI cZ : ClassId) (qx : Nat) (qR : Nat) (qC : Nat) (qI : Nat) (qM : Nat) (qW : Nat) (qT : Nat) (qp : Nat) (qc : Nat) (qd : Nat) (qk : Nat) (qO : Nat) (qo : Nat) (fR : Nat → Int32) (fC : Nat → Int32) (fI : Nat → Int32) (fW : Nat → Int32) (fp : Nat → Int32) (fc : Nat → Int32) (fd : Nat → Int32) (fk : Nat → Int32) (fo : Nat → Int32) (rT : Int32) (rL : Int32) (rC : Int32) (rIn : Int32) (cyc : Int32) (wai : Int32) (mar : Int32) (rst : Int32) (hand : Int32) (hov : Int32) (said : Int32) (kept : Int32) (gone : Int32) (hh : vp_in hand 16) (hp : vp_in (fp (Int32.toNatClampNeg hand)) 1024) (hk0 : ¬ kept < 0) : CtI l D classes [(cI, .int), (cZ, .boolean)] yX3_cycle w_X3_cycle { frames := 4, cells := 0, slots := 0, locals := 91 } [.ref qx] [(qx, .inr (3, [.ref qR, .ref qC, .ref qI, .ref qM, .ref qT, .ref qO, .int rT, .int rL, .int rC, .int rIn, .int cyc, .int wai])), (qR, .inl (cI, 32, .inl fR)), (qC, .inl (cI, 256, .inl fC)), (qI, .inl (cI, 1024, .inl fI)), (qM, .inr (0, [.ref qW, .int mar, .int rst])), (qW, .inl (cI, 1024, .inl fW)), (qT, .inr (2, [.ref qp, .ref qc, .ref qd, .ref qk, .int hand, .int hov, .int said])), (qp, .inl (cI, 16, .inl fp)), (qc, .inl (cI, 16, .inl fc)), (qd, .inl (cI, 16, .inl fd)), (qk, .inl (cZ, 16, .inl fk)), (qO, .inr (1, [.ref qo, .int kept, .int gone])), (qo, .inl (cI, 500, .inl fo))] [(qx, .inr (3, [.ref qR, .ref qC, .ref qI, .ref qM, .ref qT, .ref qO, .int (z_X3_cycle_qx6 fR fC fI fW fp rT rL rC rIn mar rst hand), .int (z_X3_cycle_qx7 fR fC fI fW fp rT rL rC rIn mar rst hand), .int (z_X3_cycle_qx8 fR fC fI fW fp rT rL rC rIn mar rst hand), .int rIn, .int (cyc + 1), .int (z_X3_cycle_qx11 fI fp wai rst hand)])), (qR, .inl (cI, 32, .inl (z_X3_cycle_qR fR fI fp rL rst hand))), (qC, .inl (cI, 256, .inl fC)), (qI, .inl (cI, 1024, .inl fI)), (qM, .inr (0, [.ref qW, .int (z_X3_cycle_qM1 fR fC fI fW fp rT rL rC rIn mar rst hand), .int (z_X3_cycle_qM2 fI fp rst hand)])), (qW, .inl (cI, 1024, .inl (z_X3_cycle_qW fR fC fI fW fp rL rIn mar rst hand))), (qT, .inr (2, [.ref qp, .ref qc, .ref qd, .ref qk, .int (z_X3_cycle_qT4 fI fp fk rst hand said), .int (z_X3_cycle_qT5 fI fp fk rst hand hov said), .int (z_X3_cycle_qT6 fI fp rst hand said)])), (qp, .inl (cI, 16, .inl (z_X3_cycle_qp fI fp fc rst hand))), (qc, .inl (cI, 16, .inl (z_X3_cycle_qc fR fC fI fW fp fc rL rC rIn mar rst hand))), (qd, .inl (cI, 16, .inl (z_X3_cycle_qd fI fp fd rst hand))), (qk, .inl (cZ, 16, .inl (z_X3_cycle_qk fI fp fk rst hand))), (qO, .inr (1, [.ref qo, .int (z_X3_cycle_qO1 fI fp rst hand kept), .int (z_X3_cycle_qO2 fI fp rst hand gone)])), (qo, .inl (cI, 500, .inl (z_X3_cycle_qo fR fC fI fW fp fo rL rIn mar rst hand kept)))] (r_X3_cycle fI fp rst hand) := by
  refine CtI.mk (cc := cX3_cycle) (maxL := 3) (ret := (some .boolean)) (by decide) rfl (Nat.le_of_ble_eq_true rfl) ?_
  intro p e s m below meth c A hBeg ls hl
  obtain ⟨hx, hb, hr, hml, hts0, hown, hlocks, hin, hA, hK, hP, hD, hS⟩ := hBeg
  have hts := fun w h => hts0 w (List.mem_cons_of_mem _ h)
  have hown : s.vm.findClass RX3 = some m.cls := hown
  have hl : lv_has ls 3 [(0, .ref qx)] := hl
  skip
  refine lv_aload_n hx hb dX3_cycle_0 rfl (lv_at hl 0 rfl) ?_
  refine va_get (D := D) (ci := 3) (v := .ref qI) (C := RX3) (T := TX3) (N := 12) hx hb hts ilX3 hown hK hP 0 rfl rfl 2 (by decide) (hts _ wf_X3_16) (fun _ h9 => h9) rfl dX3_cycle_1 ?_
  refine lv_aload_n hx hb dX3_cycle_4 rfl (lv_at hl 0 rfl) ?_
  refine va_get (D := D) (ci := 3) (v := .ref qT) (C := RX3) (T := TX3) (N := 12) hx hb hts ilX3 hown hK hP 0 rfl rfl 4 (by decide) (hts _ wf_X3_29) (fun _ h9 => h9) rfl dX3_cycle_5 ?_
  refine va_get (D := D) (ci := 2) (v := .ref qp) (C := RX2) (T := TX2) (N := 7) hx hb hts ilX2 hown hK hP 6 rfl rfl 0 (by decide) (hts _ wf_X3_59) (fun _ h9 => h9) rfl dX3_cycle_8 ?_
  refine lv_aload_n hx hb dX3_cycle_11 rfl (lv_at hl 0 rfl) ?_
  refine va_get (D := D) (ci := 3) (v := .ref qT) (C := RX3) (T := TX3) (N := 12) hx hb hts ilX3 hown hK hP 0 rfl rfl 4 (by decide) (hts _ wf_X3_29) (fun _ h9 => h9) rfl dX3_cycle_12 ?_
  refine va_get (D := D) (ci := 2) (v := .int hand) (C := RX2) (T := TX2) (N := 7) hx hb hts ilX2 hown hK hP 6 rfl rfl 4 (by decide) (hts _ wf_X3_92) (fun _ h9 => h9) rfl dX3_cycle_15 ?_
  refine va_iald hx hb hK hP 7 0 rfl rfl hh dX3_cycle_18 ?_
  refine va_iald hx hb hK hP 3 0 rfl rfl hp dX3_cycle_19 ?_
  refine W.eq (g2 := F0 m 20 ls [.int (k_X3_cycle_ins fI fp hand)]) rfl ?_
  refine lv_istore_n (lv' := [(1, .int (k_X3_cycle_ins fI fp hand)), (0, .ref qx)]) hx hb dX3_cycle_20 rfl hl (by decide) rfl (fun ls hl => ?_)
  refine lv_aload_n hx hb dX3_cycle_21 rfl (lv_at hl 1 rfl) ?_
  refine lv_iload_n hx hb dX3_cycle_22 rfl (lv_at hl 0 rfl) ?_
  refine ctI_V (As := [.int (k_X3_cycle_ins fI fp hand)]) (rest := []) (wc := [(qx, .inr (3, [.ref qR, .ref qC, .ref qI, .ref qM, .ref qT, .ref qO, .int rT, .int rL, .int rC, .int rIn, .int cyc, .int wai])), (qR, .inl (cI, 32, .inl fR)), (qC, .inl (cI, 256, .inl fC)), (qI, .inl (cI, 1024, .inl fI)), (qM, .inr (0, [.ref qW, .int mar, .int rst])), (qW, .inl (cI, 1024, .inl fW)), (qT, .inr (2, [.ref qp, .ref qc, .ref qd, .ref qk, .int hand, .int hov, .int said])), (qp, .inl (cI, 16, .inl fp)), (qc, .inl (cI, 16, .inl fc)), (qd, .inl (cI, 16, .inl fd)), (qk, .inl (cZ, 16, .inl fk)), (qO, .inr (1, [.ref qo, .int kept, .int gone])), (qo, .inl (cI, 500, .inl fo))]) (wr := []) ⟨hx, hb, hml, hown, hts⟩ (c_X3_mustWait l D cI cZ qx qR qC qI qM qW qT qp qc qd qk qO qo fR fC fI fW fp fc fd fk fo rT rL rC rIn cyc wai mar rst hand hov said kept gone (k_X3_cycle_ins fI fp hand)) (cwV 1 hts (gd_V wm_X3_111 wi_X3_mustWait ws_X3_mustWait wz_X3 wo_X3_mustWait) rfl rfl rfl (by decide +kernel) ⟨Nat.le_of_ble_eq_true rfl, Nat.le_of_ble_eq_true rfl⟩) hK hP hD hS hA 0 rfl rfl rfl [0, 1, 2, 3, 4, 5, 6, 7, 8, 9, 10, 11, 12] [] rfl rfl (by decide) (by decide) (by decide) rfl rfl hl.1 (Nat.le_of_ble_eq_true rfl) dX3_cycle_23 ⟨Nat.le_of_ble_eq_true rfl, Nat.le_of_ble_eq_true rfl⟩ (fun H locs hP hD hS => ?_)
  have hP : va_P D classes [(qx, .inr (3, [.ref qR, .ref qC, .ref qI, .ref qM, .ref qT, .ref qO, .int rT, .int rL, .int rC, .int rIn, .int cyc, .int wai])), (qR, .inl (cI, 32, .inl fR)), (qC, .inl (cI, 256, .inl fC)), (qI, .inl (cI, 1024, .inl fI)), (qM, .inr (0, [.ref qW, .int mar, .int rst])), (qW, .inl (cI, 1024, .inl fW)), (qT, .inr (2, [.ref qp, .ref qc, .ref qd, .ref qk, .int hand, .int hov, .int said])), (qp, .inl (cI, 16, .inl fp)), (qc, .inl (cI, 16, .inl fc)), (qd, .inl (cI, 16, .inl fd)), (qk, .inl (cZ, 16, .inl fk)), (qO, .inr (1, [.ref qo, .int kept, .int gone])), (qo, .inl (cI, 500, .inl fo))] H := hP
  have hD : va_D A [(qx, .inr (3, [.ref qR, .ref qC, .ref qI, .ref qM, .ref qT, .ref qO, .int rT, .int rL, .int rC, .int rIn, .int cyc, .int wai])), (qR, .inl (cI, 32, .inl fR)), (qC, .inl (cI, 256, .inl fC)), (qI, .inl (cI, 1024, .inl fI)), (qM, .inr (0, [.ref qW, .int mar, .int rst])), (qW, .inl (cI, 1024, .inl fW)), (qT, .inr (2, [.ref qp, .ref qc, .ref qd, .ref qk, .int hand, .int hov, .int said])), (qp, .inl (cI, 16, .inl fp)), (qc, .inl (cI, 16, .inl fc)), (qd, .inl (cI, 16, .inl fd)), (qk, .inl (cZ, 16, .inl fk)), (qO, .inr (1, [.ref qo, .int kept, .int gone])), (qo, .inl (cI, 500, .inl fo))] := hD
  refine lv_if_ne (tgt := 33) hx hb dX3_cycle_26 (by decide) (fun c_1 => ?_) (fun c_1 => ?_)
  · skip
    refine lv_iconst (v := 0) hx hb dX3_cycle_33 (by decide) ?_
    refine lv_istore_n (lv' := [(2, .int 0), (1, .int (k_X3_cycle_ins fI fp hand)), (0, .ref qx)]) hx hb dX3_cycle_34 rfl hl (by decide) rfl (fun ls hl => ?_)
    refine lv_iload_n hx hb dX3_cycle_35 rfl (lv_at hl 0 rfl) ?_
    refine lv_if_eq (tgt := 47) hx hb dX3_cycle_36 (by decide) (fun c_2 => ?_) (fun c_2 => ?_)
    · skip
      refine lv_aload_n hx hb dX3_cycle_47 rfl (lv_at hl 2 rfl) ?_
      refine lv_dup hx hb dX3_cycle_48 rfl ?_
      refine va_get (D := D) (ci := 3) (v := .int wai) (C := RX3) (T := TX3) (N := 12) hx hb hts ilX3 hown hK hP 0 rfl rfl 11 (by decide) (hts _ wf_X3_102) (fun _ h9 => h9) rfl dX3_cycle_49 ?_
      refine lv_iconst (v := 1) hx hb dX3_cycle_52 (by decide) ?_
      refine lv_iadd hx hb dX3_cycle_53 ?_
      refine va_put (D := D) (ci := 3) (v := .int (wai + 1)) (ty := (.int)) (C := RX3) (T := TX3) (N := 12) hx hb hts ilX3 tyX3 tyX3_ok nmX3 hown hK hP hD hS 0 rfl rfl 11 (by decide) (hts _ wf_X3_102) (fun _ h9 => h9) rfl (by decide +kernel) rfl rfl (Nat.le_of_ble_eq_true rfl) dX3_cycle_54 (fun H locs hP hD hS => ?_)
      have hP : va_P D classes [(qx, .inr (3, [.ref qR, .ref qC, .ref qI, .ref qM, .ref qT, .ref qO, .int rT, .int rL, .int rC, .int rIn, .int cyc, .int (wai + 1)])), (qR, .inl (cI, 32, .inl fR)), (qC, .inl (cI, 256, .inl fC)), (qI, .inl (cI, 1024, .inl fI)), (qM, .inr (0, [.ref qW, .int mar, .int rst])), (qW, .inl (cI, 1024, .inl fW)), (qT, .inr (2, [.ref qp, .ref qc, .ref qd, .ref qk, .int hand, .int hov, .int said])), (qp, .inl (cI, 16, .inl fp)), (qc, .inl (cI, 16, .inl fc)), (qd, .inl (cI, 16, .inl fd)), (qk, .inl (cZ, 16, .inl fk)), (qO, .inr (1, [.ref qo, .int kept, .int gone])), (qo, .inl (cI, 500, .inl fo))] H := hP
      have hD : va_D A [(qx, .inr (3, [.ref qR, .ref qC, .ref qI, .ref qM, .ref qT, .ref qO, .int rT, .int rL, .int rC, .int rIn, .int cyc, .int (wai + 1)])), (qR, .inl (cI, 32, .inl fR)), (qC, .inl (cI, 256, .inl fC)), (qI, .inl (cI, 1024, .inl fI)), (qM, .inr (0, [.ref qW, .int mar, .int rst])), (qW, .inl (cI, 1024, .inl fW)), (qT, .inr (2, [.ref qp, .ref qc, .ref qd, .ref qk, .int hand, .int hov, .int said])), (qp, .inl (cI, 16, .inl fp)), (qc, .inl (cI, 16, .inl fc)), (qd, .inl (cI, 16, .inl fd)), (qk, .inl (cZ, 16, .inl fk)), (qO, .inr (1, [.ref qo, .int kept, .int gone])), (qo, .inl (cI, 500, .inl fo))] := hD
      refine lv_aload_n hx hb dX3_cycle_57 rfl (lv_at hl 2 rfl) ?_
      refine va_get (D := D) (ci := 3) (v := .ref qM) (C := RX3) (T := TX3) (N := 12) hx hb hts ilX3 hown hK hP 0 rfl rfl 3 (by decide) (hts _ wf_X3_22) (fun _ h9 => h9) rfl dX3_cycle_58 ?_
      refine ctV_V (As := []) (rest := []) (wc := [(qM, .inr (0, [.ref qW, .int mar, .int rst])), (qW, .inl (cI, 1024, .inl fW))]) (wr := [(qx, .inr (3, [.ref qR, .ref qC, .ref qI, .ref qM, .ref qT, .ref qO, .int rT, .int rL, .int rC, .int rIn, .int cyc, .int (wai + 1)])), (qR, .inl (cI, 32, .inl fR)), (qC, .inl (cI, 256, .inl fC)), (qI, .inl (cI, 1024, .inl fI)), (qT, .inr (2, [.ref qp, .ref qc, .ref qd, .ref qk, .int hand, .int hov, .int said])), (qp, .inl (cI, 16, .inl fp)), (qc, .inl (cI, 16, .inl fc)), (qd, .inl (cI, 16, .inl fd)), (qk, .inl (cZ, 16, .inl fk)), (qO, .inr (1, [.ref qo, .int kept, .int gone])), (qo, .inl (cI, 500, .inl fo))]) ⟨hx, hb, hml, hown, hts⟩ (c_X0_rest l D cI cZ qM qW fW mar rst) (cwV 0 hts (gd_V wm_X3_118 wi_X0_rest ws_X0_rest wz_X0 wo_X0_rest) rfl rfl rfl (by decide +kernel) ⟨Nat.le_of_ble_eq_true rfl, Nat.le_of_ble_eq_true rfl⟩) hK hP hD hS hA 4 rfl rfl rfl [4, 5] [0, 1, 2, 3, 6, 7, 8, 9, 10, 11, 12] rfl rfl (by decide) (by decide) (by decide) rfl rfl hl.1 (Nat.le_of_ble_eq_true rfl) dX3_cycle_61 ⟨Nat.le_of_ble_eq_true rfl, Nat.le_of_ble_eq_true rfl⟩ (fun u H locs hP hD hS => ?_)
      have hP : va_P D classes [(qx, .inr (3, [.ref qR, .ref qC, .ref qI, .ref qM, .ref qT, .ref qO, .int rT, .int rL, .int rC, .int rIn, .int cyc, .int (wai + 1)])), (qR, .inl (cI, 32, .inl fR)), (qC, .inl (cI, 256, .inl fC)), (qI, .inl (cI, 1024, .inl fI)), (qT, .inr (2, [.ref qp, .ref qc, .ref qd, .ref qk, .int hand, .int hov, .int said])), (qp, .inl (cI, 16, .inl fp)), (qc, .inl (cI, 16, .inl fc)), (qd, .inl (cI, 16, .inl fd)), (qk, .inl (cZ, 16, .inl fk)), (qO, .inr (1, [.ref qo, .int kept, .int gone])), (qo, .inl (cI, 500, .inl fo)), (qM, .inr (0, [.ref qW, .int mar, .int (z_X0_rest_qM2 rst)])), (qW, .inl (cI, 1024, .inl fW))] H := hP
      have hD : va_D A [(qx, .inr (3, [.ref qR, .ref qC, .ref qI, .ref qM, .ref qT, .ref qO, .int rT, .int rL, .int rC, .int rIn, .int cyc, .int (wai + 1)])), (qR, .inl (cI, 32, .inl fR)), (qC, .inl (cI, 256, .inl fC)), (qI, .inl (cI, 1024, .inl fI)), (qT, .inr (2, [.ref qp, .ref qc, .ref qd, .ref qk, .int hand, .int hov, .int said])), (qp, .inl (cI, 16, .inl fp)), (qc, .inl (cI, 16, .inl fc)), (qd, .inl (cI, 16, .inl fd)), (qk, .inl (cZ, 16, .inl fk)), (qO, .inr (1, [.ref qo, .int kept, .int gone])), (qo, .inl (cI, 500, .inl fo)), (qM, .inr (0, [.ref qW, .int mar, .int (z_X0_rest_qM2 rst)])), (qW, .inl (cI, 1024, .inl fW))] := hD
      refine lv_aload_n hx hb dX3_cycle_64 rfl (lv_at hl 2 rfl) ?_
      refine lv_dup hx hb dX3_cycle_65 rfl ?_
      refine va_get (D := D) (ci := 3) (v := .int cyc) (C := RX3) (T := TX3) (N := 12) hx hb hts ilX3 hown hK hP 0 rfl rfl 10 (by decide) (hts _ wf_X3_99) (fun _ h9 => h9) rfl dX3_cycle_66 ?_
      refine lv_iconst (v := 1) hx hb dX3_cycle_69 (by decide) ?_
      refine lv_iadd hx hb dX3_cycle_70 ?_
      refine va_put (D := D) (ci := 3) (v := .int (cyc + 1)) (ty := (.int)) (C := RX3) (T := TX3) (N := 12) hx hb hts ilX3 tyX3 tyX3_ok nmX3 hown hK hP hD hS 0 rfl rfl 10 (by decide) (hts _ wf_X3_99) (fun _ h9 => h9) rfl (by decide +kernel) rfl rfl (Nat.le_of_ble_eq_true rfl) dX3_cycle_71 (fun H locs hP hD hS => ?_)
      have hP : va_P D classes [(qx, .inr (3, [.ref qR, .ref qC, .ref qI, .ref qM, .ref qT, .ref qO, .int rT, .int rL, .int rC, .int rIn, .int (cyc + 1), .int (wai + 1)])), (qR, .inl (cI, 32, .inl fR)), (qC, .inl (cI, 256, .inl fC)), (qI, .inl (cI, 1024, .inl fI)), (qT, .inr (2, [.ref qp, .ref qc, .ref qd, .ref qk, .int hand, .int hov, .int said])), (qp, .inl (cI, 16, .inl fp)), (qc, .inl (cI, 16, .inl fc)), (qd, .inl (cI, 16, .inl fd)), (qk, .inl (cZ, 16, .inl fk)), (qO, .inr (1, [.ref qo, .int kept, .int gone])), (qo, .inl (cI, 500, .inl fo)), (qM, .inr (0, [.ref qW, .int mar, .int (z_X0_rest_qM2 rst)])), (qW, .inl (cI, 1024, .inl fW))] H := hP
      have hD : va_D A [(qx, .inr (3, [.ref qR, .ref qC, .ref qI, .ref qM, .ref qT, .ref qO, .int rT, .int rL, .int rC, .int rIn, .int (cyc + 1), .int (wai + 1)])), (qR, .inl (cI, 32, .inl fR)), (qC, .inl (cI, 256, .inl fC)), (qI, .inl (cI, 1024, .inl fI)), (qT, .inr (2, [.ref qp, .ref qc, .ref qd, .ref qk, .int hand, .int hov, .int said])), (qp, .inl (cI, 16, .inl fp)), (qc, .inl (cI, 16, .inl fc)), (qd, .inl (cI, 16, .inl fd)), (qk, .inl (cZ, 16, .inl fk)), (qO, .inr (1, [.ref qo, .int kept, .int gone])), (qo, .inl (cI, 500, .inl fo)), (qM, .inr (0, [.ref qW, .int mar, .int (z_X0_rest_qM2 rst)])), (qW, .inl (cI, 1024, .inl fW))] := hD
      refine lv_iload_n hx hb dX3_cycle_74 rfl (lv_at hl 0 rfl) ?_
      have hP := hP.sub (ws' := [(qx, .inr (3, [.ref qR, .ref qC, .ref qI, .ref qM, .ref qT, .ref qO, .int rT, .int rL, .int rC, .int rIn, .int (cyc + 1), .int (wai + 1)])), (qR, .inl (cI, 32, .inl fR)), (qC, .inl (cI, 256, .inl fC)), (qI, .inl (cI, 1024, .inl fI)), (qM, .inr (0, [.ref qW, .int mar, .int (z_X0_rest_qM2 rst)])), (qW, .inl (cI, 1024, .inl fW)), (qT, .inr (2, [.ref qp, .ref qc, .ref qd, .ref qk, .int hand, .int hov, .int said])), (qp, .inl (cI, 16, .inl fp)), (qc, .inl (cI, 16, .inl fc)), (qd, .inl (cI, 16, .inl fd)), (qk, .inl (cZ, 16, .inl fk)), (qO, .inr (1, [.ref qo, .int kept, .int gone])), (qo, .inl (cI, 500, .inl fo))]) [0, 1, 2, 3, 11, 12, 4, 5, 6, 7, 8, 9, 10] rfl
      have hD := hD.sub (ws' := [(qx, .inr (3, [.ref qR, .ref qC, .ref qI, .ref qM, .ref qT, .ref qO, .int rT, .int rL, .int rC, .int rIn, .int (cyc + 1), .int (wai + 1)])), (qR, .inl (cI, 32, .inl fR)), (qC, .inl (cI, 256, .inl fC)), (qI, .inl (cI, 1024, .inl fI)), (qM, .inr (0, [.ref qW, .int mar, .int (z_X0_rest_qM2 rst)])), (qW, .inl (cI, 1024, .inl fW)), (qT, .inr (2, [.ref qp, .ref qc, .ref qd, .ref qk, .int hand, .int hov, .int said])), (qp, .inl (cI, 16, .inl fp)), (qc, .inl (cI, 16, .inl fc)), (qd, .inl (cI, 16, .inl fd)), (qk, .inl (cZ, 16, .inl fk)), (qO, .inr (1, [.ref qo, .int kept, .int gone])), (qo, .inl (cI, 500, .inl fo))]) [0, 1, 2, 3, 11, 12, 4, 5, 6, 7, 8, 9, 10] (by decide) rfl
      have e_1 : z_X3_cycle_qx6 fR fC fI fW fp rT rL rC rIn mar rst hand = rT := by simp only [z_X3_cycle_qx6, if_neg c_1]
      have e_2 : z_X3_cycle_qx7 fR fC fI fW fp rT rL rC rIn mar rst hand = rL := by simp only [z_X3_cycle_qx7, if_neg c_1]
      have e_3 : z_X3_cycle_qx8 fR fC fI fW fp rT rL rC rIn mar rst hand = rC := by simp only [z_X3_cycle_qx8, if_neg c_1]
      have e_4 : z_X3_cycle_qx11 fI fp wai rst hand = wai + 1 := by simp only [z_X3_cycle_qx11, if_neg c_1]
      have e_5 : z_X3_cycle_qR fR fI fp rL rst hand = fR := by simp only [z_X3_cycle_qR, if_neg c_1]
      have e_6 : z_X3_cycle_qM1 fR fC fI fW fp rT rL rC rIn mar rst hand = mar := by simp only [z_X3_cycle_qM1, if_neg c_1]
      have e_7 : z_X3_cycle_qM2 fI fp rst hand = z_X0_rest_qM2 rst := by simp only [z_X3_cycle_qM2, if_neg c_1]
      have e_8 : z_X3_cycle_qW fR fC fI fW fp rL rIn mar rst hand = fW := by simp only [z_X3_cycle_qW, if_neg c_1]
      have e_9 : z_X3_cycle_qT4 fI fp fk rst hand said = hand := by simp only [z_X3_cycle_qT4, if_neg c_1]
      have e_10 : z_X3_cycle_qT5 fI fp fk rst hand hov said = hov := by simp only [z_X3_cycle_qT5, if_neg c_1]
      have e_11 : z_X3_cycle_qT6 fI fp rst hand said = said := by simp only [z_X3_cycle_qT6, if_neg c_1]
      have e_12 : z_X3_cycle_qp fI fp fc rst hand = fp := by simp only [z_X3_cycle_qp, if_neg c_1]
      have e_13 : z_X3_cycle_qc fR fC fI fW fp fc rL rC rIn mar rst hand = fc := by simp only [z_X3_cycle_qc, if_neg c_1]
      have e_14 : z_X3_cycle_qd fI fp fd rst hand = fd := by simp only [z_X3_cycle_qd, if_neg c_1]
      have e_15 : z_X3_cycle_qk fI fp fk rst hand = fk := by simp only [z_X3_cycle_qk, if_neg c_1]
      have e_16 : z_X3_cycle_qO1 fI fp rst hand kept = kept := by simp only [z_X3_cycle_qO1, if_neg c_1]
      have e_17 : z_X3_cycle_qO2 fI fp rst hand gone = gone := by simp only [z_X3_cycle_qO2, if_neg c_1]
      have e_18 : z_X3_cycle_qo fR fC fI fW fp fo rL rIn mar rst hand kept = fo := by simp only [z_X3_cycle_qo, if_neg c_1]
      have e_19 : r_X3_cycle fI fp rst hand = 0 := by simp only [r_X3_cycle, if_neg c_1]
      exact ct_zret hx hb hr hlocks hP hD hS (by rw [e_1, e_2, e_3, e_4, e_5, e_6, e_7, e_8, e_9, e_10, e_11, e_12, e_13, e_14, e_15, e_16, e_17, e_18]) (by rw [e_19]) (Or.inl rfl) dX3_cycle_75
    · exact absurd c_2 (by decide)
  · skip
    refine lv_iconst (v := 1) hx hb dX3_cycle_29 (by decide) ?_
    refine lv_goto (tgt := 34) hx hb dX3_cycle_30 (by decide) ?_
    refine lv_istore_n (lv' := [(2, .int 1), (1, .int (k_X3_cycle_ins fI fp hand)), (0, .ref qx)]) hx hb dX3_cycle_34 rfl hl (by decide) rfl (fun ls hl => ?_)
    refine lv_iload_n hx hb dX3_cycle_35 rfl (lv_at hl 0 rfl) ?_
    refine lv_if_eq (tgt := 47) hx hb dX3_cycle_36 (by decide) (fun c_3 => ?_) (fun c_3 => ?_)
    · exact absurd c_3 (by decide)
    · skip
      refine lv_aload_n hx hb dX3_cycle_39 rfl (lv_at hl 2 rfl) ?_
      refine lv_iload_n hx hb dX3_cycle_40 rfl (lv_at hl 1 rfl) ?_
      refine ctV_V (As := [.int (k_X3_cycle_ins fI fp hand)]) (rest := []) (wc := [(qx, .inr (3, [.ref qR, .ref qC, .ref qI, .ref qM, .ref qT, .ref qO, .int rT, .int rL, .int rC, .int rIn, .int cyc, .int wai])), (qR, .inl (cI, 32, .inl fR)), (qC, .inl (cI, 256, .inl fC)), (qI, .inl (cI, 1024, .inl fI)), (qM, .inr (0, [.ref qW, .int mar, .int rst])), (qW, .inl (cI, 1024, .inl fW)), (qT, .inr (2, [.ref qp, .ref qc, .ref qd, .ref qk, .int hand, .int hov, .int said])), (qp, .inl (cI, 16, .inl fp)), (qc, .inl (cI, 16, .inl fc)), (qd, .inl (cI, 16, .inl fd)), (qk, .inl (cZ, 16, .inl fk)), (qO, .inr (1, [.ref qo, .int kept, .int gone])), (qo, .inl (cI, 500, .inl fo))]) (wr := []) ⟨hx, hb, hml, hown, hts⟩ (c_X3_perform l D cI cZ qx qR qC qI qM qW qT qp qc qd qk qO qo fR fC fI fW fp fc fd fk fo rT rL rC rIn cyc wai mar rst hand hov said kept gone (k_X3_cycle_ins fI fp hand) hh hk0) (cwV 1 hts (gd_V wm_X3_114 wi_X3_perform ws_X3_perform wz_X3 wo_X3_perform) rfl rfl rfl (by decide +kernel) ⟨Nat.le_of_ble_eq_true rfl, Nat.le_of_ble_eq_true rfl⟩) hK hP hD hS hA 0 rfl rfl rfl [0, 1, 2, 3, 4, 5, 6, 7, 8, 9, 10, 11, 12] [] rfl rfl (by decide) (by decide) (by decide) rfl rfl hl.1 (Nat.le_of_ble_eq_true rfl) dX3_cycle_41 ⟨Nat.le_of_ble_eq_true rfl, Nat.le_of_ble_eq_true rfl⟩ (fun u H locs hP hD hS => ?_)
      have hP : va_P D classes [(qx, .inr (3, [.ref qR, .ref qC, .ref qI, .ref qM, .ref qT, .ref qO, .int (j_X3_perform_105_qx6 fR fC fW rT rL rC rIn mar hand (k_X3_cycle_ins fI fp hand)), .int (j_X3_perform_127_qx7 fR fC fW rT rL rC rIn mar hand (k_X3_cycle_ins fI fp hand)), .int (j_X3_perform_127_qx8 fR fC fW rT rL rC rIn mar hand (k_X3_cycle_ins fI fp hand)), .int rIn, .int cyc, .int wai])), (qR, .inl (cI, 32, .inl (j_X3_perform_80_qR fR rL (k_X3_cycle_ins fI fp hand)))), (qC, .inl (cI, 256, .inl fC)), (qI, .inl (cI, 1024, .inl fI)), (qM, .inr (0, [.ref qW, .int (z_X3_useMemory_qM1 mar (k_X3_cycle_ins fI fp hand) ((k_X3_perform_sum fR fC fW rT rL rC rIn mar hand (k_X3_cycle_ins fI fp hand)) &&& 65535)), .int (z_X3_useMemory_qM2 rst (k_X3_cycle_ins fI fp hand))])), (qW, .inl (cI, 1024, .inl (j_X3_useMemory_17_qW fW mar (k_X3_cycle_ins fI fp hand) (k_X3_perform_bus fR fC fW rL rIn mar hand (k_X3_cycle_ins fI fp hand))))), (qT, .inr (2, [.ref qp, .ref qc, .ref qd, .ref qk, .int (j_X2_goOn_80_qT4 fk hand said (((k_X3_cycle_ins fI fp hand) >>> (16 &&& 31)) &&& 15)), .int (j_X2_goOn_80_qT5 fk hand hov said (((k_X3_cycle_ins fI fp hand) >>> (16 &&& 31)) &&& 15)), .int (z_X2_goOn_qT6 (((k_X3_cycle_ins fI fp hand) >>> (16 &&& 31)) &&& 15))])), (qp, .inl (cI, 16, .inl (upd fp (Int32.toNatClampNeg hand) (((k_X3_cycle_ins fI fp hand) &&& 1023) ||| (fc (Int32.toNatClampNeg hand)))))), (qc, .inl (cI, 16, .inl (upd fc (Int32.toNatClampNeg hand) (k_X3_perform_chg fR fC fW rL rC rIn mar hand (k_X3_cycle_ins fI fp hand))))), (qd, .inl (cI, 16, .inl (upd fd (Int32.toNatClampNeg hand) ((fd (Int32.toNatClampNeg hand)) + 1)))), (qk, .inl (cZ, 16, .inl (j_X2_goOn_65_qk fk hand (((k_X3_cycle_ins fI fp hand) >>> (16 &&& 31)) &&& 15)))), (qO, .inr (1, [.ref qo, .int (j_X3_perform_151_qO1 kept (k_X3_cycle_ins fI fp hand)), .int (j_X3_perform_151_qO2 gone (k_X3_cycle_ins fI fp hand))])), (qo, .inl (cI, 500, .inl (j_X3_perform_151_qo fR fC fW fo rL rIn mar hand kept (k_X3_cycle_ins fI fp hand))))] H := hP
      have hD : va_D A [(qx, .inr (3, [.ref qR, .ref qC, .ref qI, .ref qM, .ref qT, .ref qO, .int (j_X3_perform_105_qx6 fR fC fW rT rL rC rIn mar hand (k_X3_cycle_ins fI fp hand)), .int (j_X3_perform_127_qx7 fR fC fW rT rL rC rIn mar hand (k_X3_cycle_ins fI fp hand)), .int (j_X3_perform_127_qx8 fR fC fW rT rL rC rIn mar hand (k_X3_cycle_ins fI fp hand)), .int rIn, .int cyc, .int wai])), (qR, .inl (cI, 32, .inl (j_X3_perform_80_qR fR rL (k_X3_cycle_ins fI fp hand)))), (qC, .inl (cI, 256, .inl fC)), (qI, .inl (cI, 1024, .inl fI)), (qM, .inr (0, [.ref qW, .int (z_X3_useMemory_qM1 mar (k_X3_cycle_ins fI fp hand) ((k_X3_perform_sum fR fC fW rT rL rC rIn mar hand (k_X3_cycle_ins fI fp hand)) &&& 65535)), .int (z_X3_useMemory_qM2 rst (k_X3_cycle_ins fI fp hand))])), (qW, .inl (cI, 1024, .inl (j_X3_useMemory_17_qW fW mar (k_X3_cycle_ins fI fp hand) (k_X3_perform_bus fR fC fW rL rIn mar hand (k_X3_cycle_ins fI fp hand))))), (qT, .inr (2, [.ref qp, .ref qc, .ref qd, .ref qk, .int (j_X2_goOn_80_qT4 fk hand said (((k_X3_cycle_ins fI fp hand) >>> (16 &&& 31)) &&& 15)), .int (j_X2_goOn_80_qT5 fk hand hov said (((k_X3_cycle_ins fI fp hand) >>> (16 &&& 31)) &&& 15)), .int (z_X2_goOn_qT6 (((k_X3_cycle_ins fI fp hand) >>> (16 &&& 31)) &&& 15))])), (qp, .inl (cI, 16, .inl (upd fp (Int32.toNatClampNeg hand) (((k_X3_cycle_ins fI fp hand) &&& 1023) ||| (fc (Int32.toNatClampNeg hand)))))), (qc, .inl (cI, 16, .inl (upd fc (Int32.toNatClampNeg hand) (k_X3_perform_chg fR fC fW rL rC rIn mar hand (k_X3_cycle_ins fI fp hand))))), (qd, .inl (cI, 16, .inl (upd fd (Int32.toNatClampNeg hand) ((fd (Int32.toNatClampNeg hand)) + 1)))), (qk, .inl (cZ, 16, .inl (j_X2_goOn_65_qk fk hand (((k_X3_cycle_ins fI fp hand) >>> (16 &&& 31)) &&& 15)))), (qO, .inr (1, [.ref qo, .int (j_X3_perform_151_qO1 kept (k_X3_cycle_ins fI fp hand)), .int (j_X3_perform_151_qO2 gone (k_X3_cycle_ins fI fp hand))])), (qo, .inl (cI, 500, .inl (j_X3_perform_151_qo fR fC fW fo rL rIn mar hand kept (k_X3_cycle_ins fI fp hand))))] := hD
      refine lv_goto (tgt := 57) hx hb dX3_cycle_44 (by decide) ?_
      refine lv_aload_n hx hb dX3_cycle_57 rfl (lv_at hl 2 rfl) ?_
      refine va_get (D := D) (ci := 3) (v := .ref qM) (C := RX3) (T := TX3) (N := 12) hx hb hts ilX3 hown hK hP 0 rfl rfl 3 (by decide) (hts _ wf_X3_22) (fun _ h9 => h9) rfl dX3_cycle_58 ?_
      refine ctV_V (As := []) (rest := []) (wc := [(qM, .inr (0, [.ref qW, .int (z_X3_useMemory_qM1 mar (k_X3_cycle_ins fI fp hand) ((k_X3_perform_sum fR fC fW rT rL rC rIn mar hand (k_X3_cycle_ins fI fp hand)) &&& 65535)), .int (z_X3_useMemory_qM2 rst (k_X3_cycle_ins fI fp hand))])), (qW, .inl (cI, 1024, .inl (j_X3_useMemory_17_qW fW mar (k_X3_cycle_ins fI fp hand) (k_X3_perform_bus fR fC fW rL rIn mar hand (k_X3_cycle_ins fI fp hand)))))]) (wr := [(qx, .inr (3, [.ref qR, .ref qC, .ref qI, .ref qM, .ref qT, .ref qO, .int (j_X3_perform_105_qx6 fR fC fW rT rL rC rIn mar hand (k_X3_cycle_ins fI fp hand)), .int (j_X3_perform_127_qx7 fR fC fW rT rL rC rIn mar hand (k_X3_cycle_ins fI fp hand)), .int (j_X3_perform_127_qx8 fR fC fW rT rL rC rIn mar hand (k_X3_cycle_ins fI fp hand)), .int rIn, .int cyc, .int wai])), (qR, .inl (cI, 32, .inl (j_X3_perform_80_qR fR rL (k_X3_cycle_ins fI fp hand)))), (qC, .inl (cI, 256, .inl fC)), (qI, .inl (cI, 1024, .inl fI)), (qT, .inr (2, [.ref qp, .ref qc, .ref qd, .ref qk, .int (j_X2_goOn_80_qT4 fk hand said (((k_X3_cycle_ins fI fp hand) >>> (16 &&& 31)) &&& 15)), .int (j_X2_goOn_80_qT5 fk hand hov said (((k_X3_cycle_ins fI fp hand) >>> (16 &&& 31)) &&& 15)), .int (z_X2_goOn_qT6 (((k_X3_cycle_ins fI fp hand) >>> (16 &&& 31)) &&& 15))])), (qp, .inl (cI, 16, .inl (upd fp (Int32.toNatClampNeg hand) (((k_X3_cycle_ins fI fp hand) &&& 1023) ||| (fc (Int32.toNatClampNeg hand)))))), (qc, .inl (cI, 16, .inl (upd fc (Int32.toNatClampNeg hand) (k_X3_perform_chg fR fC fW rL rC rIn mar hand (k_X3_cycle_ins fI fp hand))))), (qd, .inl (cI, 16, .inl (upd fd (Int32.toNatClampNeg hand) ((fd (Int32.toNatClampNeg hand)) + 1)))), (qk, .inl (cZ, 16, .inl (j_X2_goOn_65_qk fk hand (((k_X3_cycle_ins fI fp hand) >>> (16 &&& 31)) &&& 15)))), (qO, .inr (1, [.ref qo, .int (j_X3_perform_151_qO1 kept (k_X3_cycle_ins fI fp hand)), .int (j_X3_perform_151_qO2 gone (k_X3_cycle_ins fI fp hand))])), (qo, .inl (cI, 500, .inl (j_X3_perform_151_qo fR fC fW fo rL rIn mar hand kept (k_X3_cycle_ins fI fp hand))))]) ⟨hx, hb, hml, hown, hts⟩ (c_X0_rest l D cI cZ qM qW (j_X3_useMemory_17_qW fW mar (k_X3_cycle_ins fI fp hand) (k_X3_perform_bus fR fC fW rL rIn mar hand (k_X3_cycle_ins fI fp hand))) (z_X3_useMemory_qM1 mar (k_X3_cycle_ins fI fp hand) ((k_X3_perform_sum fR fC fW rT rL rC rIn mar hand (k_X3_cycle_ins fI fp hand)) &&& 65535)) (z_X3_useMemory_qM2 rst (k_X3_cycle_ins fI fp hand))) (cwV 0 hts (gd_V wm_X3_118 wi_X0_rest ws_X0_rest wz_X0 wo_X0_rest) rfl rfl rfl (by decide +kernel) ⟨Nat.le_of_ble_eq_true rfl, Nat.le_of_ble_eq_true rfl⟩) hK hP hD hS hA 4 rfl rfl rfl [4, 5] [0, 1, 2, 3, 6, 7, 8, 9, 10, 11, 12] rfl rfl (by decide) (by decide) (by decide) rfl rfl hl.1 (Nat.le_of_ble_eq_true rfl) dX3_cycle_61 ⟨Nat.le_of_ble_eq_true rfl, Nat.le_of_ble_eq_true rfl⟩ (fun u H locs hP hD hS => ?_)
      have hP : va_P D classes [(qx, .inr (3, [.ref qR, .ref qC, .ref qI, .ref qM, .ref qT, .ref qO, .int (j_X3_perform_105_qx6 fR fC fW rT rL rC rIn mar hand (k_X3_cycle_ins fI fp hand)), .int (j_X3_perform_127_qx7 fR fC fW rT rL rC rIn mar hand (k_X3_cycle_ins fI fp hand)), .int (j_X3_perform_127_qx8 fR fC fW rT rL rC rIn mar hand (k_X3_cycle_ins fI fp hand)), .int rIn, .int cyc, .int wai])), (qR, .inl (cI, 32, .inl (j_X3_perform_80_qR fR rL (k_X3_cycle_ins fI fp hand)))), (qC, .inl (cI, 256, .inl fC)), (qI, .inl (cI, 1024, .inl fI)), (qT, .inr (2, [.ref qp, .ref qc, .ref qd, .ref qk, .int (j_X2_goOn_80_qT4 fk hand said (((k_X3_cycle_ins fI fp hand) >>> (16 &&& 31)) &&& 15)), .int (j_X2_goOn_80_qT5 fk hand hov said (((k_X3_cycle_ins fI fp hand) >>> (16 &&& 31)) &&& 15)), .int (z_X2_goOn_qT6 (((k_X3_cycle_ins fI fp hand) >>> (16 &&& 31)) &&& 15))])), (qp, .inl (cI, 16, .inl (upd fp (Int32.toNatClampNeg hand) (((k_X3_cycle_ins fI fp hand) &&& 1023) ||| (fc (Int32.toNatClampNeg hand)))))), (qc, .inl (cI, 16, .inl (upd fc (Int32.toNatClampNeg hand) (k_X3_perform_chg fR fC fW rL rC rIn mar hand (k_X3_cycle_ins fI fp hand))))), (qd, .inl (cI, 16, .inl (upd fd (Int32.toNatClampNeg hand) ((fd (Int32.toNatClampNeg hand)) + 1)))), (qk, .inl (cZ, 16, .inl (j_X2_goOn_65_qk fk hand (((k_X3_cycle_ins fI fp hand) >>> (16 &&& 31)) &&& 15)))), (qO, .inr (1, [.ref qo, .int (j_X3_perform_151_qO1 kept (k_X3_cycle_ins fI fp hand)), .int (j_X3_perform_151_qO2 gone (k_X3_cycle_ins fI fp hand))])), (qo, .inl (cI, 500, .inl (j_X3_perform_151_qo fR fC fW fo rL rIn mar hand kept (k_X3_cycle_ins fI fp hand)))), (qM, .inr (0, [.ref qW, .int (z_X3_useMemory_qM1 mar (k_X3_cycle_ins fI fp hand) ((k_X3_perform_sum fR fC fW rT rL rC rIn mar hand (k_X3_cycle_ins fI fp hand)) &&& 65535)), .int (z_X0_rest_qM2 (z_X3_useMemory_qM2 rst (k_X3_cycle_ins fI fp hand)))])), (qW, .inl (cI, 1024, .inl (j_X3_useMemory_17_qW fW mar (k_X3_cycle_ins fI fp hand) (k_X3_perform_bus fR fC fW rL rIn mar hand (k_X3_cycle_ins fI fp hand)))))] H := hP
      have hD : va_D A [(qx, .inr (3, [.ref qR, .ref qC, .ref qI, .ref qM, .ref qT, .ref qO, .int (j_X3_perform_105_qx6 fR fC fW rT rL rC rIn mar hand (k_X3_cycle_ins fI fp hand)), .int (j_X3_perform_127_qx7 fR fC fW rT rL rC rIn mar hand (k_X3_cycle_ins fI fp hand)), .int (j_X3_perform_127_qx8 fR fC fW rT rL rC rIn mar hand (k_X3_cycle_ins fI fp hand)), .int rIn, .int cyc, .int wai])), (qR, .inl (cI, 32, .inl (j_X3_perform_80_qR fR rL (k_X3_cycle_ins fI fp hand)))), (qC, .inl (cI, 256, .inl fC)), (qI, .inl (cI, 1024, .inl fI)), (qT, .inr (2, [.ref qp, .ref qc, .ref qd, .ref qk, .int (j_X2_goOn_80_qT4 fk hand said (((k_X3_cycle_ins fI fp hand) >>> (16 &&& 31)) &&& 15)), .int (j_X2_goOn_80_qT5 fk hand hov said (((k_X3_cycle_ins fI fp hand) >>> (16 &&& 31)) &&& 15)), .int (z_X2_goOn_qT6 (((k_X3_cycle_ins fI fp hand) >>> (16 &&& 31)) &&& 15))])), (qp, .inl (cI, 16, .inl (upd fp (Int32.toNatClampNeg hand) (((k_X3_cycle_ins fI fp hand) &&& 1023) ||| (fc (Int32.toNatClampNeg hand)))))), (qc, .inl (cI, 16, .inl (upd fc (Int32.toNatClampNeg hand) (k_X3_perform_chg fR fC fW rL rC rIn mar hand (k_X3_cycle_ins fI fp hand))))), (qd, .inl (cI, 16, .inl (upd fd (Int32.toNatClampNeg hand) ((fd (Int32.toNatClampNeg hand)) + 1)))), (qk, .inl (cZ, 16, .inl (j_X2_goOn_65_qk fk hand (((k_X3_cycle_ins fI fp hand) >>> (16 &&& 31)) &&& 15)))), (qO, .inr (1, [.ref qo, .int (j_X3_perform_151_qO1 kept (k_X3_cycle_ins fI fp hand)), .int (j_X3_perform_151_qO2 gone (k_X3_cycle_ins fI fp hand))])), (qo, .inl (cI, 500, .inl (j_X3_perform_151_qo fR fC fW fo rL rIn mar hand kept (k_X3_cycle_ins fI fp hand)))), (qM, .inr (0, [.ref qW, .int (z_X3_useMemory_qM1 mar (k_X3_cycle_ins fI fp hand) ((k_X3_perform_sum fR fC fW rT rL rC rIn mar hand (k_X3_cycle_ins fI fp hand)) &&& 65535)), .int (z_X0_rest_qM2 (z_X3_useMemory_qM2 rst (k_X3_cycle_ins fI fp hand)))])), (qW, .inl (cI, 1024, .inl (j_X3_useMemory_17_qW fW mar (k_X3_cycle_ins fI fp hand) (k_X3_perform_bus fR fC fW rL rIn mar hand (k_X3_cycle_ins fI fp hand)))))] := hD
      refine lv_aload_n hx hb dX3_cycle_64 rfl (lv_at hl 2 rfl) ?_
      refine lv_dup hx hb dX3_cycle_65 rfl ?_
      refine va_get (D := D) (ci := 3) (v := .int cyc) (C := RX3) (T := TX3) (N := 12) hx hb hts ilX3 hown hK hP 0 rfl rfl 10 (by decide) (hts _ wf_X3_99) (fun _ h9 => h9) rfl dX3_cycle_66 ?_
      refine lv_iconst (v := 1) hx hb dX3_cycle_69 (by decide) ?_
      refine lv_iadd hx hb dX3_cycle_70 ?_
      refine va_put (D := D) (ci := 3) (v := .int (cyc + 1)) (ty := (.int)) (C := RX3) (T := TX3) (N := 12) hx hb hts ilX3 tyX3 tyX3_ok nmX3 hown hK hP hD hS 0 rfl rfl 10 (by decide) (hts _ wf_X3_99) (fun _ h9 => h9) rfl (by decide +kernel) rfl rfl (Nat.le_of_ble_eq_true rfl) dX3_cycle_71 (fun H locs hP hD hS => ?_)
      have hP : va_P D classes [(qx, .inr (3, [.ref qR, .ref qC, .ref qI, .ref qM, .ref qT, .ref qO, .int (j_X3_perform_105_qx6 fR fC fW rT rL rC rIn mar hand (k_X3_cycle_ins fI fp hand)), .int (j_X3_perform_127_qx7 fR fC fW rT rL rC rIn mar hand (k_X3_cycle_ins fI fp hand)), .int (j_X3_perform_127_qx8 fR fC fW rT rL rC rIn mar hand (k_X3_cycle_ins fI fp hand)), .int rIn, .int (cyc + 1), .int wai])), (qR, .inl (cI, 32, .inl (j_X3_perform_80_qR fR rL (k_X3_cycle_ins fI fp hand)))), (qC, .inl (cI, 256, .inl fC)), (qI, .inl (cI, 1024, .inl fI)), (qT, .inr (2, [.ref qp, .ref qc, .ref qd, .ref qk, .int (j_X2_goOn_80_qT4 fk hand said (((k_X3_cycle_ins fI fp hand) >>> (16 &&& 31)) &&& 15)), .int (j_X2_goOn_80_qT5 fk hand hov said (((k_X3_cycle_ins fI fp hand) >>> (16 &&& 31)) &&& 15)), .int (z_X2_goOn_qT6 (((k_X3_cycle_ins fI fp hand) >>> (16 &&& 31)) &&& 15))])), (qp, .inl (cI, 16, .inl (upd fp (Int32.toNatClampNeg hand) (((k_X3_cycle_ins fI fp hand) &&& 1023) ||| (fc (Int32.toNatClampNeg hand)))))), (qc, .inl (cI, 16, .inl (upd fc (Int32.toNatClampNeg hand) (k_X3_perform_chg fR fC fW rL rC rIn mar hand (k_X3_cycle_ins fI fp hand))))), (qd, .inl (cI, 16, .inl (upd fd (Int32.toNatClampNeg hand) ((fd (Int32.toNatClampNeg hand)) + 1)))), (qk, .inl (cZ, 16, .inl (j_X2_goOn_65_qk fk hand (((k_X3_cycle_ins fI fp hand) >>> (16 &&& 31)) &&& 15)))), (qO, .inr (1, [.ref qo, .int (j_X3_perform_151_qO1 kept (k_X3_cycle_ins fI fp hand)), .int (j_X3_perform_151_qO2 gone (k_X3_cycle_ins fI fp hand))])), (qo, .inl (cI, 500, .inl (j_X3_perform_151_qo fR fC fW fo rL rIn mar hand kept (k_X3_cycle_ins fI fp hand)))), (qM, .inr (0, [.ref qW, .int (z_X3_useMemory_qM1 mar (k_X3_cycle_ins fI fp hand) ((k_X3_perform_sum fR fC fW rT rL rC rIn mar hand (k_X3_cycle_ins fI fp hand)) &&& 65535)), .int (z_X0_rest_qM2 (z_X3_useMemory_qM2 rst (k_X3_cycle_ins fI fp hand)))])), (qW, .inl (cI, 1024, .inl (j_X3_useMemory_17_qW fW mar (k_X3_cycle_ins fI fp hand) (k_X3_perform_bus fR fC fW rL rIn mar hand (k_X3_cycle_ins fI fp hand)))))] H := hP
      have hD : va_D A [(qx, .inr (3, [.ref qR, .ref qC, .ref qI, .ref qM, .ref qT, .ref qO, .int (j_X3_perform_105_qx6 fR fC fW rT rL rC rIn mar hand (k_X3_cycle_ins fI fp hand)), .int (j_X3_perform_127_qx7 fR fC fW rT rL rC rIn mar hand (k_X3_cycle_ins fI fp hand)), .int (j_X3_perform_127_qx8 fR fC fW rT rL rC rIn mar hand (k_X3_cycle_ins fI fp hand)), .int rIn, .int (cyc + 1), .int wai])), (qR, .inl (cI, 32, .inl (j_X3_perform_80_qR fR rL (k_X3_cycle_ins fI fp hand)))), (qC, .inl (cI, 256, .inl fC)), (qI, .inl (cI, 1024, .inl fI)), (qT, .inr (2, [.ref qp, .ref qc, .ref qd, .ref qk, .int (j_X2_goOn_80_qT4 fk hand said (((k_X3_cycle_ins fI fp hand) >>> (16 &&& 31)) &&& 15)), .int (j_X2_goOn_80_qT5 fk hand hov said (((k_X3_cycle_ins fI fp hand) >>> (16 &&& 31)) &&& 15)), .int (z_X2_goOn_qT6 (((k_X3_cycle_ins fI fp hand) >>> (16 &&& 31)) &&& 15))])), (qp, .inl (cI, 16, .inl (upd fp (Int32.toNatClampNeg hand) (((k_X3_cycle_ins fI fp hand) &&& 1023) ||| (fc (Int32.toNatClampNeg hand)))))), (qc, .inl (cI, 16, .inl (upd fc (Int32.toNatClampNeg hand) (k_X3_perform_chg fR fC fW rL rC rIn mar hand (k_X3_cycle_ins fI fp hand))))), (qd, .inl (cI, 16, .inl (upd fd (Int32.toNatClampNeg hand) ((fd (Int32.toNatClampNeg hand)) + 1)))), (qk, .inl (cZ, 16, .inl (j_X2_goOn_65_qk fk hand (((k_X3_cycle_ins fI fp hand) >>> (16 &&& 31)) &&& 15)))), (qO, .inr (1, [.ref qo, .int (j_X3_perform_151_qO1 kept (k_X3_cycle_ins fI fp hand)), .int (j_X3_perform_151_qO2 gone (k_X3_cycle_ins fI fp hand))])), (qo, .inl (cI, 500, .inl (j_X3_perform_151_qo fR fC fW fo rL rIn mar hand kept (k_X3_cycle_ins fI fp hand)))), (qM, .inr (0, [.ref qW, .int (z_X3_useMemory_qM1 mar (k_X3_cycle_ins fI fp hand) ((k_X3_perform_sum fR fC fW rT rL rC rIn mar hand (k_X3_cycle_ins fI fp hand)) &&& 65535)), .int (z_X0_rest_qM2 (z_X3_useMemory_qM2 rst (k_X3_cycle_ins fI fp hand)))])), (qW, .inl (cI, 1024, .inl (j_X3_useMemory_17_qW fW mar (k_X3_cycle_ins fI fp hand) (k_X3_perform_bus fR fC fW rL rIn mar hand (k_X3_cycle_ins fI fp hand)))))] := hD
      refine lv_iload_n hx hb dX3_cycle_74 rfl (lv_at hl 0 rfl) ?_
      have hP := hP.sub (ws' := [(qx, .inr (3, [.ref qR, .ref qC, .ref qI, .ref qM, .ref qT, .ref qO, .int (j_X3_perform_105_qx6 fR fC fW rT rL rC rIn mar hand (k_X3_cycle_ins fI fp hand)), .int (j_X3_perform_127_qx7 fR fC fW rT rL rC rIn mar hand (k_X3_cycle_ins fI fp hand)), .int (j_X3_perform_127_qx8 fR fC fW rT rL rC rIn mar hand (k_X3_cycle_ins fI fp hand)), .int rIn, .int (cyc + 1), .int wai])), (qR, .inl (cI, 32, .inl (j_X3_perform_80_qR fR rL (k_X3_cycle_ins fI fp hand)))), (qC, .inl (cI, 256, .inl fC)), (qI, .inl (cI, 1024, .inl fI)), (qM, .inr (0, [.ref qW, .int (z_X3_useMemory_qM1 mar (k_X3_cycle_ins fI fp hand) ((k_X3_perform_sum fR fC fW rT rL rC rIn mar hand (k_X3_cycle_ins fI fp hand)) &&& 65535)), .int (z_X0_rest_qM2 (z_X3_useMemory_qM2 rst (k_X3_cycle_ins fI fp hand)))])), (qW, .inl (cI, 1024, .inl (j_X3_useMemory_17_qW fW mar (k_X3_cycle_ins fI fp hand) (k_X3_perform_bus fR fC fW rL rIn mar hand (k_X3_cycle_ins fI fp hand))))), (qT, .inr (2, [.ref qp, .ref qc, .ref qd, .ref qk, .int (j_X2_goOn_80_qT4 fk hand said (((k_X3_cycle_ins fI fp hand) >>> (16 &&& 31)) &&& 15)), .int (j_X2_goOn_80_qT5 fk hand hov said (((k_X3_cycle_ins fI fp hand) >>> (16 &&& 31)) &&& 15)), .int (z_X2_goOn_qT6 (((k_X3_cycle_ins fI fp hand) >>> (16 &&& 31)) &&& 15))])), (qp, .inl (cI, 16, .inl (upd fp (Int32.toNatClampNeg hand) (((k_X3_cycle_ins fI fp hand) &&& 1023) ||| (fc (Int32.toNatClampNeg hand)))))), (qc, .inl (cI, 16, .inl (upd fc (Int32.toNatClampNeg hand) (k_X3_perform_chg fR fC fW rL rC rIn mar hand (k_X3_cycle_ins fI fp hand))))), (qd, .inl (cI, 16, .inl (upd fd (Int32.toNatClampNeg hand) ((fd (Int32.toNatClampNeg hand)) + 1)))), (qk, .inl (cZ, 16, .inl (j_X2_goOn_65_qk fk hand (((k_X3_cycle_ins fI fp hand) >>> (16 &&& 31)) &&& 15)))), (qO, .inr (1, [.ref qo, .int (j_X3_perform_151_qO1 kept (k_X3_cycle_ins fI fp hand)), .int (j_X3_perform_151_qO2 gone (k_X3_cycle_ins fI fp hand))])), (qo, .inl (cI, 500, .inl (j_X3_perform_151_qo fR fC fW fo rL rIn mar hand kept (k_X3_cycle_ins fI fp hand))))]) [0, 1, 2, 3, 11, 12, 4, 5, 6, 7, 8, 9, 10] rfl
      have hD := hD.sub (ws' := [(qx, .inr (3, [.ref qR, .ref qC, .ref qI, .ref qM, .ref qT, .ref qO, .int (j_X3_perform_105_qx6 fR fC fW rT rL rC rIn mar hand (k_X3_cycle_ins fI fp hand)), .int (j_X3_perform_127_qx7 fR fC fW rT rL rC rIn mar hand (k_X3_cycle_ins fI fp hand)), .int (j_X3_perform_127_qx8 fR fC fW rT rL rC rIn mar hand (k_X3_cycle_ins fI fp hand)), .int rIn, .int (cyc + 1), .int wai])), (qR, .inl (cI, 32, .inl (j_X3_perform_80_qR fR rL (k_X3_cycle_ins fI fp hand)))), (qC, .inl (cI, 256, .inl fC)), (qI, .inl (cI, 1024, .inl fI)), (qM, .inr (0, [.ref qW, .int (z_X3_useMemory_qM1 mar (k_X3_cycle_ins fI fp hand) ((k_X3_perform_sum fR fC fW rT rL rC rIn mar hand (k_X3_cycle_ins fI fp hand)) &&& 65535)), .int (z_X0_rest_qM2 (z_X3_useMemory_qM2 rst (k_X3_cycle_ins fI fp hand)))])), (qW, .inl (cI, 1024, .inl (j_X3_useMemory_17_qW fW mar (k_X3_cycle_ins fI fp hand) (k_X3_perform_bus fR fC fW rL rIn mar hand (k_X3_cycle_ins fI fp hand))))), (qT, .inr (2, [.ref qp, .ref qc, .ref qd, .ref qk, .int (j_X2_goOn_80_qT4 fk hand said (((k_X3_cycle_ins fI fp hand) >>> (16 &&& 31)) &&& 15)), .int (j_X2_goOn_80_qT5 fk hand hov said (((k_X3_cycle_ins fI fp hand) >>> (16 &&& 31)) &&& 15)), .int (z_X2_goOn_qT6 (((k_X3_cycle_ins fI fp hand) >>> (16 &&& 31)) &&& 15))])), (qp, .inl (cI, 16, .inl (upd fp (Int32.toNatClampNeg hand) (((k_X3_cycle_ins fI fp hand) &&& 1023) ||| (fc (Int32.toNatClampNeg hand)))))), (qc, .inl (cI, 16, .inl (upd fc (Int32.toNatClampNeg hand) (k_X3_perform_chg fR fC fW rL rC rIn mar hand (k_X3_cycle_ins fI fp hand))))), (qd, .inl (cI, 16, .inl (upd fd (Int32.toNatClampNeg hand) ((fd (Int32.toNatClampNeg hand)) + 1)))), (qk, .inl (cZ, 16, .inl (j_X2_goOn_65_qk fk hand (((k_X3_cycle_ins fI fp hand) >>> (16 &&& 31)) &&& 15)))), (qO, .inr (1, [.ref qo, .int (j_X3_perform_151_qO1 kept (k_X3_cycle_ins fI fp hand)), .int (j_X3_perform_151_qO2 gone (k_X3_cycle_ins fI fp hand))])), (qo, .inl (cI, 500, .inl (j_X3_perform_151_qo fR fC fW fo rL rIn mar hand kept (k_X3_cycle_ins fI fp hand))))]) [0, 1, 2, 3, 11, 12, 4, 5, 6, 7, 8, 9, 10] (by decide) rfl
      have e_1 : z_X3_cycle_qx6 fR fC fI fW fp rT rL rC rIn mar rst hand = j_X3_perform_105_qx6 fR fC fW rT rL rC rIn mar hand (k_X3_cycle_ins fI fp hand) := by simp only [z_X3_cycle_qx6, if_pos c_1]
      have e_2 : z_X3_cycle_qx7 fR fC fI fW fp rT rL rC rIn mar rst hand = j_X3_perform_127_qx7 fR fC fW rT rL rC rIn mar hand (k_X3_cycle_ins fI fp hand) := by simp only [z_X3_cycle_qx7, if_pos c_1]
      have e_3 : z_X3_cycle_qx8 fR fC fI fW fp rT rL rC rIn mar rst hand = j_X3_perform_127_qx8 fR fC fW rT rL rC rIn mar hand (k_X3_cycle_ins fI fp hand) := by simp only [z_X3_cycle_qx8, if_pos c_1]
      have e_4 : z_X3_cycle_qx11 fI fp wai rst hand = wai := by simp only [z_X3_cycle_qx11, if_pos c_1]
      have e_5 : z_X3_cycle_qR fR fI fp rL rst hand = j_X3_perform_80_qR fR rL (k_X3_cycle_ins fI fp hand) := by simp only [z_X3_cycle_qR, if_pos c_1]
      have e_6 : z_X3_cycle_qM1 fR fC fI fW fp rT rL rC rIn mar rst hand = z_X3_useMemory_qM1 mar (k_X3_cycle_ins fI fp hand) ((k_X3_perform_sum fR fC fW rT rL rC rIn mar hand (k_X3_cycle_ins fI fp hand)) &&& 65535) := by simp only [z_X3_cycle_qM1, if_pos c_1]
      have e_7 : z_X3_cycle_qM2 fI fp rst hand = z_X0_rest_qM2 (z_X3_useMemory_qM2 rst (k_X3_cycle_ins fI fp hand)) := by simp only [z_X3_cycle_qM2, if_pos c_1]
      have e_8 : z_X3_cycle_qW fR fC fI fW fp rL rIn mar rst hand = j_X3_useMemory_17_qW fW mar (k_X3_cycle_ins fI fp hand) (k_X3_perform_bus fR fC fW rL rIn mar hand (k_X3_cycle_ins fI fp hand)) := by simp only [z_X3_cycle_qW, if_pos c_1]
      have e_9 : z_X3_cycle_qT4 fI fp fk rst hand said = j_X2_goOn_80_qT4 fk hand said (((k_X3_cycle_ins fI fp hand) >>> (16 &&& 31)) &&& 15) := by simp only [z_X3_cycle_qT4, if_pos c_1]
      have e_10 : z_X3_cycle_qT5 fI fp fk rst hand hov said = j_X2_goOn_80_qT5 fk hand hov said (((k_X3_cycle_ins fI fp hand) >>> (16 &&& 31)) &&& 15) := by simp only [z_X3_cycle_qT5, if_pos c_1]
      have e_11 : z_X3_cycle_qT6 fI fp rst hand said = z_X2_goOn_qT6 (((k_X3_cycle_ins fI fp hand) >>> (16 &&& 31)) &&& 15) := by simp only [z_X3_cycle_qT6, if_pos c_1]
      have e_12 : z_X3_cycle_qp fI fp fc rst hand = upd fp (Int32.toNatClampNeg hand) (((k_X3_cycle_ins fI fp hand) &&& 1023) ||| (fc (Int32.toNatClampNeg hand))) := by simp only [z_X3_cycle_qp, if_pos c_1]
      have e_13 : z_X3_cycle_qc fR fC fI fW fp fc rL rC rIn mar rst hand = upd fc (Int32.toNatClampNeg hand) (k_X3_perform_chg fR fC fW rL rC rIn mar hand (k_X3_cycle_ins fI fp hand)) := by simp only [z_X3_cycle_qc, if_pos c_1]
      have e_14 : z_X3_cycle_qd fI fp fd rst hand = upd fd (Int32.toNatClampNeg hand) ((fd (Int32.toNatClampNeg hand)) + 1) := by simp only [z_X3_cycle_qd, if_pos c_1]
      have e_15 : z_X3_cycle_qk fI fp fk rst hand = j_X2_goOn_65_qk fk hand (((k_X3_cycle_ins fI fp hand) >>> (16 &&& 31)) &&& 15) := by simp only [z_X3_cycle_qk, if_pos c_1]
      have e_16 : z_X3_cycle_qO1 fI fp rst hand kept = j_X3_perform_151_qO1 kept (k_X3_cycle_ins fI fp hand) := by simp only [z_X3_cycle_qO1, if_pos c_1]
      have e_17 : z_X3_cycle_qO2 fI fp rst hand gone = j_X3_perform_151_qO2 gone (k_X3_cycle_ins fI fp hand) := by simp only [z_X3_cycle_qO2, if_pos c_1]
      have e_18 : z_X3_cycle_qo fR fC fI fW fp fo rL rIn mar rst hand kept = j_X3_perform_151_qo fR fC fW fo rL rIn mar hand kept (k_X3_cycle_ins fI fp hand) := by simp only [z_X3_cycle_qo, if_pos c_1]
      have e_19 : r_X3_cycle fI fp rst hand = 1 := by simp only [r_X3_cycle, if_pos c_1]
      exact ct_zret hx hb hr hlocks hP hD hS (by rw [e_1, e_2, e_3, e_4, e_5, e_6, e_7, e_8, e_9, e_10, e_11, e_12, e_13, e_14, e_15, e_16, e_17, e_18]) (by rw [e_19]) (Or.inr rfl) dX3_cycle_75
end
end
section
section
theorem run_N {p0 : Int32} (h1 : ¬ p0 < 1) (h2 : p0 ≤ 5000) : ∃ N : Nat, N ≤ 5000 ∧ p0 = nI N := by
  rw [Int32.lt_iff_toInt_lt] at h1
  rw [Int32.le_iff_toInt_le] at h2
  have e1 : (1 : Int32).toInt = 1 := by decide
  have e2 : (5000 : Int32).toInt = 5000 := by decide
  refine ⟨p0.toInt.toNat, by omega, ?_⟩
  apply Int32.toInt_inj.mp
  rw [nI_toInt (by omega)]
  omega
abbrev XS : Type := (Nat → Int32) × (Nat → Int32) × (Nat → Int32) × (Nat → Int32) × (Nat → Int32) × (Nat → Int32) × (Nat → Int32) × (Nat → Int32) × (Nat → Int32) × Int32 × Int32 × Int32 × Int32 × Int32 × Int32 × Int32 × Int32 × Int32 × Int32 × Int32 × Int32 × Int32
def xw (qx qR qC qI qM qW qT qp qc qd qk qO qo : Nat) (cI cZ : ClassId) (u : XS) : va_W := match u with | (fR, fC, fI, fW, fp, fc, fd, fk, fo, rT, rL, rC, rIn, cyc, wai, mar, rst, hand, hov, said, kept, gone) => [(qx, .inr (3, [.ref qR, .ref qC, .ref qI, .ref qM, .ref qT, .ref qO, .int rT, .int rL, .int rC, .int rIn, .int cyc, .int wai])), (qR, .inl (cI, 32, .inl fR)), (qC, .inl (cI, 256, .inl fC)), (qI, .inl (cI, 1024, .inl fI)), (qM, .inr (0, [.ref qW, .int mar, .int rst])), (qW, .inl (cI, 1024, .inl fW)), (qT, .inr (2, [.ref qp, .ref qc, .ref qd, .ref qk, .int hand, .int hov, .int said])), (qp, .inl (cI, 16, .inl fp)), (qc, .inl (cI, 16, .inl fc)), (qd, .inl (cI, 16, .inl fd)), (qk, .inl (cZ, 16, .inl fk)), (qO, .inr (1, [.ref qo, .int kept, .int gone])), (qo, .inl (cI, 500, .inl fo))]
def z_X3_run_d (fI : Nat → Int32) (fp : Nat → Int32) (rst : Int32) (hand : Int32) (d : Int32) : Int32 := (if (r_X3_cycle fI fp rst hand) = 0 then d else d + 1)
def x_step (u : XS) : XS := match u with | (fR, fC, fI, fW, fp, fc, fd, fk, fo, rT, rL, rC, rIn, cyc, wai, mar, rst, hand, hov, said, kept, gone) => (z_X3_cycle_qR fR fI fp rL rst hand, fC, fI, z_X3_cycle_qW fR fC fI fW fp rL rIn mar rst hand, z_X3_cycle_qp fI fp fc rst hand, z_X3_cycle_qc fR fC fI fW fp fc rL rC rIn mar rst hand, z_X3_cycle_qd fI fp fd rst hand, z_X3_cycle_qk fI fp fk rst hand, z_X3_cycle_qo fR fC fI fW fp fo rL rIn mar rst hand kept, z_X3_cycle_qx6 fR fC fI fW fp rT rL rC rIn mar rst hand, z_X3_cycle_qx7 fR fC fI fW fp rT rL rC rIn mar rst hand, z_X3_cycle_qx8 fR fC fI fW fp rT rL rC rIn mar rst hand, rIn, cyc + 1, z_X3_cycle_qx11 fI fp wai rst hand, z_X3_cycle_qM1 fR fC fI fW fp rT rL rC rIn mar rst hand, z_X3_cycle_qM2 fI fp rst hand, z_X3_cycle_qT4 fI fp fk rst hand said, z_X3_cycle_qT5 fI fp fk rst hand hov said, z_X3_cycle_qT6 fI fp rst hand said, z_X3_cycle_qO1 fI fp rst hand kept, z_X3_cycle_qO2 fI fp rst hand gone)
def x_next (u : XS) (d : Int32) : Int32 := match u with | (fR, fC, fI, fW, fp, fc, fd, fk, fo, rT, rL, rC, rIn, cyc, wai, mar, rst, hand, hov, said, kept, gone) => z_X3_run_d fI fp rst hand d
def x_ok (u : XS) : Prop := match u with | (fR, fC, fI, fW, fp, fc, fd, fk, fo, rT, rL, rC, rIn, cyc, wai, mar, rst, hand, hov, said, kept, gone) => vp_in hand 16 ∧ vp_in (fp (Int32.toNatClampNeg hand)) 1024 ∧ ¬ kept < 0
def x_run : Nat → XS → XS
  | 0, u => u
  | n + 1, u => x_run n (x_step u)
def x_cnt : Nat → XS → Int32 → Int32
  | 0, _, d => d
  | n + 1, u, d => x_cnt n (x_step u) (x_next u d)
set_option maxHeartbeats 4000000 in
set_option maxRecDepth 100000 in
theorem lp_X3_run {p : Program} {e : Env} {s : State} {m : MethodId} {below : List Frame} {meth : Method} {c : Code} {A : Nat → Prop} (l : Launch) (D : va_G) (cI cZ : ClassId) (qx qR qC qI qM qW qT qp qc qd qk qO qo : Nat) (p0 : Int32) (N : Nat) (hN : p0 = nI N) (hN5 : N ≤ 5000) (hx : p.tables.exec = Jvm.exec) (hb : c.code = cX3_run) (hr : meth.sig.returnType = some .int) (hml : c.maxLocals = 4) (hts : ∀ w ∈ gt, w.before [Value.ref qx, Value.int p0].toArray s = true) (hown : s.vm.findClass RX3 = some m.cls) (hlocks : meth.locks = false) (hA : ∀ q : Nat, s.heap.size ≤ q → A q) (hK : va_K D classes [(cI, .int), (cZ, .boolean)] s) (uF : XS) (rv : Int32) :
    ∀ (n k : Nat) (u : XS) (d x3 : Int32), k + n = N → x3 = nI k → (∀ j, j < n → x_ok (x_run j u)) → x_run n u = uF → x_cnt n u d = rv → ∀ (H : Heap) (locs : List Loc), va_P D classes (xw qx qR qC qI qM qW qT qp qc qd qk qO qo cI cZ u) H → va_D A (xw qx qR qC qI qM qW qT qp qc qd qk qO qo cI cZ u) → va_S A s.heap H locs → ∀ ls : Array Slot, lv_has ls 4 [(3, .int x3), (2, .int d), (0, .ref qx), (1, .int p0)] → W p l e (headSpec w_X3_run { frames := 5, cells := 0, slots := 0, locals := 113 }).room s m [Value.ref qx, Value.int p0].toArray below meth c H locs 0 0 (MQ below (ct_QI D classes rv (xw qx qR qC qI qM qW qT qp qc qd qk qO qo cI cZ uF) A) [Value.ref qx, Value.int p0].toArray s 0 0 A) (F0 m 18 ls []) := by
  intro n
  induction n with
  | zero =>
    intro k u d x3 hk ex3 hok hF hR H locs hP hD hS ls hl
    refine lv_iload_n hx hb dX3_run_18 rfl (lv_at hl 0 rfl) ?_
    refine lv_iload_n hx hb dX3_run_19 rfl (lv_at hl 3 rfl) ?_
    refine lv_icmp_ge (tgt := 39) hx hb dX3_run_20 (by decide) (fun c_0 => ?_) (fun c_0 => ?_)
    · refine lv_iload_n hx hb dX3_run_39 rfl (lv_at hl 1 rfl) ?_
      exact ct_iret hx hb hr hlocks hP hD hS (by rw [← hF]; rfl) (by rw [← hR]; rfl) dX3_run_40
    · exact absurd (by rw [ex3, hN]; exact nI_le (by omega) (by omega)) c_0
  | succ n ih =>
    intro k u d x3 hk ex3 hok hF hR H locs hP hD hS ls hl
    refine lv_iload_n hx hb dX3_run_18 rfl (lv_at hl 0 rfl) ?_
    refine lv_iload_n hx hb dX3_run_19 rfl (lv_at hl 3 rfl) ?_
    refine lv_icmp_ge (tgt := 39) hx hb dX3_run_20 (by decide) (fun c_0 => ?_) (fun c_0 => ?_)
    · exact absurd c_0 (by rw [ex3, hN]; exact nI_ge (by omega) (by omega))
    · have hok0 := hok 0 (by omega)
      obtain ⟨fR, fC, fI, fW, fp, fc, fd, fk, fo, rT, rL, rC, rIn, cyc, wai, mar, rst, hand, hov, said, kept, gone⟩ := u
      obtain ⟨hh, hp, hk0⟩ : vp_in hand 16 ∧ vp_in (fp (Int32.toNatClampNeg hand)) 1024 ∧ ¬ kept < 0 := hok0
      have hP : va_P D classes [(qx, .inr (3, [.ref qR, .ref qC, .ref qI, .ref qM, .ref qT, .ref qO, .int rT, .int rL, .int rC, .int rIn, .int cyc, .int wai])), (qR, .inl (cI, 32, .inl fR)), (qC, .inl (cI, 256, .inl fC)), (qI, .inl (cI, 1024, .inl fI)), (qM, .inr (0, [.ref qW, .int mar, .int rst])), (qW, .inl (cI, 1024, .inl fW)), (qT, .inr (2, [.ref qp, .ref qc, .ref qd, .ref qk, .int hand, .int hov, .int said])), (qp, .inl (cI, 16, .inl fp)), (qc, .inl (cI, 16, .inl fc)), (qd, .inl (cI, 16, .inl fd)), (qk, .inl (cZ, 16, .inl fk)), (qO, .inr (1, [.ref qo, .int kept, .int gone])), (qo, .inl (cI, 500, .inl fo))] H := hP
      have hD : va_D A [(qx, .inr (3, [.ref qR, .ref qC, .ref qI, .ref qM, .ref qT, .ref qO, .int rT, .int rL, .int rC, .int rIn, .int cyc, .int wai])), (qR, .inl (cI, 32, .inl fR)), (qC, .inl (cI, 256, .inl fC)), (qI, .inl (cI, 1024, .inl fI)), (qM, .inr (0, [.ref qW, .int mar, .int rst])), (qW, .inl (cI, 1024, .inl fW)), (qT, .inr (2, [.ref qp, .ref qc, .ref qd, .ref qk, .int hand, .int hov, .int said])), (qp, .inl (cI, 16, .inl fp)), (qc, .inl (cI, 16, .inl fc)), (qd, .inl (cI, 16, .inl fd)), (qk, .inl (cZ, 16, .inl fk)), (qO, .inr (1, [.ref qo, .int kept, .int gone])), (qo, .inl (cI, 500, .inl fo))] := hD
      refine lv_aload_n hx hb dX3_run_23 rfl (lv_at hl 2 rfl) ?_
      refine ctI_V (As := []) (rest := []) (wc := [(qx, .inr (3, [.ref qR, .ref qC, .ref qI, .ref qM, .ref qT, .ref qO, .int rT, .int rL, .int rC, .int rIn, .int cyc, .int wai])), (qR, .inl (cI, 32, .inl fR)), (qC, .inl (cI, 256, .inl fC)), (qI, .inl (cI, 1024, .inl fI)), (qM, .inr (0, [.ref qW, .int mar, .int rst])), (qW, .inl (cI, 1024, .inl fW)), (qT, .inr (2, [.ref qp, .ref qc, .ref qd, .ref qk, .int hand, .int hov, .int said])), (qp, .inl (cI, 16, .inl fp)), (qc, .inl (cI, 16, .inl fc)), (qd, .inl (cI, 16, .inl fd)), (qk, .inl (cZ, 16, .inl fk)), (qO, .inr (1, [.ref qo, .int kept, .int gone])), (qo, .inl (cI, 500, .inl fo))]) (wr := []) ⟨hx, hb, hml, hown, hts⟩ (c_X3_cycle l D cI cZ qx qR qC qI qM qW qT qp qc qd qk qO qo fR fC fI fW fp fc fd fk fo rT rL rC rIn cyc wai mar rst hand hov said kept gone hh hp hk0) (cwV 0 hts (gd_V wm_X3_65 wi_X3_cycle ws_X3_cycle wz_X3 wo_X3_cycle) rfl rfl rfl (by decide +kernel) ⟨Nat.le_of_ble_eq_true rfl, Nat.le_of_ble_eq_true rfl⟩) hK hP hD hS hA 0 rfl rfl rfl [0, 1, 2, 3, 4, 5, 6, 7, 8, 9, 10, 11, 12] [] rfl rfl (by decide) (by decide) (by decide) rfl rfl hl.1 (Nat.le_of_ble_eq_true rfl) dX3_run_24 ⟨Nat.le_of_ble_eq_true rfl, Nat.le_of_ble_eq_true rfl⟩ (fun H locs hP hD hS => ?_)
      have hP : va_P D classes [(qx, .inr (3, [.ref qR, .ref qC, .ref qI, .ref qM, .ref qT, .ref qO, .int (z_X3_cycle_qx6 fR fC fI fW fp rT rL rC rIn mar rst hand), .int (z_X3_cycle_qx7 fR fC fI fW fp rT rL rC rIn mar rst hand), .int (z_X3_cycle_qx8 fR fC fI fW fp rT rL rC rIn mar rst hand), .int rIn, .int (cyc + 1), .int (z_X3_cycle_qx11 fI fp wai rst hand)])), (qR, .inl (cI, 32, .inl (z_X3_cycle_qR fR fI fp rL rst hand))), (qC, .inl (cI, 256, .inl fC)), (qI, .inl (cI, 1024, .inl fI)), (qM, .inr (0, [.ref qW, .int (z_X3_cycle_qM1 fR fC fI fW fp rT rL rC rIn mar rst hand), .int (z_X3_cycle_qM2 fI fp rst hand)])), (qW, .inl (cI, 1024, .inl (z_X3_cycle_qW fR fC fI fW fp rL rIn mar rst hand))), (qT, .inr (2, [.ref qp, .ref qc, .ref qd, .ref qk, .int (z_X3_cycle_qT4 fI fp fk rst hand said), .int (z_X3_cycle_qT5 fI fp fk rst hand hov said), .int (z_X3_cycle_qT6 fI fp rst hand said)])), (qp, .inl (cI, 16, .inl (z_X3_cycle_qp fI fp fc rst hand))), (qc, .inl (cI, 16, .inl (z_X3_cycle_qc fR fC fI fW fp fc rL rC rIn mar rst hand))), (qd, .inl (cI, 16, .inl (z_X3_cycle_qd fI fp fd rst hand))), (qk, .inl (cZ, 16, .inl (z_X3_cycle_qk fI fp fk rst hand))), (qO, .inr (1, [.ref qo, .int (z_X3_cycle_qO1 fI fp rst hand kept), .int (z_X3_cycle_qO2 fI fp rst hand gone)])), (qo, .inl (cI, 500, .inl (z_X3_cycle_qo fR fC fI fW fp fo rL rIn mar rst hand kept)))] H := hP
      have hD : va_D A [(qx, .inr (3, [.ref qR, .ref qC, .ref qI, .ref qM, .ref qT, .ref qO, .int (z_X3_cycle_qx6 fR fC fI fW fp rT rL rC rIn mar rst hand), .int (z_X3_cycle_qx7 fR fC fI fW fp rT rL rC rIn mar rst hand), .int (z_X3_cycle_qx8 fR fC fI fW fp rT rL rC rIn mar rst hand), .int rIn, .int (cyc + 1), .int (z_X3_cycle_qx11 fI fp wai rst hand)])), (qR, .inl (cI, 32, .inl (z_X3_cycle_qR fR fI fp rL rst hand))), (qC, .inl (cI, 256, .inl fC)), (qI, .inl (cI, 1024, .inl fI)), (qM, .inr (0, [.ref qW, .int (z_X3_cycle_qM1 fR fC fI fW fp rT rL rC rIn mar rst hand), .int (z_X3_cycle_qM2 fI fp rst hand)])), (qW, .inl (cI, 1024, .inl (z_X3_cycle_qW fR fC fI fW fp rL rIn mar rst hand))), (qT, .inr (2, [.ref qp, .ref qc, .ref qd, .ref qk, .int (z_X3_cycle_qT4 fI fp fk rst hand said), .int (z_X3_cycle_qT5 fI fp fk rst hand hov said), .int (z_X3_cycle_qT6 fI fp rst hand said)])), (qp, .inl (cI, 16, .inl (z_X3_cycle_qp fI fp fc rst hand))), (qc, .inl (cI, 16, .inl (z_X3_cycle_qc fR fC fI fW fp fc rL rC rIn mar rst hand))), (qd, .inl (cI, 16, .inl (z_X3_cycle_qd fI fp fd rst hand))), (qk, .inl (cZ, 16, .inl (z_X3_cycle_qk fI fp fk rst hand))), (qO, .inr (1, [.ref qo, .int (z_X3_cycle_qO1 fI fp rst hand kept), .int (z_X3_cycle_qO2 fI fp rst hand gone)])), (qo, .inl (cI, 500, .inl (z_X3_cycle_qo fR fC fI fW fp fo rL rIn mar rst hand kept)))] := hD
      refine lv_if_eq (tgt := 33) hx hb dX3_run_27 (by decide) (fun c_1 => ?_) (fun c_1 => ?_)
      · skip
        refine lv_iinc (v := x3 + 1) (lv' := [(3, .int (x3 + 1)), (2, .int d), (0, .ref qx), (1, .int p0)]) hx hb dX3_run_33 hl (k := 0) rfl (by rfl) (by decide) rfl (fun ls hl => ?_)
        refine lv_goto (tgt := 18) hx hb dX3_run_36 (by decide) ?_
        have hP := hP.sub (ws' := [(qx, .inr (3, [.ref qR, .ref qC, .ref qI, .ref qM, .ref qT, .ref qO, .int (z_X3_cycle_qx6 fR fC fI fW fp rT rL rC rIn mar rst hand), .int (z_X3_cycle_qx7 fR fC fI fW fp rT rL rC rIn mar rst hand), .int (z_X3_cycle_qx8 fR fC fI fW fp rT rL rC rIn mar rst hand), .int rIn, .int (cyc + 1), .int (z_X3_cycle_qx11 fI fp wai rst hand)])), (qR, .inl (cI, 32, .inl (z_X3_cycle_qR fR fI fp rL rst hand))), (qC, .inl (cI, 256, .inl fC)), (qI, .inl (cI, 1024, .inl fI)), (qM, .inr (0, [.ref qW, .int (z_X3_cycle_qM1 fR fC fI fW fp rT rL rC rIn mar rst hand), .int (z_X3_cycle_qM2 fI fp rst hand)])), (qW, .inl (cI, 1024, .inl (z_X3_cycle_qW fR fC fI fW fp rL rIn mar rst hand))), (qT, .inr (2, [.ref qp, .ref qc, .ref qd, .ref qk, .int (z_X3_cycle_qT4 fI fp fk rst hand said), .int (z_X3_cycle_qT5 fI fp fk rst hand hov said), .int (z_X3_cycle_qT6 fI fp rst hand said)])), (qp, .inl (cI, 16, .inl (z_X3_cycle_qp fI fp fc rst hand))), (qc, .inl (cI, 16, .inl (z_X3_cycle_qc fR fC fI fW fp fc rL rC rIn mar rst hand))), (qd, .inl (cI, 16, .inl (z_X3_cycle_qd fI fp fd rst hand))), (qk, .inl (cZ, 16, .inl (z_X3_cycle_qk fI fp fk rst hand))), (qO, .inr (1, [.ref qo, .int (z_X3_cycle_qO1 fI fp rst hand kept), .int (z_X3_cycle_qO2 fI fp rst hand gone)])), (qo, .inl (cI, 500, .inl (z_X3_cycle_qo fR fC fI fW fp fo rL rIn mar rst hand kept)))]) [0, 1, 2, 3, 4, 5, 6, 7, 8, 9, 10, 11, 12] rfl
        have hD := hD.sub (ws' := [(qx, .inr (3, [.ref qR, .ref qC, .ref qI, .ref qM, .ref qT, .ref qO, .int (z_X3_cycle_qx6 fR fC fI fW fp rT rL rC rIn mar rst hand), .int (z_X3_cycle_qx7 fR fC fI fW fp rT rL rC rIn mar rst hand), .int (z_X3_cycle_qx8 fR fC fI fW fp rT rL rC rIn mar rst hand), .int rIn, .int (cyc + 1), .int (z_X3_cycle_qx11 fI fp wai rst hand)])), (qR, .inl (cI, 32, .inl (z_X3_cycle_qR fR fI fp rL rst hand))), (qC, .inl (cI, 256, .inl fC)), (qI, .inl (cI, 1024, .inl fI)), (qM, .inr (0, [.ref qW, .int (z_X3_cycle_qM1 fR fC fI fW fp rT rL rC rIn mar rst hand), .int (z_X3_cycle_qM2 fI fp rst hand)])), (qW, .inl (cI, 1024, .inl (z_X3_cycle_qW fR fC fI fW fp rL rIn mar rst hand))), (qT, .inr (2, [.ref qp, .ref qc, .ref qd, .ref qk, .int (z_X3_cycle_qT4 fI fp fk rst hand said), .int (z_X3_cycle_qT5 fI fp fk rst hand hov said), .int (z_X3_cycle_qT6 fI fp rst hand said)])), (qp, .inl (cI, 16, .inl (z_X3_cycle_qp fI fp fc rst hand))), (qc, .inl (cI, 16, .inl (z_X3_cycle_qc fR fC fI fW fp fc rL rC rIn mar rst hand))), (qd, .inl (cI, 16, .inl (z_X3_cycle_qd fI fp fd rst hand))), (qk, .inl (cZ, 16, .inl (z_X3_cycle_qk fI fp fk rst hand))), (qO, .inr (1, [.ref qo, .int (z_X3_cycle_qO1 fI fp rst hand kept), .int (z_X3_cycle_qO2 fI fp rst hand gone)])), (qo, .inl (cI, 500, .inl (z_X3_cycle_qo fR fC fI fW fp fo rL rIn mar rst hand kept)))]) [0, 1, 2, 3, 4, 5, 6, 7, 8, 9, 10, 11, 12] (by decide) rfl
        have e_d : z_X3_run_d fI fp rst hand d = d := by simp only [z_X3_run_d, if_pos c_1]
        have hl := lv_sub hl [0, 1, 2, 3] rfl
        rw [← e_d] at hl
        exact ih (k + 1) (x_step (fR, fC, fI, fW, fp, fc, fd, fk, fo, rT, rL, rC, rIn, cyc, wai, mar, rst, hand, hov, said, kept, gone)) (x_next (fR, fC, fI, fW, fp, fc, fd, fk, fo, rT, rL, rC, rIn, cyc, wai, mar, rst, hand, hov, said, kept, gone) d) (x3 + 1) (by omega) (by rw [ex3]; exact nI_1 k) (fun j hj => hok (j + 1) (by omega)) hF hR _ _ (by show va_P D classes [(qx, .inr (3, [.ref qR, .ref qC, .ref qI, .ref qM, .ref qT, .ref qO, .int (z_X3_cycle_qx6 fR fC fI fW fp rT rL rC rIn mar rst hand), .int (z_X3_cycle_qx7 fR fC fI fW fp rT rL rC rIn mar rst hand), .int (z_X3_cycle_qx8 fR fC fI fW fp rT rL rC rIn mar rst hand), .int rIn, .int (cyc + 1), .int (z_X3_cycle_qx11 fI fp wai rst hand)])), (qR, .inl (cI, 32, .inl (z_X3_cycle_qR fR fI fp rL rst hand))), (qC, .inl (cI, 256, .inl fC)), (qI, .inl (cI, 1024, .inl fI)), (qM, .inr (0, [.ref qW, .int (z_X3_cycle_qM1 fR fC fI fW fp rT rL rC rIn mar rst hand), .int (z_X3_cycle_qM2 fI fp rst hand)])), (qW, .inl (cI, 1024, .inl (z_X3_cycle_qW fR fC fI fW fp rL rIn mar rst hand))), (qT, .inr (2, [.ref qp, .ref qc, .ref qd, .ref qk, .int (z_X3_cycle_qT4 fI fp fk rst hand said), .int (z_X3_cycle_qT5 fI fp fk rst hand hov said), .int (z_X3_cycle_qT6 fI fp rst hand said)])), (qp, .inl (cI, 16, .inl (z_X3_cycle_qp fI fp fc rst hand))), (qc, .inl (cI, 16, .inl (z_X3_cycle_qc fR fC fI fW fp fc rL rC rIn mar rst hand))), (qd, .inl (cI, 16, .inl (z_X3_cycle_qd fI fp fd rst hand))), (qk, .inl (cZ, 16, .inl (z_X3_cycle_qk fI fp fk rst hand))), (qO, .inr (1, [.ref qo, .int (z_X3_cycle_qO1 fI fp rst hand kept), .int (z_X3_cycle_qO2 fI fp rst hand gone)])), (qo, .inl (cI, 500, .inl (z_X3_cycle_qo fR fC fI fW fp fo rL rIn mar rst hand kept)))] _; exact hP) (by show va_D A [(qx, .inr (3, [.ref qR, .ref qC, .ref qI, .ref qM, .ref qT, .ref qO, .int (z_X3_cycle_qx6 fR fC fI fW fp rT rL rC rIn mar rst hand), .int (z_X3_cycle_qx7 fR fC fI fW fp rT rL rC rIn mar rst hand), .int (z_X3_cycle_qx8 fR fC fI fW fp rT rL rC rIn mar rst hand), .int rIn, .int (cyc + 1), .int (z_X3_cycle_qx11 fI fp wai rst hand)])), (qR, .inl (cI, 32, .inl (z_X3_cycle_qR fR fI fp rL rst hand))), (qC, .inl (cI, 256, .inl fC)), (qI, .inl (cI, 1024, .inl fI)), (qM, .inr (0, [.ref qW, .int (z_X3_cycle_qM1 fR fC fI fW fp rT rL rC rIn mar rst hand), .int (z_X3_cycle_qM2 fI fp rst hand)])), (qW, .inl (cI, 1024, .inl (z_X3_cycle_qW fR fC fI fW fp rL rIn mar rst hand))), (qT, .inr (2, [.ref qp, .ref qc, .ref qd, .ref qk, .int (z_X3_cycle_qT4 fI fp fk rst hand said), .int (z_X3_cycle_qT5 fI fp fk rst hand hov said), .int (z_X3_cycle_qT6 fI fp rst hand said)])), (qp, .inl (cI, 16, .inl (z_X3_cycle_qp fI fp fc rst hand))), (qc, .inl (cI, 16, .inl (z_X3_cycle_qc fR fC fI fW fp fc rL rC rIn mar rst hand))), (qd, .inl (cI, 16, .inl (z_X3_cycle_qd fI fp fd rst hand))), (qk, .inl (cZ, 16, .inl (z_X3_cycle_qk fI fp fk rst hand))), (qO, .inr (1, [.ref qo, .int (z_X3_cycle_qO1 fI fp rst hand kept), .int (z_X3_cycle_qO2 fI fp rst hand gone)])), (qo, .inl (cI, 500, .inl (z_X3_cycle_qo fR fC fI fW fp fo rL rIn mar rst hand kept)))]; exact hD) hS ls hl
      · skip
        refine lv_iinc (v := d + 1) (lv' := [(2, .int (d + 1)), (3, .int x3), (0, .ref qx), (1, .int p0)]) hx hb dX3_run_30 hl (k := 1) rfl (by rfl) (by decide) rfl (fun ls hl => ?_)
        refine lv_iinc (v := x3 + 1) (lv' := [(3, .int (x3 + 1)), (2, .int (d + 1)), (0, .ref qx), (1, .int p0)]) hx hb dX3_run_33 hl (k := 1) rfl (by rfl) (by decide) rfl (fun ls hl => ?_)
        refine lv_goto (tgt := 18) hx hb dX3_run_36 (by decide) ?_
        have hP := hP.sub (ws' := [(qx, .inr (3, [.ref qR, .ref qC, .ref qI, .ref qM, .ref qT, .ref qO, .int (z_X3_cycle_qx6 fR fC fI fW fp rT rL rC rIn mar rst hand), .int (z_X3_cycle_qx7 fR fC fI fW fp rT rL rC rIn mar rst hand), .int (z_X3_cycle_qx8 fR fC fI fW fp rT rL rC rIn mar rst hand), .int rIn, .int (cyc + 1), .int (z_X3_cycle_qx11 fI fp wai rst hand)])), (qR, .inl (cI, 32, .inl (z_X3_cycle_qR fR fI fp rL rst hand))), (qC, .inl (cI, 256, .inl fC)), (qI, .inl (cI, 1024, .inl fI)), (qM, .inr (0, [.ref qW, .int (z_X3_cycle_qM1 fR fC fI fW fp rT rL rC rIn mar rst hand), .int (z_X3_cycle_qM2 fI fp rst hand)])), (qW, .inl (cI, 1024, .inl (z_X3_cycle_qW fR fC fI fW fp rL rIn mar rst hand))), (qT, .inr (2, [.ref qp, .ref qc, .ref qd, .ref qk, .int (z_X3_cycle_qT4 fI fp fk rst hand said), .int (z_X3_cycle_qT5 fI fp fk rst hand hov said), .int (z_X3_cycle_qT6 fI fp rst hand said)])), (qp, .inl (cI, 16, .inl (z_X3_cycle_qp fI fp fc rst hand))), (qc, .inl (cI, 16, .inl (z_X3_cycle_qc fR fC fI fW fp fc rL rC rIn mar rst hand))), (qd, .inl (cI, 16, .inl (z_X3_cycle_qd fI fp fd rst hand))), (qk, .inl (cZ, 16, .inl (z_X3_cycle_qk fI fp fk rst hand))), (qO, .inr (1, [.ref qo, .int (z_X3_cycle_qO1 fI fp rst hand kept), .int (z_X3_cycle_qO2 fI fp rst hand gone)])), (qo, .inl (cI, 500, .inl (z_X3_cycle_qo fR fC fI fW fp fo rL rIn mar rst hand kept)))]) [0, 1, 2, 3, 4, 5, 6, 7, 8, 9, 10, 11, 12] rfl
        have hD := hD.sub (ws' := [(qx, .inr (3, [.ref qR, .ref qC, .ref qI, .ref qM, .ref qT, .ref qO, .int (z_X3_cycle_qx6 fR fC fI fW fp rT rL rC rIn mar rst hand), .int (z_X3_cycle_qx7 fR fC fI fW fp rT rL rC rIn mar rst hand), .int (z_X3_cycle_qx8 fR fC fI fW fp rT rL rC rIn mar rst hand), .int rIn, .int (cyc + 1), .int (z_X3_cycle_qx11 fI fp wai rst hand)])), (qR, .inl (cI, 32, .inl (z_X3_cycle_qR fR fI fp rL rst hand))), (qC, .inl (cI, 256, .inl fC)), (qI, .inl (cI, 1024, .inl fI)), (qM, .inr (0, [.ref qW, .int (z_X3_cycle_qM1 fR fC fI fW fp rT rL rC rIn mar rst hand), .int (z_X3_cycle_qM2 fI fp rst hand)])), (qW, .inl (cI, 1024, .inl (z_X3_cycle_qW fR fC fI fW fp rL rIn mar rst hand))), (qT, .inr (2, [.ref qp, .ref qc, .ref qd, .ref qk, .int (z_X3_cycle_qT4 fI fp fk rst hand said), .int (z_X3_cycle_qT5 fI fp fk rst hand hov said), .int (z_X3_cycle_qT6 fI fp rst hand said)])), (qp, .inl (cI, 16, .inl (z_X3_cycle_qp fI fp fc rst hand))), (qc, .inl (cI, 16, .inl (z_X3_cycle_qc fR fC fI fW fp fc rL rC rIn mar rst hand))), (qd, .inl (cI, 16, .inl (z_X3_cycle_qd fI fp fd rst hand))), (qk, .inl (cZ, 16, .inl (z_X3_cycle_qk fI fp fk rst hand))), (qO, .inr (1, [.ref qo, .int (z_X3_cycle_qO1 fI fp rst hand kept), .int (z_X3_cycle_qO2 fI fp rst hand gone)])), (qo, .inl (cI, 500, .inl (z_X3_cycle_qo fR fC fI fW fp fo rL rIn mar rst hand kept)))]) [0, 1, 2, 3, 4, 5, 6, 7, 8, 9, 10, 11, 12] (by decide) rfl
        have e_d : z_X3_run_d fI fp rst hand d = d + 1 := by simp only [z_X3_run_d, if_neg c_1]
        have hl := lv_sub hl [0, 1, 2, 3] rfl
        rw [← e_d] at hl
        exact ih (k + 1) (x_step (fR, fC, fI, fW, fp, fc, fd, fk, fo, rT, rL, rC, rIn, cyc, wai, mar, rst, hand, hov, said, kept, gone)) (x_next (fR, fC, fI, fW, fp, fc, fd, fk, fo, rT, rL, rC, rIn, cyc, wai, mar, rst, hand, hov, said, kept, gone) d) (x3 + 1) (by omega) (by rw [ex3]; exact nI_1 k) (fun j hj => hok (j + 1) (by omega)) hF hR _ _ (by show va_P D classes [(qx, .inr (3, [.ref qR, .ref qC, .ref qI, .ref qM, .ref qT, .ref qO, .int (z_X3_cycle_qx6 fR fC fI fW fp rT rL rC rIn mar rst hand), .int (z_X3_cycle_qx7 fR fC fI fW fp rT rL rC rIn mar rst hand), .int (z_X3_cycle_qx8 fR fC fI fW fp rT rL rC rIn mar rst hand), .int rIn, .int (cyc + 1), .int (z_X3_cycle_qx11 fI fp wai rst hand)])), (qR, .inl (cI, 32, .inl (z_X3_cycle_qR fR fI fp rL rst hand))), (qC, .inl (cI, 256, .inl fC)), (qI, .inl (cI, 1024, .inl fI)), (qM, .inr (0, [.ref qW, .int (z_X3_cycle_qM1 fR fC fI fW fp rT rL rC rIn mar rst hand), .int (z_X3_cycle_qM2 fI fp rst hand)])), (qW, .inl (cI, 1024, .inl (z_X3_cycle_qW fR fC fI fW fp rL rIn mar rst hand))), (qT, .inr (2, [.ref qp, .ref qc, .ref qd, .ref qk, .int (z_X3_cycle_qT4 fI fp fk rst hand said), .int (z_X3_cycle_qT5 fI fp fk rst hand hov said), .int (z_X3_cycle_qT6 fI fp rst hand said)])), (qp, .inl (cI, 16, .inl (z_X3_cycle_qp fI fp fc rst hand))), (qc, .inl (cI, 16, .inl (z_X3_cycle_qc fR fC fI fW fp fc rL rC rIn mar rst hand))), (qd, .inl (cI, 16, .inl (z_X3_cycle_qd fI fp fd rst hand))), (qk, .inl (cZ, 16, .inl (z_X3_cycle_qk fI fp fk rst hand))), (qO, .inr (1, [.ref qo, .int (z_X3_cycle_qO1 fI fp rst hand kept), .int (z_X3_cycle_qO2 fI fp rst hand gone)])), (qo, .inl (cI, 500, .inl (z_X3_cycle_qo fR fC fI fW fp fo rL rIn mar rst hand kept)))] _; exact hP) (by show va_D A [(qx, .inr (3, [.ref qR, .ref qC, .ref qI, .ref qM, .ref qT, .ref qO, .int (z_X3_cycle_qx6 fR fC fI fW fp rT rL rC rIn mar rst hand), .int (z_X3_cycle_qx7 fR fC fI fW fp rT rL rC rIn mar rst hand), .int (z_X3_cycle_qx8 fR fC fI fW fp rT rL rC rIn mar rst hand), .int rIn, .int (cyc + 1), .int (z_X3_cycle_qx11 fI fp wai rst hand)])), (qR, .inl (cI, 32, .inl (z_X3_cycle_qR fR fI fp rL rst hand))), (qC, .inl (cI, 256, .inl fC)), (qI, .inl (cI, 1024, .inl fI)), (qM, .inr (0, [.ref qW, .int (z_X3_cycle_qM1 fR fC fI fW fp rT rL rC rIn mar rst hand), .int (z_X3_cycle_qM2 fI fp rst hand)])), (qW, .inl (cI, 1024, .inl (z_X3_cycle_qW fR fC fI fW fp rL rIn mar rst hand))), (qT, .inr (2, [.ref qp, .ref qc, .ref qd, .ref qk, .int (z_X3_cycle_qT4 fI fp fk rst hand said), .int (z_X3_cycle_qT5 fI fp fk rst hand hov said), .int (z_X3_cycle_qT6 fI fp rst hand said)])), (qp, .inl (cI, 16, .inl (z_X3_cycle_qp fI fp fc rst hand))), (qc, .inl (cI, 16, .inl (z_X3_cycle_qc fR fC fI fW fp fc rL rC rIn mar rst hand))), (qd, .inl (cI, 16, .inl (z_X3_cycle_qd fI fp fd rst hand))), (qk, .inl (cZ, 16, .inl (z_X3_cycle_qk fI fp fk rst hand))), (qO, .inr (1, [.ref qo, .int (z_X3_cycle_qO1 fI fp rst hand kept), .int (z_X3_cycle_qO2 fI fp rst hand gone)])), (qo, .inl (cI, 500, .inl (z_X3_cycle_qo fR fC fI fW fp fo rL rIn mar rst hand kept)))]; exact hD) hS ls hl
def x_runW (p0 : Int32) (u : XS) : XS := (if p0 < 1 then u else if p0 ≤ 5000 then x_run p0.toNatClampNeg u else u)
def x_runR (p0 : Int32) (u : XS) : Int32 := (if p0 < 1 then -1 else if p0 ≤ 5000 then x_cnt p0.toNatClampNeg u 0 else -1)
set_option maxHeartbeats 4000000 in
set_option maxRecDepth 100000 in
theorem c_X3_run (l : Launch) (D : va_G) (cI cZ : ClassId) (qx qR qC qI qM qW qT qp qc qd qk qO qo : Nat) (u : XS) (p0 : Int32) (hok : ∀ j, j < 5000 → x_ok (x_run j u)) : CtI l D classes [(cI, .int), (cZ, .boolean)] yX3_run w_X3_run { frames := 5, cells := 0, slots := 0, locals := 113 } [.ref qx, .int p0] (xw qx qR qC qI qM qW qT qp qc qd qk qO qo cI cZ u) (xw qx qR qC qI qM qW qT qp qc qd qk qO qo cI cZ (x_runW p0 u)) (x_runR p0 u) := by
  refine CtI.mk (cc := cX3_run) (maxL := 4) (ret := (some .int)) (by decide) rfl (Nat.le_of_ble_eq_true rfl) ?_
  intro p e s m below meth c A hBeg ls hl
  obtain ⟨hx, hb, hr, hml, hts0, hown, hlocks, hin, hA, hK, hP, hD, hS⟩ := hBeg
  have hts := fun w h => hts0 w (List.mem_cons_of_mem _ h)
  have hown : s.vm.findClass RX3 = some m.cls := hown
  have hl : lv_has ls 4 [(0, .ref qx), (1, .int p0)] := hl
  refine lv_iload_n hx hb dX3_run_0 rfl (lv_at hl 1 rfl) ?_
  refine lv_iconst (v := 1) hx hb dX3_run_1 (by decide) ?_
  refine lv_icmp_lt (tgt := 12) hx hb dX3_run_2 (by decide) (fun c_1 => ?_) (fun c_1 => ?_)
  · refine lv_iconst (v := (-1)) hx hb dX3_run_12 (by decide) ?_
    exact ct_iret hx hb hr hlocks hP hD hS (by simp only [x_runW, if_pos c_1]) (by simp only [x_runR, if_pos c_1]) dX3_run_13
  · refine lv_iload_n hx hb dX3_run_5 rfl (lv_at hl 1 rfl) ?_
    refine lv_sipush (v := 5000) hx hb dX3_run_6 (by decide) ?_
    refine lv_icmp_le (tgt := 14) hx hb dX3_run_9 (by decide) (fun c_2 => ?_) (fun c_2 => ?_)
    · refine lv_iconst (v := 0) hx hb dX3_run_14 (by decide) ?_
      refine lv_istore_n (lv' := [(2, .int 0), (0, .ref qx), (1, .int p0)]) hx hb dX3_run_15 rfl hl (by decide) rfl (fun ls hl => ?_)
      refine lv_iconst (v := 0) hx hb dX3_run_16 (by decide) ?_
      refine lv_istore_n (lv' := [(3, .int 0), (2, .int 0), (0, .ref qx), (1, .int p0)]) hx hb dX3_run_17 rfl hl (by decide) rfl (fun ls hl => ?_)
      obtain ⟨N, hN5, hN⟩ := run_N c_1 c_2
      have hcl : p0.toNatClampNeg = N := by rw [hN]; exact nI_clamp (by omega)
      refine lp_X3_run l D cI cZ qx qR qC qI qM qW qT qp qc qd qk qO qo p0 N hN hN5 hx hb hr hml hts hown hlocks hA hK _ _ N 0 u 0 0 (by omega) rfl (fun j hj => hok j (by omega)) ?_ ?_ _ _ hP hD hS ls hl
      · simp only [x_runW, if_neg c_1, if_pos c_2, hcl]
      · simp only [x_runR, if_neg c_1, if_pos c_2, hcl]
    · refine lv_iconst (v := (-1)) hx hb dX3_run_12 (by decide) ?_
      exact ct_iret hx hb hr hlocks hP hD hS (by simp only [x_runW, if_neg c_1, if_neg c_2]) (by simp only [x_runR, if_neg c_1, if_neg c_2]) dX3_run_13
end
end
