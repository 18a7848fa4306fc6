section
def gt : List Cond := lw_tbl.filter goodWord
theorem gt_at {w : Cond} (i : Nat) (h : lw_tbl[i]? = some w) (hg : goodWord w = true) : w ∈ gt := List.mem_filter.mpr ⟨List.mem_of_getElem? h, hg⟩
theorem gt_in : ∀ w ∈ gt, w ∈ lw_tbl := fun _ h => (List.mem_filter.mp h).1
theorem gt_good : ∀ w ∈ gt, w ∈ gt ∧ ((w.onTables && w.keeps) = true ∨ ∃ ty, w = .arrayClass ty) := fun _ h => ⟨h, good_of_word (List.mem_filter.mp h).2⟩
theorem gt_of {ws : List Cond} (ps : List Nat) (hp : ws = ps.filterMap (fun i => lw_tbl[i]?)) (hg : ws.all goodWord = true) : ∀ w ∈ ws, w ∈ gt := fun w hw => List.mem_filter.mpr ⟨by
  rw [hp] at hw
  obtain ⟨i, -, hi⟩ := List.mem_filterMap.mp hw
  exact List.mem_of_getElem? hi, List.all_eq_true.mp hg w hw⟩
theorem gd_C {cw : Cond} (h : cw ∈ gt) : GoodIn gt (cw :: gt) := fun w hw => (List.mem_cons.mp hw).elim (fun e => e ▸ gt_good _ h) (gt_good w)
theorem gd_V {own C : String} {idx : Nat} {y : MethodName} {cw : Cond} (h1 : Cond.methodLink own idx y ∈ gt) (h2 : Cond.instanceMethod y ∈ gt) (h3 : Cond.selects C y y ∈ gt) (h4 : Cond.initialized C ∈ gt) (h5 : cw ∈ gt) : GoodIn gt (wsV own idx C y (cw :: gt)) := by
  intro w hw
  unfold wsV at hw
  rcases List.mem_append.mp hw with h | h
  · simp only [List.mem_cons, List.not_mem_nil, or_false] at h
    rcases h with rfl | rfl | rfl | rfl
    · exact gt_good _ h1
    · exact gt_good _ h2
    · exact gt_good _ h3
    · exact gt_good _ h4
  · exact gd_C h5 w h
theorem gd_S {own : String} {idx : Nat} {y : MethodName} {cw : Cond} (h1 : Cond.methodLink own idx y ∈ gt) (h2 : Cond.static y ∈ gt) (h4 : Cond.initialized own ∈ gt) (h5 : cw ∈ gt) : GoodIn gt (wsS own idx y (cw :: gt)) := by
  intro w hw
  unfold wsS at hw
  rcases List.mem_append.mp hw with h | h
  · simp only [List.mem_cons, List.not_mem_nil, or_false] at h
    rcases h with rfl | rfl | rfl
    · exact gt_good _ h1
    · exact gt_good _ h2
    · exact gt_good _ h4
  · exact gd_C h5 w h
set_option maxRecDepth 20000 in
theorem ws_X3_cycle : Cond.selects RX3 yX3_cycle yX3_cycle ∈ gt := gt_at 0 rfl rfl
set_option maxRecDepth 20000 in
theorem ws_X3_mustWait : Cond.selects RX3 yX3_mustWait yX3_mustWait ∈ gt := gt_at 1 rfl rfl
set_option maxRecDepth 20000 in
theorem ws_X3_perform : Cond.selects RX3 yX3_perform yX3_perform ∈ gt := gt_at 2 rfl rfl
set_option maxRecDepth 20000 in
theorem ws_X3_shiftedL : Cond.selects RX3 yX3_shiftedL yX3_shiftedL ∈ gt := gt_at 3 rfl rfl
set_option maxRecDepth 20000 in
theorem ws_X3_busOf : Cond.selects RX3 yX3_busOf yX3_busOf ∈ gt := gt_at 4 rfl rfl
set_option maxRecDepth 20000 in
theorem ws_X3_sumOf : Cond.selects RX3 yX3_sumOf yX3_sumOf ∈ gt := gt_at 5 rfl rfl
set_option maxRecDepth 20000 in
theorem ws_X3_changeOf : Cond.selects RX3 yX3_changeOf yX3_changeOf ∈ gt := gt_at 6 rfl rfl
set_option maxRecDepth 20000 in
theorem ws_X3_useMemory : Cond.selects RX3 yX3_useMemory yX3_useMemory ∈ gt := gt_at 7 rfl rfl
set_option maxRecDepth 20000 in
theorem ws_X2_greatestWoken : Cond.selects RX2 yX2_greatestWoken yX2_greatestWoken ∈ gt := gt_at 8 rfl rfl
set_option maxRecDepth 20000 in
theorem ws_X2_giveTo : Cond.selects RX2 yX2_giveTo yX2_giveTo ∈ gt := gt_at 9 rfl rfl
set_option maxRecDepth 20000 in
theorem ws_X4_waits : Cond.selects RX4 yX4_waits yX4_waits ∈ gt := gt_at 10 rfl rfl
set_option maxRecDepth 20000 in
theorem ws_X4_hasConstant : Cond.selects RX4 yX4_hasConstant yX4_hasConstant ∈ gt := gt_at 11 rfl rfl
set_option maxRecDepth 20000 in
theorem ws_X4_act : Cond.selects RX4 yX4_act yX4_act ∈ gt := gt_at 12 rfl rfl
set_option maxRecDepth 20000 in
theorem ws_X4_shifted : Cond.selects RX4 yX4_shifted yX4_shifted ∈ gt := gt_at 13 rfl rfl
set_option maxRecDepth 20000 in
theorem ws_X4_bus : Cond.selects RX4 yX4_bus yX4_bus ∈ gt := gt_at 14 rfl rfl
set_option maxRecDepth 20000 in
theorem ws_X4_reckon : Cond.selects RX4 yX4_reckon yX4_reckon ∈ gt := gt_at 15 rfl rfl
set_option maxRecDepth 20000 in
theorem ws_X4_add : Cond.selects RX4 yX4_add yX4_add ∈ gt := gt_at 16 rfl rfl
set_option maxRecDepth 20000 in
theorem ws_X4_take : Cond.selects RX4 yX4_take yX4_take ∈ gt := gt_at 17 rfl rfl
set_option maxRecDepth 20000 in
theorem ws_X4_change : Cond.selects RX4 yX4_change yX4_change ∈ gt := gt_at 18 rfl rfl
set_option maxRecDepth 20000 in
theorem ws_X4_isOfAlu : Cond.selects RX4 yX4_isOfAlu yX4_isOfAlu ∈ gt := gt_at 19 rfl rfl
set_option maxRecDepth 20000 in
theorem ws_X4_give : Cond.selects RX4 yX4_give yX4_give ∈ gt := gt_at 20 rfl rfl
set_option maxRecDepth 20000 in
theorem wz_L : Cond.initialized RL ∈ gt := gt_at 21 rfl rfl
set_option maxRecDepth 20000 in
theorem wz_X3 : Cond.initialized RX3 ∈ gt := gt_at 22 rfl rfl
set_option maxRecDepth 20000 in
theorem wz_X0 : Cond.initialized RX0 ∈ gt := gt_at 23 rfl rfl
set_option maxRecDepth 20000 in
theorem wz_X2 : Cond.initialized RX2 ∈ gt := gt_at 24 rfl rfl
set_option maxRecDepth 20000 in
theorem wz_X1 : Cond.initialized RX1 ∈ gt := gt_at 25 rfl rfl
set_option maxRecDepth 20000 in
theorem wz_X4 : Cond.initialized RX4 ∈ gt := gt_at 26 rfl rfl
set_option maxRecDepth 20000 in
theorem wc_L_7 : Cond.classLink RL 7 RX3 ∈ gt := gt_at 27 rfl rfl
set_option maxRecDepth 20000 in
theorem wn_X3 : Cond.instantiable RX3 12 ∈ gt := gt_at 28 rfl rfl
set_option maxRecDepth 20000 in
theorem wm_L_9 : Cond.methodLink RL 9 yX3_init ∈ gt := gt_at 29 rfl rfl
set_option maxRecDepth 20000 in
theorem wi_X3_init : Cond.instanceMethod yX3_init ∈ gt := gt_at 30 rfl rfl
set_option maxRecDepth 20000 in
theorem wo_X3_init : Cond.code yX3_init cX3_init 1 none ∈ gt := gt_at 31 rfl rfl
set_option maxRecDepth 20000 in
theorem wm_X3_3 : Cond.methodLink RX3 3 objectInit ∈ gt := gt_at 32 rfl rfl
set_option maxRecDepth 20000 in
theorem wi_obj : Cond.instanceMethod objectInit ∈ gt := gt_at 33 rfl rfl
set_option maxRecDepth 20000 in
theorem wo_obj : Cond.code objectInit ⟨#[0xb1]⟩ 1 none ∈ gt := gt_at 34 rfl rfl
set_option maxRecDepth 20000 in
theorem wc_X3_19 : Cond.classLink RX3 19 RX0 ∈ gt := gt_at 35 rfl rfl
set_option maxRecDepth 20000 in
theorem wn_X0 : Cond.instantiable RX0 3 ∈ gt := gt_at 36 rfl rfl
set_option maxRecDepth 20000 in
theorem wm_X3_21 : Cond.methodLink RX3 21 yX0_init ∈ gt := gt_at 37 rfl rfl
set_option maxRecDepth 20000 in
theorem wi_X0_init : Cond.instanceMethod yX0_init ∈ gt := gt_at 38 rfl rfl
set_option maxRecDepth 20000 in
theorem wo_X0_init : Cond.code yX0_init cX0_init 1 none ∈ gt := gt_at 39 rfl rfl
set_option maxRecDepth 20000 in
theorem wm_X0_3 : Cond.methodLink RX0 3 objectInit ∈ gt := gt_at 40 rfl rfl
set_option maxRecDepth 20000 in
theorem wf_X0_9 : Cond.fieldLink RX0 9 "MicroTasks$Memory" "words" "[I" ∈ gt := gt_at 41 rfl rfl
set_option maxRecDepth 20000 in
theorem wf_X3_45 : Cond.fieldLink RX3 45 "MicroTasks$Memory" "words" "[I" ∈ gt := gt_at 42 rfl rfl
set_option maxRecDepth 20000 in
theorem wf_X0_19 : Cond.fieldLink RX0 19 "MicroTasks$Memory" "mar" "I" ∈ gt := gt_at 43 rfl rfl
set_option maxRecDepth 20000 in
theorem wf_X3_78 : Cond.fieldLink RX3 78 "MicroTasks$Memory" "mar" "I" ∈ gt := gt_at 44 rfl rfl
set_option maxRecDepth 20000 in
theorem wf_X0_15 : Cond.fieldLink RX0 15 "MicroTasks$Memory" "rested" "I" ∈ gt := gt_at 45 rfl rfl
set_option maxRecDepth 20000 in
theorem wf_X3_121 : Cond.fieldLink RX3 121 "MicroTasks$Memory" "rested" "I" ∈ gt := gt_at 46 rfl rfl
set_option maxRecDepth 20000 in
theorem wa_int : Cond.arrayClass .int ∈ gt := gt_at 54 rfl rfl
set_option maxRecDepth 20000 in
theorem wc_X3_26 : Cond.classLink RX3 26 RX2 ∈ gt := gt_at 55 rfl rfl
set_option maxRecDepth 20000 in
theorem wn_X2 : Cond.instantiable RX2 7 ∈ gt := gt_at 56 rfl rfl
set_option maxRecDepth 20000 in
theorem wm_X3_28 : Cond.methodLink RX3 28 yX2_init ∈ gt := gt_at 57 rfl rfl
set_option maxRecDepth 20000 in
theorem wi_X2_init : Cond.instanceMethod yX2_init ∈ gt := gt_at 58 rfl rfl
set_option maxRecDepth 20000 in
theorem wo_X2_init : Cond.code yX2_init cX2_init 1 none ∈ gt := gt_at 59 rfl rfl
set_option maxRecDepth 20000 in
theorem wm_X2_3 : Cond.methodLink RX2 3 objectInit ∈ gt := gt_at 60 rfl rfl
set_option maxRecDepth 20000 in
theorem wf_X2_9 : Cond.fieldLink RX2 9 "MicroTasks$Tasks" "places" "[I" ∈ gt := gt_at 61 rfl rfl
set_option maxRecDepth 20000 in
theorem wf_X3_59 : Cond.fieldLink RX3 59 "MicroTasks$Tasks" "places" "[I" ∈ gt := gt_at 62 rfl rfl
set_option maxRecDepth 20000 in
theorem wf_X2_15 : Cond.fieldLink RX2 15 "MicroTasks$Tasks" "changes" "[I" ∈ gt := gt_at 63 rfl rfl
set_option maxRecDepth 20000 in
theorem wf_X3_62 : Cond.fieldLink RX3 62 "MicroTasks$Tasks" "changes" "[I" ∈ gt := gt_at 64 rfl rfl
set_option maxRecDepth 20000 in
theorem wf_X2_18 : Cond.fieldLink RX2 18 "MicroTasks$Tasks" "done" "[I" ∈ gt := gt_at 65 rfl rfl
set_option maxRecDepth 20000 in
theorem wf_X3_89 : Cond.fieldLink RX3 89 "MicroTasks$Tasks" "done" "[I" ∈ gt := gt_at 66 rfl rfl
set_option maxRecDepth 20000 in
theorem wf_X2_21 : Cond.fieldLink RX2 21 "MicroTasks$Tasks" "woken" "[Z" ∈ gt := gt_at 67 rfl rfl
set_option maxRecDepth 20000 in
theorem wf_X3_85 : Cond.fieldLink RX3 85 "MicroTasks$Tasks" "woken" "[Z" ∈ gt := gt_at 68 rfl rfl
set_option maxRecDepth 20000 in
theorem wf_X2_25 : Cond.fieldLink RX2 25 "MicroTasks$Tasks" "hand" "I" ∈ gt := gt_at 69 rfl rfl
set_option maxRecDepth 20000 in
theorem wf_X3_92 : Cond.fieldLink RX3 92 "MicroTasks$Tasks" "hand" "I" ∈ gt := gt_at 70 rfl rfl
set_option maxRecDepth 20000 in
theorem wf_X2_41 : Cond.fieldLink RX2 41 "MicroTasks$Tasks" "handovers" "I" ∈ gt := gt_at 71 rfl rfl
set_option maxRecDepth 20000 in
theorem wf_X3_108 : Cond.fieldLink RX3 108 "MicroTasks$Tasks" "handovers" "I" ∈ gt := gt_at 72 rfl rfl
set_option maxRecDepth 20000 in
theorem wf_X2_29 : Cond.fieldLink RX2 29 "MicroTasks$Tasks" "taskSaid" "Z" ∈ gt := gt_at 73 rfl rfl
set_option maxRecDepth 20000 in
theorem wa_boolean : Cond.arrayClass .boolean ∈ gt := gt_at 89 rfl rfl
set_option maxRecDepth 20000 in
theorem wc_X3_33 : Cond.classLink RX3 33 RX1 ∈ gt := gt_at 90 rfl rfl
set_option maxRecDepth 20000 in
theorem wn_X1 : Cond.instantiable RX1 3 ∈ gt := gt_at 91 rfl rfl
set_option maxRecDepth 20000 in
theorem wm_X3_35 : Cond.methodLink RX3 35 yX1_init ∈ gt := gt_at 92 rfl rfl
set_option maxRecDepth 20000 in
theorem wi_X1_init : Cond.instanceMethod yX1_init ∈ gt := gt_at 93 rfl rfl
set_option maxRecDepth 20000 in
theorem wo_X1_init : Cond.code yX1_init cX1_init 1 none ∈ gt := gt_at 94 rfl rfl
set_option maxRecDepth 20000 in
theorem wm_X1_3 : Cond.methodLink RX1 3 objectInit ∈ gt := gt_at 95 rfl rfl
set_option maxRecDepth 20000 in
theorem wf_X1_9 : Cond.fieldLink RX1 9 "MicroTasks$Output" "words" "[I" ∈ gt := gt_at 96 rfl rfl
set_option maxRecDepth 20000 in
theorem wf_X3_98 : Cond.fieldLink RX3 98 "MicroTasks$Output" "words" "[I" ∈ gt := gt_at 97 rfl rfl
set_option maxRecDepth 20000 in
theorem wf_X1_15 : Cond.fieldLink RX1 15 "MicroTasks$Output" "kept" "I" ∈ gt := gt_at 98 rfl rfl
set_option maxRecDepth 20000 in
theorem wf_X3_95 : Cond.fieldLink RX3 95 "MicroTasks$Output" "kept" "I" ∈ gt := gt_at 99 rfl rfl
set_option maxRecDepth 20000 in
theorem wf_X1_19 : Cond.fieldLink RX1 19 "MicroTasks$Output" "gone" "I" ∈ gt := gt_at 100 rfl rfl
set_option maxRecDepth 20000 in
theorem wf_X3_105 : Cond.fieldLink RX3 105 "MicroTasks$Output" "gone" "I" ∈ gt := gt_at 101 rfl rfl
set_option maxRecDepth 20000 in
theorem wf_X3_9 : Cond.fieldLink RX3 9 "MicroTasks" "registers" "[I" ∈ gt := gt_at 109 rfl rfl
set_option maxRecDepth 20000 in
theorem wf_X3_13 : Cond.fieldLink RX3 13 "MicroTasks" "constants" "[I" ∈ gt := gt_at 110 rfl rfl
set_option maxRecDepth 20000 in
theorem wf_X3_16 : Cond.fieldLink RX3 16 "MicroTasks" "instructions" "[I" ∈ gt := gt_at 111 rfl rfl
set_option maxRecDepth 20000 in
theorem wf_X3_22 : Cond.fieldLink RX3 22 "MicroTasks" "memory" "LMicroTasks$Memory;" ∈ gt := gt_at 112 rfl rfl
set_option maxRecDepth 20000 in
theorem wf_X3_29 : Cond.fieldLink RX3 29 "MicroTasks" "tasks" "LMicroTasks$Tasks;" ∈ gt := gt_at 113 rfl rfl
set_option maxRecDepth 20000 in
theorem wf_X3_36 : Cond.fieldLink RX3 36 "MicroTasks" "output" "LMicroTasks$Output;" ∈ gt := gt_at 114 rfl rfl
set_option maxRecDepth 20000 in
theorem wf_X3_69 : Cond.fieldLink RX3 69 "MicroTasks" "t" "I" ∈ gt := gt_at 115 rfl rfl
set_option maxRecDepth 20000 in
theorem wf_X3_72 : Cond.fieldLink RX3 72 "MicroTasks" "l" "I" ∈ gt := gt_at 116 rfl rfl
set_option maxRecDepth 20000 in
theorem wf_X3_75 : Cond.fieldLink RX3 75 "MicroTasks" "carry" "I" ∈ gt := gt_at 117 rfl rfl
set_option maxRecDepth 20000 in
theorem wf_X3_48 : Cond.fieldLink RX3 48 "MicroTasks" "input" "I" ∈ gt := gt_at 118 rfl rfl
set_option maxRecDepth 20000 in
theorem wf_X3_99 : Cond.fieldLink RX3 99 "MicroTasks" "cyclesGone" "I" ∈ gt := gt_at 119 rfl rfl
set_option maxRecDepth 20000 in
theorem wf_X3_102 : Cond.fieldLink RX3 102 "MicroTasks" "cyclesWaited" "I" ∈ gt := gt_at 120 rfl rfl
set_option maxRecDepth 20000 in
theorem wm_L_13 : Cond.methodLink RL 13 yX3_store ∈ gt := gt_at 146 rfl rfl
set_option maxRecDepth 20000 in
theorem wi_X3_store : Cond.instanceMethod yX3_store ∈ gt := gt_at 147 rfl rfl
set_option maxRecDepth 20000 in
theorem ws_X3_store : Cond.selects RX3 yX3_store yX3_store ∈ gt := gt_at 148 rfl rfl
set_option maxRecDepth 20000 in
theorem wo_X3_store : Cond.code yX3_store cX3_store 3 (some .boolean) ∈ gt := gt_at 149 rfl rfl
set_option maxRecDepth 20000 in
theorem wm_X3_40 : Cond.methodLink RX3 40 yX3_keep ∈ gt := gt_at 150 rfl rfl
set_option maxRecDepth 20000 in
theorem wt_X3_keep : Cond.static yX3_keep ∈ gt := gt_at 151 rfl rfl
set_option maxRecDepth 20000 in
theorem wo_X3_keep : Cond.code yX3_keep cX3_keep 3 (some .boolean) ∈ gt := gt_at 152 rfl rfl
set_option maxRecDepth 20000 in
theorem wm_L_18 : Cond.methodLink RL 18 yX3_constant ∈ gt := gt_at 153 rfl rfl
set_option maxRecDepth 20000 in
theorem wi_X3_constant : Cond.instanceMethod yX3_constant ∈ gt := gt_at 154 rfl rfl
set_option maxRecDepth 20000 in
theorem ws_X3_constant : Cond.selects RX3 yX3_constant yX3_constant ∈ gt := gt_at 155 rfl rfl
set_option maxRecDepth 20000 in
theorem wo_X3_constant : Cond.code yX3_constant cX3_constant 3 (some .boolean) ∈ gt := gt_at 156 rfl rfl
set_option maxRecDepth 20000 in
theorem wk_X3_44 : Cond.constant RX3 44 (65535) ∈ gt := gt_at 157 rfl rfl
set_option maxRecDepth 20000 in
theorem wm_L_22 : Cond.methodLink RL 22 yX3_poke ∈ gt := gt_at 158 rfl rfl
set_option maxRecDepth 20000 in
theorem wi_X3_poke : Cond.instanceMethod yX3_poke ∈ gt := gt_at 159 rfl rfl
set_option maxRecDepth 20000 in
theorem ws_X3_poke : Cond.selects RX3 yX3_poke yX3_poke ∈ gt := gt_at 160 rfl rfl
set_option maxRecDepth 20000 in
theorem wo_X3_poke : Cond.code yX3_poke cX3_poke 3 (some .boolean) ∈ gt := gt_at 161 rfl rfl
set_option maxRecDepth 20000 in
theorem wm_L_26 : Cond.methodLink RL 26 yX3_set ∈ gt := gt_at 162 rfl rfl
set_option maxRecDepth 20000 in
theorem wi_X3_set : Cond.instanceMethod yX3_set ∈ gt := gt_at 163 rfl rfl
set_option maxRecDepth 20000 in
theorem ws_X3_set : Cond.selects RX3 yX3_set yX3_set ∈ gt := gt_at 164 rfl rfl
set_option maxRecDepth 20000 in
theorem wo_X3_set : Cond.code yX3_set cX3_set 3 (some .boolean) ∈ gt := gt_at 165 rfl rfl
set_option maxRecDepth 20000 in
theorem wm_L_30 : Cond.methodLink RL 30 yX3_port ∈ gt := gt_at 166 rfl rfl
set_option maxRecDepth 20000 in
theorem wi_X3_port : Cond.instanceMethod yX3_port ∈ gt := gt_at 167 rfl rfl
set_option maxRecDepth 20000 in
theorem ws_X3_port : Cond.selects RX3 yX3_port yX3_port ∈ gt := gt_at 168 rfl rfl
set_option maxRecDepth 20000 in
theorem wo_X3_port : Cond.code yX3_port cX3_port 2 none ∈ gt := gt_at 169 rfl rfl
set_option maxRecDepth 20000 in
theorem wm_L_35 : Cond.methodLink RL 35 yX3_wake ∈ gt := gt_at 170 rfl rfl
set_option maxRecDepth 20000 in
theorem wi_X3_wake : Cond.instanceMethod yX3_wake ∈ gt := gt_at 171 rfl rfl
set_option maxRecDepth 20000 in
theorem ws_X3_wake : Cond.selects RX3 yX3_wake yX3_wake ∈ gt := gt_at 172 rfl rfl
set_option maxRecDepth 20000 in
theorem wo_X3_wake : Cond.code yX3_wake cX3_wake 2 (some .boolean) ∈ gt := gt_at 173 rfl rfl
set_option maxRecDepth 20000 in
theorem wm_X3_52 : Cond.methodLink RX3 52 yX3_isTask ∈ gt := gt_at 174 rfl rfl
set_option maxRecDepth 20000 in
theorem wt_X3_isTask : Cond.static yX3_isTask ∈ gt := gt_at 175 rfl rfl
set_option maxRecDepth 20000 in
theorem wo_X3_isTask : Cond.code yX3_isTask cX3_isTask 1 (some .boolean) ∈ gt := gt_at 176 rfl rfl
set_option maxRecDepth 20000 in
theorem wm_X3_56 : Cond.methodLink RX3 56 yX2_rouse ∈ gt := gt_at 177 rfl rfl
set_option maxRecDepth 20000 in
theorem wi_X2_rouse : Cond.instanceMethod yX2_rouse ∈ gt := gt_at 178 rfl rfl
set_option maxRecDepth 20000 in
theorem ws_X2_rouse : Cond.selects RX2 yX2_rouse yX2_rouse ∈ gt := gt_at 179 rfl rfl
set_option maxRecDepth 20000 in
theorem wo_X2_rouse : Cond.code yX2_rouse cX2_rouse 3 (some .boolean) ∈ gt := gt_at 180 rfl rfl
set_option maxRecDepth 20000 in
theorem wm_L_40 : Cond.methodLink RL 40 yX3_start ∈ gt := gt_at 181 rfl rfl
set_option maxRecDepth 20000 in
theorem wi_X3_start : Cond.instanceMethod yX3_start ∈ gt := gt_at 182 rfl rfl
set_option maxRecDepth 20000 in
theorem ws_X3_start : Cond.selects RX3 yX3_start yX3_start ∈ gt := gt_at 183 rfl rfl
set_option maxRecDepth 20000 in
theorem wo_X3_start : Cond.code yX3_start cX3_start 3 (some .boolean) ∈ gt := gt_at 184 rfl rfl
set_option maxRecDepth 20000 in
theorem wm_L_44 : Cond.methodLink RL 44 yX3_run ∈ gt := gt_at 185 rfl rfl
set_option maxRecDepth 20000 in
theorem wi_X3_run : Cond.instanceMethod yX3_run ∈ gt := gt_at 186 rfl rfl
set_option maxRecDepth 20000 in
theorem ws_X3_run : Cond.selects RX3 yX3_run yX3_run ∈ gt := gt_at 187 rfl rfl
set_option maxRecDepth 20000 in
theorem wo_X3_run : Cond.code yX3_run cX3_run 4 (some .int) ∈ gt := gt_at 188 rfl rfl
set_option maxRecDepth 20000 in
theorem wm_X3_65 : Cond.methodLink RX3 65 yX3_cycle ∈ gt := gt_at 189 rfl rfl
set_option maxRecDepth 20000 in
theorem wi_X3_cycle : Cond.instanceMethod yX3_cycle ∈ gt := gt_at 191 rfl rfl
set_option maxRecDepth 20000 in
theorem wo_X3_cycle : Cond.code yX3_cycle cX3_cycle 3 (some .boolean) ∈ gt := gt_at 192 rfl rfl
set_option maxRecDepth 20000 in
theorem wm_X3_111 : Cond.methodLink RX3 111 yX3_mustWait ∈ gt := gt_at 193 rfl rfl
set_option maxRecDepth 20000 in
theorem wi_X3_mustWait : Cond.instanceMethod yX3_mustWait ∈ gt := gt_at 195 rfl rfl
set_option maxRecDepth 20000 in
theorem wo_X3_mustWait : Cond.code yX3_mustWait cX3_mustWait 4 (some .boolean) ∈ gt := gt_at 196 rfl rfl
set_option maxRecDepth 20000 in
theorem wm_X3_124 : Cond.methodLink RX3 124 yX3_bsOf ∈ gt := gt_at 197 rfl rfl
set_option maxRecDepth 20000 in
theorem wt_X3_bsOf : Cond.static yX3_bsOf ∈ gt := gt_at 198 rfl rfl
set_option maxRecDepth 20000 in
theorem wo_X3_bsOf : Cond.code yX3_bsOf cX3_bsOf 1 (some .int) ∈ gt := gt_at 199 rfl rfl
set_option maxRecDepth 20000 in
theorem wm_X3_128 : Cond.methodLink RX3 128 yX3_hasConstant ∈ gt := gt_at 200 rfl rfl
set_option maxRecDepth 20000 in
theorem wt_X3_hasConstant : Cond.static yX3_hasConstant ∈ gt := gt_at 201 rfl rfl
set_option maxRecDepth 20000 in
theorem wo_X3_hasConstant : Cond.code yX3_hasConstant cX3_hasConstant 1 (some .boolean) ∈ gt := gt_at 202 rfl rfl
set_option maxRecDepth 20000 in
theorem wm_X3_131 : Cond.methodLink RX3 131 yX3_f1Of ∈ gt := gt_at 203 rfl rfl
set_option maxRecDepth 20000 in
theorem wt_X3_f1Of : Cond.static yX3_f1Of ∈ gt := gt_at 204 rfl rfl
set_option maxRecDepth 20000 in
theorem wo_X3_f1Of : Cond.code yX3_f1Of cX3_f1Of 1 (some .int) ∈ gt := gt_at 205 rfl rfl
set_option maxRecDepth 20000 in
theorem wm_X3_134 : Cond.methodLink RX3 134 yX3_f2Of ∈ gt := gt_at 206 rfl rfl
set_option maxRecDepth 20000 in
theorem wt_X3_f2Of : Cond.static yX3_f2Of ∈ gt := gt_at 207 rfl rfl
set_option maxRecDepth 20000 in
theorem wo_X3_f2Of : Cond.code yX3_f2Of cX3_f2Of 1 (some .int) ∈ gt := gt_at 208 rfl rfl
set_option maxRecDepth 20000 in
theorem wm_X3_114 : Cond.methodLink RX3 114 yX3_perform ∈ gt := gt_at 209 rfl rfl
set_option maxRecDepth 20000 in
theorem wi_X3_perform : Cond.instanceMethod yX3_perform ∈ gt := gt_at 211 rfl rfl
set_option maxRecDepth 20000 in
theorem wo_X3_perform : Cond.code yX3_perform cX3_perform 9 none ∈ gt := gt_at 212 rfl rfl
set_option maxRecDepth 20000 in
theorem wm_X3_137 : Cond.methodLink RX3 137 yX3_alufOf ∈ gt := gt_at 213 rfl rfl
set_option maxRecDepth 20000 in
theorem wt_X3_alufOf : Cond.static yX3_alufOf ∈ gt := gt_at 214 rfl rfl
set_option maxRecDepth 20000 in
theorem wo_X3_alufOf : Cond.code yX3_alufOf cX3_alufOf 1 (some .int) ∈ gt := gt_at 215 rfl rfl
set_option maxRecDepth 20000 in
theorem wm_X3_140 : Cond.methodLink RX3 140 yX3_shiftedL ∈ gt := gt_at 216 rfl rfl
set_option maxRecDepth 20000 in
theorem wi_X3_shiftedL : Cond.instanceMethod yX3_shiftedL ∈ gt := gt_at 218 rfl rfl
set_option maxRecDepth 20000 in
theorem wo_X3_shiftedL : Cond.code yX3_shiftedL cX3_shiftedL 2 (some .int) ∈ gt := gt_at 219 rfl rfl
set_option maxRecDepth 20000 in
theorem wm_X3_143 : Cond.methodLink RX3 143 yX3_busOf ∈ gt := gt_at 220 rfl rfl
set_option maxRecDepth 20000 in
theorem wi_X3_busOf : Cond.instanceMethod yX3_busOf ∈ gt := gt_at 222 rfl rfl
set_option maxRecDepth 20000 in
theorem wo_X3_busOf : Cond.code yX3_busOf cX3_busOf 4 (some .int) ∈ gt := gt_at 223 rfl rfl
set_option maxRecDepth 20000 in
theorem wm_X3_154 : Cond.methodLink RX3 154 yX3_rselOf ∈ gt := gt_at 224 rfl rfl
set_option maxRecDepth 20000 in
theorem wt_X3_rselOf : Cond.static yX3_rselOf ∈ gt := gt_at 225 rfl rfl
set_option maxRecDepth 20000 in
theorem wo_X3_rselOf : Cond.code yX3_rselOf cX3_rselOf 1 (some .int) ∈ gt := gt_at 226 rfl rfl
set_option maxRecDepth 20000 in
theorem wm_X3_185 : Cond.methodLink RX3 185 yX0_read ∈ gt := gt_at 227 rfl rfl
set_option maxRecDepth 20000 in
theorem wi_X0_read : Cond.instanceMethod yX0_read ∈ gt := gt_at 228 rfl rfl
set_option maxRecDepth 20000 in
theorem ws_X0_read : Cond.selects RX0 yX0_read yX0_read ∈ gt := gt_at 229 rfl rfl
set_option maxRecDepth 20000 in
theorem wo_X0_read : Cond.code yX0_read cX0_read 1 (some .int) ∈ gt := gt_at 230 rfl rfl
set_option maxRecDepth 20000 in
theorem wm_X3_146 : Cond.methodLink RX3 146 yX3_sumOf ∈ gt := gt_at 231 rfl rfl
set_option maxRecDepth 20000 in
theorem wi_X3_sumOf : Cond.instanceMethod yX3_sumOf ∈ gt := gt_at 233 rfl rfl
set_option maxRecDepth 20000 in
theorem wo_X3_sumOf : Cond.code yX3_sumOf cX3_sumOf 4 (some .int) ∈ gt := gt_at 234 rfl rfl
set_option maxRecDepth 20000 in
theorem wm_X3_150 : Cond.methodLink RX3 150 yX3_changeOf ∈ gt := gt_at 235 rfl rfl
set_option maxRecDepth 20000 in
theorem wi_X3_changeOf : Cond.instanceMethod yX3_changeOf ∈ gt := gt_at 237 rfl rfl
set_option maxRecDepth 20000 in
theorem wo_X3_changeOf : Cond.code yX3_changeOf cX3_changeOf 4 (some .int) ∈ gt := gt_at 238 rfl rfl
set_option maxRecDepth 20000 in
theorem wm_X3_157 : Cond.methodLink RX3 157 yX3_loadsT ∈ gt := gt_at 239 rfl rfl
set_option maxRecDepth 20000 in
theorem wt_X3_loadsT : Cond.static yX3_loadsT ∈ gt := gt_at 240 rfl rfl
set_option maxRecDepth 20000 in
theorem wo_X3_loadsT : Cond.code yX3_loadsT cX3_loadsT 1 (some .boolean) ∈ gt := gt_at 241 rfl rfl
set_option maxRecDepth 20000 in
theorem wm_X3_160 : Cond.methodLink RX3 160 yX3_givesAluToT ∈ gt := gt_at 242 rfl rfl
set_option maxRecDepth 20000 in
theorem wt_X3_givesAluToT : Cond.static yX3_givesAluToT ∈ gt := gt_at 243 rfl rfl
set_option maxRecDepth 20000 in
theorem wo_X3_givesAluToT : Cond.code yX3_givesAluToT cX3_givesAluToT 1 (some .boolean) ∈ gt := gt_at 244 rfl rfl
set_option maxRecDepth 20000 in
theorem wm_X3_163 : Cond.methodLink RX3 163 yX3_loadsL ∈ gt := gt_at 245 rfl rfl
set_option maxRecDepth 20000 in
theorem wt_X3_loadsL : Cond.static yX3_loadsL ∈ gt := gt_at 246 rfl rfl
set_option maxRecDepth 20000 in
theorem wo_X3_loadsL : Cond.code yX3_loadsL cX3_loadsL 1 (some .boolean) ∈ gt := gt_at 247 rfl rfl
set_option maxRecDepth 20000 in
theorem wm_X3_166 : Cond.methodLink RX3 166 yX3_useMemory ∈ gt := gt_at 248 rfl rfl
set_option maxRecDepth 20000 in
theorem wi_X3_useMemory : Cond.instanceMethod yX3_useMemory ∈ gt := gt_at 250 rfl rfl
set_option maxRecDepth 20000 in
theorem wo_X3_useMemory : Cond.code yX3_useMemory cX3_useMemory 4 none ∈ gt := gt_at 251 rfl rfl
set_option maxRecDepth 20000 in
theorem wm_X3_179 : Cond.methodLink RX3 179 yX0_write ∈ gt := gt_at 252 rfl rfl
set_option maxRecDepth 20000 in
theorem wi_X0_write : Cond.instanceMethod yX0_write ∈ gt := gt_at 253 rfl rfl
set_option maxRecDepth 20000 in
theorem ws_X0_write : Cond.selects RX0 yX0_write yX0_write ∈ gt := gt_at 254 rfl rfl
set_option maxRecDepth 20000 in
theorem wo_X0_write : Cond.code yX0_write cX0_write 2 none ∈ gt := gt_at 255 rfl rfl
set_option maxRecDepth 20000 in
theorem wm_X3_182 : Cond.methodLink RX3 182 yX0_begin ∈ gt := gt_at 256 rfl rfl
set_option maxRecDepth 20000 in
theorem wi_X0_begin : Cond.instanceMethod yX0_begin ∈ gt := gt_at 257 rfl rfl
set_option maxRecDepth 20000 in
theorem ws_X0_begin : Cond.selects RX0 yX0_begin yX0_begin ∈ gt := gt_at 258 rfl rfl
set_option maxRecDepth 20000 in
theorem wo_X0_begin : Cond.code yX0_begin cX0_begin 2 none ∈ gt := gt_at 259 rfl rfl
set_option maxRecDepth 20000 in
theorem wm_X3_170 : Cond.methodLink RX3 170 yX1_send ∈ gt := gt_at 260 rfl rfl
set_option maxRecDepth 20000 in
theorem wi_X1_send : Cond.instanceMethod yX1_send ∈ gt := gt_at 261 rfl rfl
set_option maxRecDepth 20000 in
theorem ws_X1_send : Cond.selects RX1 yX1_send yX1_send ∈ gt := gt_at 262 rfl rfl
set_option maxRecDepth 20000 in
theorem wo_X1_send : Cond.code yX1_send cX1_send 2 none ∈ gt := gt_at 263 rfl rfl
set_option maxRecDepth 20000 in
theorem wm_X3_173 : Cond.methodLink RX3 173 yX3_nextOf ∈ gt := gt_at 264 rfl rfl
set_option maxRecDepth 20000 in
theorem wt_X3_nextOf : Cond.static yX3_nextOf ∈ gt := gt_at 265 rfl rfl
set_option maxRecDepth 20000 in
theorem wo_X3_nextOf : Cond.code yX3_nextOf cX3_nextOf 1 (some .int) ∈ gt := gt_at 266 rfl rfl
set_option maxRecDepth 20000 in
theorem wm_X3_176 : Cond.methodLink RX3 176 yX2_goOn ∈ gt := gt_at 267 rfl rfl
set_option maxRecDepth 20000 in
theorem wi_X2_goOn : Cond.instanceMethod yX2_goOn ∈ gt := gt_at 268 rfl rfl
set_option maxRecDepth 20000 in
theorem ws_X2_goOn : Cond.selects RX2 yX2_goOn yX2_goOn ∈ gt := gt_at 269 rfl rfl
set_option maxRecDepth 20000 in
theorem wo_X2_goOn : Cond.code yX2_goOn cX2_goOn 4 none ∈ gt := gt_at 270 rfl rfl
set_option maxRecDepth 20000 in
theorem wm_X2_33 : Cond.methodLink RX2 33 yX2_greatestWoken ∈ gt := gt_at 271 rfl rfl
set_option maxRecDepth 20000 in
theorem wi_X2_greatestWoken : Cond.instanceMethod yX2_greatestWoken ∈ gt := gt_at 273 rfl rfl
set_option maxRecDepth 20000 in
theorem wo_X2_greatestWoken : Cond.code yX2_greatestWoken cX2_greatestWoken 2 (some .int) ∈ gt := gt_at 274 rfl rfl
set_option maxRecDepth 20000 in
theorem wm_X2_37 : Cond.methodLink RX2 37 yX2_giveTo ∈ gt := gt_at 275 rfl rfl
set_option maxRecDepth 20000 in
theorem wi_X2_giveTo : Cond.instanceMethod yX2_giveTo ∈ gt := gt_at 277 rfl rfl
set_option maxRecDepth 20000 in
theorem wo_X2_giveTo : Cond.code yX2_giveTo cX2_giveTo 2 none ∈ gt := gt_at 278 rfl rfl
set_option maxRecDepth 20000 in
theorem wm_X3_118 : Cond.methodLink RX3 118 yX0_rest ∈ gt := gt_at 279 rfl rfl
set_option maxRecDepth 20000 in
theorem wi_X0_rest : Cond.instanceMethod yX0_rest ∈ gt := gt_at 280 rfl rfl
set_option maxRecDepth 20000 in
theorem ws_X0_rest : Cond.selects RX0 yX0_rest yX0_rest ∈ gt := gt_at 281 rfl rfl
set_option maxRecDepth 20000 in
theorem wo_X0_rest : Cond.code yX0_rest cX0_rest 1 none ∈ gt := gt_at 282 rfl rfl
set_option maxRecDepth 20000 in
theorem wm_L_49 : Cond.methodLink RL 49 yX3_register ∈ gt := gt_at 283 rfl rfl
set_option maxRecDepth 20000 in
theorem wi_X3_register : Cond.instanceMethod yX3_register ∈ gt := gt_at 284 rfl rfl
set_option maxRecDepth 20000 in
theorem ws_X3_register : Cond.selects RX3 yX3_register yX3_register ∈ gt := gt_at 285 rfl rfl
set_option maxRecDepth 20000 in
theorem wo_X3_register : Cond.code yX3_register cX3_register 2 (some .int) ∈ gt := gt_at 286 rfl rfl
set_option maxRecDepth 20000 in
theorem wm_X3_81 : Cond.methodLink RX3 81 yX3_ask ∈ gt := gt_at 287 rfl rfl
set_option maxRecDepth 20000 in
theorem wt_X3_ask : Cond.static yX3_ask ∈ gt := gt_at 288 rfl rfl
set_option maxRecDepth 20000 in
theorem wo_X3_ask : Cond.code yX3_ask cX3_ask 2 (some .int) ∈ gt := gt_at 289 rfl rfl
set_option maxRecDepth 20000 in
theorem wm_L_53 : Cond.methodLink RL 53 yX3_peek ∈ gt := gt_at 290 rfl rfl
set_option maxRecDepth 20000 in
theorem wi_X3_peek : Cond.instanceMethod yX3_peek ∈ gt := gt_at 291 rfl rfl
set_option maxRecDepth 20000 in
theorem ws_X3_peek : Cond.selects RX3 yX3_peek yX3_peek ∈ gt := gt_at 292 rfl rfl
set_option maxRecDepth 20000 in
theorem wo_X3_peek : Cond.code yX3_peek cX3_peek 2 (some .int) ∈ gt := gt_at 293 rfl rfl
set_option maxRecDepth 20000 in
theorem wm_L_57 : Cond.methodLink RL 57 yX3_task ∈ gt := gt_at 294 rfl rfl
set_option maxRecDepth 20000 in
theorem wi_X3_task : Cond.instanceMethod yX3_task ∈ gt := gt_at 295 rfl rfl
set_option maxRecDepth 20000 in
theorem ws_X3_task : Cond.selects RX3 yX3_task yX3_task ∈ gt := gt_at 296 rfl rfl
set_option maxRecDepth 20000 in
theorem wo_X3_task : Cond.code yX3_task cX3_task 3 (some .int) ∈ gt := gt_at 297 rfl rfl
set_option maxRecDepth 20000 in
theorem wm_L_62 : Cond.methodLink RL 62 yX3_now ∈ gt := gt_at 298 rfl rfl
set_option maxRecDepth 20000 in
theorem wi_X3_now : Cond.instanceMethod yX3_now ∈ gt := gt_at 299 rfl rfl
set_option maxRecDepth 20000 in
theorem ws_X3_now : Cond.selects RX3 yX3_now yX3_now ∈ gt := gt_at 300 rfl rfl
set_option maxRecDepth 20000 in
theorem wo_X3_now : Cond.code yX3_now cX3_now 1 (some .int) ∈ gt := gt_at 301 rfl rfl
set_option maxRecDepth 20000 in
theorem wm_L_67 : Cond.methodLink RL 67 yX3_out ∈ gt := gt_at 302 rfl rfl
set_option maxRecDepth 20000 in
theorem wi_X3_out : Cond.instanceMethod yX3_out ∈ gt := gt_at 303 rfl rfl
set_option maxRecDepth 20000 in
theorem ws_X3_out : Cond.selects RX3 yX3_out yX3_out ∈ gt := gt_at 304 rfl rfl
set_option maxRecDepth 20000 in
theorem wo_X3_out : Cond.code yX3_out cX3_out 2 (some .int) ∈ gt := gt_at 305 rfl rfl
set_option maxRecDepth 20000 in
theorem wm_L_71 : Cond.methodLink RL 71 yX3_count ∈ gt := gt_at 306 rfl rfl
set_option maxRecDepth 20000 in
theorem wi_X3_count : Cond.instanceMethod yX3_count ∈ gt := gt_at 307 rfl rfl
set_option maxRecDepth 20000 in
theorem ws_X3_count : Cond.selects RX3 yX3_count yX3_count ∈ gt := gt_at 308 rfl rfl
set_option maxRecDepth 20000 in
theorem wo_X3_count : Cond.code yX3_count cX3_count 2 (some .int) ∈ gt := gt_at 309 rfl rfl
set_option maxRecDepth 20000 in
theorem wc_L_10 : Cond.classLink RL 10 RX4 ∈ gt := gt_at 310 rfl rfl
set_option maxRecDepth 20000 in
theorem wn_X4 : Cond.instantiable RX4 28 ∈ gt := gt_at 311 rfl rfl
set_option maxRecDepth 20000 in
theorem wm_L_12 : Cond.methodLink RL 12 yX4_init ∈ gt := gt_at 312 rfl rfl
set_option maxRecDepth 20000 in
theorem wi_X4_init : Cond.instanceMethod yX4_init ∈ gt := gt_at 313 rfl rfl
set_option maxRecDepth 20000 in
theorem wo_X4_init : Cond.code yX4_init cX4_init 1 none ∈ gt := gt_at 314 rfl rfl
set_option maxRecDepth 20000 in
theorem wm_X4_1 : Cond.methodLink RX4 1 objectInit ∈ gt := gt_at 315 rfl rfl
set_option maxRecDepth 20000 in
theorem wf_X4_7 : Cond.fieldLink RX4 7 "MicroTasksModel" "instructions" "[I" ∈ gt := gt_at 316 rfl rfl
set_option maxRecDepth 20000 in
theorem wf_X4_13 : Cond.fieldLink RX4 13 "MicroTasksModel" "constants" "[I" ∈ gt := gt_at 317 rfl rfl
set_option maxRecDepth 20000 in
theorem wf_X4_16 : Cond.fieldLink RX4 16 "MicroTasksModel" "memory" "[I" ∈ gt := gt_at 318 rfl rfl
set_option maxRecDepth 20000 in
theorem wf_X4_19 : Cond.fieldLink RX4 19 "MicroTasksModel" "registers" "[I" ∈ gt := gt_at 319 rfl rfl
set_option maxRecDepth 20000 in
theorem wf_X4_87 : Cond.fieldLink RX4 87 "MicroTasksModel" "t" "I" ∈ gt := gt_at 320 rfl rfl
set_option maxRecDepth 20000 in
theorem wf_X4_66 : Cond.fieldLink RX4 66 "MicroTasksModel" "l" "I" ∈ gt := gt_at 321 rfl rfl
set_option maxRecDepth 20000 in
theorem wf_X4_98 : Cond.fieldLink RX4 98 "MicroTasksModel" "carry" "I" ∈ gt := gt_at 322 rfl rfl
set_option maxRecDepth 20000 in
theorem wf_X4_75 : Cond.fieldLink RX4 75 "MicroTasksModel" "mar" "I" ∈ gt := gt_at 323 rfl rfl
set_option maxRecDepth 20000 in
theorem wf_X4_47 : Cond.fieldLink RX4 47 "MicroTasksModel" "input" "I" ∈ gt := gt_at 324 rfl rfl
set_option maxRecDepth 20000 in
theorem wf_X4_22 : Cond.fieldLink RX4 22 "MicroTasksModel" "places" "[I" ∈ gt := gt_at 325 rfl rfl
set_option maxRecDepth 20000 in
theorem wf_X4_25 : Cond.fieldLink RX4 25 "MicroTasksModel" "changes" "[I" ∈ gt := gt_at 326 rfl rfl
set_option maxRecDepth 20000 in
theorem wf_X4_28 : Cond.fieldLink RX4 28 "MicroTasksModel" "lines" "[Z" ∈ gt := gt_at 327 rfl rfl
set_option maxRecDepth 20000 in
theorem wf_X4_32 : Cond.fieldLink RX4 32 "MicroTasksModel" "done" "[I" ∈ gt := gt_at 328 rfl rfl
set_option maxRecDepth 20000 in
theorem wf_X4_72 : Cond.fieldLink RX4 72 "MicroTasksModel" "hand" "I" ∈ gt := gt_at 329 rfl rfl
set_option maxRecDepth 20000 in
theorem wf_X4_121 : Cond.fieldLink RX4 121 "MicroTasksModel" "gives" "Z" ∈ gt := gt_at 330 rfl rfl
set_option maxRecDepth 20000 in
theorem wf_X4_56 : Cond.fieldLink RX4 56 "MicroTasksModel" "cycles" "I" ∈ gt := gt_at 331 rfl rfl
set_option maxRecDepth 20000 in
theorem wf_X4_131 : Cond.fieldLink RX4 131 "MicroTasksModel" "waited" "I" ∈ gt := gt_at 332 rfl rfl
set_option maxRecDepth 20000 in
theorem wf_X4_125 : Cond.fieldLink RX4 125 "MicroTasksModel" "switched" "I" ∈ gt := gt_at 333 rfl rfl
set_option maxRecDepth 20000 in
theorem wf_X4_35 : Cond.fieldLink RX4 35 "MicroTasksModel" "began" "I" ∈ gt := gt_at 334 rfl rfl
set_option maxRecDepth 20000 in
theorem wf_X4_118 : Cond.fieldLink RX4 118 "MicroTasksModel" "outs" "I" ∈ gt := gt_at 335 rfl rfl
set_option maxRecDepth 20000 in
theorem wf_X4_39 : Cond.fieldLink RX4 39 "MicroTasksModel" "out" "[I" ∈ gt := gt_at 336 rfl rfl
set_option maxRecDepth 20000 in
theorem wf_X4_69 : Cond.fieldLink RX4 69 "MicroTasksModel" "rsel" "I" ∈ gt := gt_at 337 rfl rfl
set_option maxRecDepth 20000 in
theorem wf_X4_84 : Cond.fieldLink RX4 84 "MicroTasksModel" "aluf" "I" ∈ gt := gt_at 338 rfl rfl
set_option maxRecDepth 20000 in
theorem wf_X4_59 : Cond.fieldLink RX4 59 "MicroTasksModel" "bs" "I" ∈ gt := gt_at 339 rfl rfl
set_option maxRecDepth 20000 in
theorem wf_X4_50 : Cond.fieldLink RX4 50 "MicroTasksModel" "f1" "I" ∈ gt := gt_at 340 rfl rfl
set_option maxRecDepth 20000 in
theorem wf_X4_53 : Cond.fieldLink RX4 53 "MicroTasksModel" "f2" "I" ∈ gt := gt_at 341 rfl rfl
set_option maxRecDepth 20000 in
theorem wf_X4_78 : Cond.fieldLink RX4 78 "MicroTasksModel" "sum" "I" ∈ gt := gt_at 342 rfl rfl
set_option maxRecDepth 20000 in
theorem wf_X4_81 : Cond.fieldLink RX4 81 "MicroTasksModel" "sumCarry" "I" ∈ gt := gt_at 343 rfl rfl
set_option maxRecDepth 20000 in
theorem wm_L_17 : Cond.methodLink RL 17 yX4_store ∈ gt := gt_at 401 rfl rfl
set_option maxRecDepth 20000 in
theorem wi_X4_store : Cond.instanceMethod yX4_store ∈ gt := gt_at 402 rfl rfl
set_option maxRecDepth 20000 in
theorem ws_X4_store : Cond.selects RX4 yX4_store yX4_store ∈ gt := gt_at 403 rfl rfl
set_option maxRecDepth 20000 in
theorem wo_X4_store : Cond.code yX4_store cX4_store 3 (some .boolean) ∈ gt := gt_at 404 rfl rfl
set_option maxRecDepth 20000 in
theorem wm_X4_42 : Cond.methodLink RX4 42 yX4_within ∈ gt := gt_at 405 rfl rfl
set_option maxRecDepth 20000 in
theorem wt_X4_within : Cond.static yX4_within ∈ gt := gt_at 406 rfl rfl
set_option maxRecDepth 20000 in
theorem wo_X4_within : Cond.code yX4_within cX4_within 2 (some .boolean) ∈ gt := gt_at 407 rfl rfl
set_option maxRecDepth 20000 in
theorem wm_L_21 : Cond.methodLink RL 21 yX4_constant ∈ gt := gt_at 408 rfl rfl
set_option maxRecDepth 20000 in
theorem wi_X4_constant : Cond.instanceMethod yX4_constant ∈ gt := gt_at 409 rfl rfl
set_option maxRecDepth 20000 in
theorem ws_X4_constant : Cond.selects RX4 yX4_constant yX4_constant ∈ gt := gt_at 410 rfl rfl
set_option maxRecDepth 20000 in
theorem wo_X4_constant : Cond.code yX4_constant cX4_constant 3 (some .boolean) ∈ gt := gt_at 411 rfl rfl
set_option maxRecDepth 20000 in
theorem wk_X4_46 : Cond.constant RX4 46 (65535) ∈ gt := gt_at 412 rfl rfl
set_option maxRecDepth 20000 in
theorem wm_L_25 : Cond.methodLink RL 25 yX4_poke ∈ gt := gt_at 413 rfl rfl
set_option maxRecDepth 20000 in
theorem wi_X4_poke : Cond.instanceMethod yX4_poke ∈ gt := gt_at 414 rfl rfl
set_option maxRecDepth 20000 in
theorem ws_X4_poke : Cond.selects RX4 yX4_poke yX4_poke ∈ gt := gt_at 415 rfl rfl
set_option maxRecDepth 20000 in
theorem wo_X4_poke : Cond.code yX4_poke cX4_poke 3 (some .boolean) ∈ gt := gt_at 416 rfl rfl
set_option maxRecDepth 20000 in
theorem wm_L_29 : Cond.methodLink RL 29 yX4_set ∈ gt := gt_at 417 rfl rfl
set_option maxRecDepth 20000 in
theorem wi_X4_set : Cond.instanceMethod yX4_set ∈ gt := gt_at 418 rfl rfl
set_option maxRecDepth 20000 in
theorem ws_X4_set : Cond.selects RX4 yX4_set yX4_set ∈ gt := gt_at 419 rfl rfl
set_option maxRecDepth 20000 in
theorem wo_X4_set : Cond.code yX4_set cX4_set 3 (some .boolean) ∈ gt := gt_at 420 rfl rfl
set_option maxRecDepth 20000 in
theorem wm_L_34 : Cond.methodLink RL 34 yX4_port ∈ gt := gt_at 421 rfl rfl
set_option maxRecDepth 20000 in
theorem wi_X4_port : Cond.instanceMethod yX4_port ∈ gt := gt_at 422 rfl rfl
set_option maxRecDepth 20000 in
theorem ws_X4_port : Cond.selects RX4 yX4_port yX4_port ∈ gt := gt_at 423 rfl rfl
set_option maxRecDepth 20000 in
theorem wo_X4_port : Cond.code yX4_port cX4_port 2 none ∈ gt := gt_at 424 rfl rfl
set_option maxRecDepth 20000 in
theorem wm_L_39 : Cond.methodLink RL 39 yX4_wake ∈ gt := gt_at 425 rfl rfl
set_option maxRecDepth 20000 in
theorem wi_X4_wake : Cond.instanceMethod yX4_wake ∈ gt := gt_at 426 rfl rfl
set_option maxRecDepth 20000 in
theorem ws_X4_wake : Cond.selects RX4 yX4_wake yX4_wake ∈ gt := gt_at 427 rfl rfl
set_option maxRecDepth 20000 in
theorem wo_X4_wake : Cond.code yX4_wake cX4_wake 3 (some .boolean) ∈ gt := gt_at 428 rfl rfl
set_option maxRecDepth 20000 in
theorem wm_L_43 : Cond.methodLink RL 43 yX4_start ∈ gt := gt_at 429 rfl rfl
set_option maxRecDepth 20000 in
theorem wi_X4_start : Cond.instanceMethod yX4_start ∈ gt := gt_at 430 rfl rfl
set_option maxRecDepth 20000 in
theorem ws_X4_start : Cond.selects RX4 yX4_start yX4_start ∈ gt := gt_at 431 rfl rfl
set_option maxRecDepth 20000 in
theorem wo_X4_start : Cond.code yX4_start cX4_start 3 (some .boolean) ∈ gt := gt_at 432 rfl rfl
set_option maxRecDepth 20000 in
theorem wm_L_48 : Cond.methodLink RL 48 yX4_run ∈ gt := gt_at 433 rfl rfl
set_option maxRecDepth 20000 in
theorem wi_X4_run : Cond.instanceMethod yX4_run ∈ gt := gt_at 434 rfl rfl
set_option maxRecDepth 20000 in
theorem ws_X4_run : Cond.selects RX4 yX4_run yX4_run ∈ gt := gt_at 435 rfl rfl
set_option maxRecDepth 20000 in
theorem wo_X4_run : Cond.code yX4_run cX4_run 5 (some .int) ∈ gt := gt_at 436 rfl rfl
set_option maxRecDepth 20000 in
theorem wm_X4_128 : Cond.methodLink RX4 128 yX4_waits ∈ gt := gt_at 437 rfl rfl
set_option maxRecDepth 20000 in
theorem wi_X4_waits : Cond.instanceMethod yX4_waits ∈ gt := gt_at 439 rfl rfl
set_option maxRecDepth 20000 in
theorem wo_X4_waits : Cond.code yX4_waits cX4_waits 2 (some .boolean) ∈ gt := gt_at 440 rfl rfl
set_option maxRecDepth 20000 in
theorem wm_X4_62 : Cond.methodLink RX4 62 yX4_hasConstant ∈ gt := gt_at 441 rfl rfl
set_option maxRecDepth 20000 in
theorem wi_X4_hasConstant : Cond.instanceMethod yX4_hasConstant ∈ gt := gt_at 443 rfl rfl
set_option maxRecDepth 20000 in
theorem wo_X4_hasConstant : Cond.code yX4_hasConstant cX4_hasConstant 1 (some .boolean) ∈ gt := gt_at 444 rfl rfl
set_option maxRecDepth 20000 in
theorem wm_X4_134 : Cond.methodLink RX4 134 yX4_act ∈ gt := gt_at 445 rfl rfl
set_option maxRecDepth 20000 in
theorem wi_X4_act : Cond.instanceMethod yX4_act ∈ gt := gt_at 447 rfl rfl
set_option maxRecDepth 20000 in
theorem wo_X4_act : Cond.code yX4_act cX4_act 5 none ∈ gt := gt_at 448 rfl rfl
set_option maxRecDepth 20000 in
theorem wm_X4_101 : Cond.methodLink RX4 101 yX4_shifted ∈ gt := gt_at 449 rfl rfl
set_option maxRecDepth 20000 in
theorem wi_X4_shifted : Cond.instanceMethod yX4_shifted ∈ gt := gt_at 451 rfl rfl
set_option maxRecDepth 20000 in
theorem wo_X4_shifted : Cond.code yX4_shifted cX4_shifted 1 (some .int) ∈ gt := gt_at 452 rfl rfl
set_option maxRecDepth 20000 in
theorem wm_X4_105 : Cond.methodLink RX4 105 yX4_bus ∈ gt := gt_at 453 rfl rfl
set_option maxRecDepth 20000 in
theorem wi_X4_bus : Cond.instanceMethod yX4_bus ∈ gt := gt_at 455 rfl rfl
set_option maxRecDepth 20000 in
theorem wo_X4_bus : Cond.code yX4_bus cX4_bus 1 (some .int) ∈ gt := gt_at 456 rfl rfl
set_option maxRecDepth 20000 in
theorem wm_X4_108 : Cond.methodLink RX4 108 yX4_reckon ∈ gt := gt_at 457 rfl rfl
set_option maxRecDepth 20000 in
theorem wi_X4_reckon : Cond.instanceMethod yX4_reckon ∈ gt := gt_at 459 rfl rfl
set_option maxRecDepth 20000 in
theorem wo_X4_reckon : Cond.code yX4_reckon cX4_reckon 2 none ∈ gt := gt_at 460 rfl rfl
set_option maxRecDepth 20000 in
theorem wm_X4_90 : Cond.methodLink RX4 90 yX4_add ∈ gt := gt_at 461 rfl rfl
set_option maxRecDepth 20000 in
theorem wi_X4_add : Cond.instanceMethod yX4_add ∈ gt := gt_at 463 rfl rfl
set_option maxRecDepth 20000 in
theorem wo_X4_add : Cond.code yX4_add cX4_add 2 none ∈ gt := gt_at 464 rfl rfl
set_option maxRecDepth 20000 in
theorem wm_X4_94 : Cond.methodLink RX4 94 yX4_take ∈ gt := gt_at 465 rfl rfl
set_option maxRecDepth 20000 in
theorem wi_X4_take : Cond.instanceMethod yX4_take ∈ gt := gt_at 467 rfl rfl
set_option maxRecDepth 20000 in
theorem wo_X4_take : Cond.code yX4_take cX4_take 3 none ∈ gt := gt_at 468 rfl rfl
set_option maxRecDepth 20000 in
theorem wm_X4_111 : Cond.methodLink RX4 111 yX4_change ∈ gt := gt_at 469 rfl rfl
set_option maxRecDepth 20000 in
theorem wi_X4_change : Cond.instanceMethod yX4_change ∈ gt := gt_at 471 rfl rfl
set_option maxRecDepth 20000 in
theorem wo_X4_change : Cond.code yX4_change cX4_change 3 (some .int) ∈ gt := gt_at 472 rfl rfl
set_option maxRecDepth 20000 in
theorem wm_X4_115 : Cond.methodLink RX4 115 yX4_isOfAlu ∈ gt := gt_at 473 rfl rfl
set_option maxRecDepth 20000 in
theorem wi_X4_isOfAlu : Cond.instanceMethod yX4_isOfAlu ∈ gt := gt_at 475 rfl rfl
set_option maxRecDepth 20000 in
theorem wo_X4_isOfAlu : Cond.code yX4_isOfAlu cX4_isOfAlu 1 (some .boolean) ∈ gt := gt_at 476 rfl rfl
set_option maxRecDepth 20000 in
theorem wm_X4_137 : Cond.methodLink RX4 137 yX4_give ∈ gt := gt_at 477 rfl rfl
set_option maxRecDepth 20000 in
theorem wi_X4_give : Cond.instanceMethod yX4_give ∈ gt := gt_at 479 rfl rfl
set_option maxRecDepth 20000 in
theorem wo_X4_give : Cond.code yX4_give cX4_give 4 none ∈ gt := gt_at 480 rfl rfl
set_option maxRecDepth 20000 in
theorem wm_L_52 : Cond.methodLink RL 52 yX4_register ∈ gt := gt_at 481 rfl rfl
set_option maxRecDepth 20000 in
theorem wi_X4_register : Cond.instanceMethod yX4_register ∈ gt := gt_at 482 rfl rfl
set_option maxRecDepth 20000 in
theorem ws_X4_register : Cond.selects RX4 yX4_register yX4_register ∈ gt := gt_at 483 rfl rfl
set_option maxRecDepth 20000 in
theorem wo_X4_register : Cond.code yX4_register cX4_register 2 (some .int) ∈ gt := gt_at 484 rfl rfl
set_option maxRecDepth 20000 in
theorem wm_L_56 : Cond.methodLink RL 56 yX4_peek ∈ gt := gt_at 485 rfl rfl
set_option maxRecDepth 20000 in
theorem wi_X4_peek : Cond.instanceMethod yX4_peek ∈ gt := gt_at 486 rfl rfl
set_option maxRecDepth 20000 in
theorem ws_X4_peek : Cond.selects RX4 yX4_peek yX4_peek ∈ gt := gt_at 487 rfl rfl
set_option maxRecDepth 20000 in
theorem wo_X4_peek : Cond.code yX4_peek cX4_peek 2 (some .int) ∈ gt := gt_at 488 rfl rfl
set_option maxRecDepth 20000 in
theorem wm_L_61 : Cond.methodLink RL 61 yX4_task ∈ gt := gt_at 489 rfl rfl
set_option maxRecDepth 20000 in
theorem wi_X4_task : Cond.instanceMethod yX4_task ∈ gt := gt_at 490 rfl rfl
set_option maxRecDepth 20000 in
theorem ws_X4_task : Cond.selects RX4 yX4_task yX4_task ∈ gt := gt_at 491 rfl rfl
set_option maxRecDepth 20000 in
theorem wo_X4_task : Cond.code yX4_task cX4_task 3 (some .int) ∈ gt := gt_at 492 rfl rfl
set_option maxRecDepth 20000 in
theorem wm_L_66 : Cond.methodLink RL 66 yX4_now ∈ gt := gt_at 493 rfl rfl
set_option maxRecDepth 20000 in
theorem wi_X4_now : Cond.instanceMethod yX4_now ∈ gt := gt_at 494 rfl rfl
set_option maxRecDepth 20000 in
theorem ws_X4_now : Cond.selects RX4 yX4_now yX4_now ∈ gt := gt_at 495 rfl rfl
set_option maxRecDepth 20000 in
theorem wo_X4_now : Cond.code yX4_now cX4_now 1 (some .int) ∈ gt := gt_at 496 rfl rfl
set_option maxRecDepth 20000 in
theorem wm_L_70 : Cond.methodLink RL 70 yX4_out ∈ gt := gt_at 497 rfl rfl
set_option maxRecDepth 20000 in
theorem wi_X4_out : Cond.instanceMethod yX4_out ∈ gt := gt_at 498 rfl rfl
set_option maxRecDepth 20000 in
theorem ws_X4_out : Cond.selects RX4 yX4_out yX4_out ∈ gt := gt_at 499 rfl rfl
set_option maxRecDepth 20000 in
theorem wo_X4_out : Cond.code yX4_out cX4_out 2 (some .int) ∈ gt := gt_at 500 rfl rfl
set_option maxRecDepth 20000 in
theorem wm_L_74 : Cond.methodLink RL 74 yX4_count ∈ gt := gt_at 501 rfl rfl
set_option maxRecDepth 20000 in
theorem wi_X4_count : Cond.instanceMethod yX4_count ∈ gt := gt_at 502 rfl rfl
set_option maxRecDepth 20000 in
theorem ws_X4_count : Cond.selects RX4 yX4_count yX4_count ∈ gt := gt_at 503 rfl rfl
set_option maxRecDepth 20000 in
theorem wo_X4_count : Cond.code yX4_count cX4_count 2 (some .int) ∈ gt := gt_at 504 rfl rfl
set_option maxRecDepth 20000 in
theorem ilX0 : ∀ w ∈ u_ws RX0 TX0 3, w ∈ gt := gt_of [47, 49, 51] rfl rfl
set_option maxRecDepth 20000 in
theorem ilX1 : ∀ w ∈ u_ws RX1 TX1 3, w ∈ gt := gt_of [102, 104, 106] rfl rfl
set_option maxRecDepth 20000 in
theorem ilX2 : ∀ w ∈ u_ws RX2 TX2 7, w ∈ gt := gt_of [74, 76, 78, 80, 82, 84, 86] rfl rfl
set_option maxRecDepth 20000 in
theorem ilX3 : ∀ w ∈ u_ws RX3 TX3 12, w ∈ gt := gt_of [121, 123, 125, 127, 129, 131, 133, 135, 137, 139, 141, 143] rfl rfl
set_option maxRecDepth 20000 in
theorem ilX4 : ∀ w ∈ u_ws RX4 TX4 28, w ∈ gt := gt_of [344, 346, 348, 350, 352, 354, 356, 358, 360, 362, 364, 366, 368, 370, 372, 374, 376, 378, 380, 382, 384, 386, 388, 390, 392, 394, 396, 398] rfl rfl
abbrev w_X0_begin : List Cond := Cond.code yX0_begin cX0_begin 2 none :: gt
abbrev w_X0_init : List Cond := Cond.code yX0_init cX0_init 1 none :: gt
abbrev w_X0_read : List Cond := Cond.code yX0_read cX0_read 1 (some .int) :: gt
abbrev w_X0_rest : List Cond := Cond.code yX0_rest cX0_rest 1 none :: gt
abbrev w_X0_write : List Cond := Cond.code yX0_write cX0_write 2 none :: gt
abbrev w_X1_init : List Cond := Cond.code yX1_init cX1_init 1 none :: gt
abbrev w_X1_send : List Cond := Cond.code yX1_send cX1_send 2 none :: gt
abbrev w_X2_giveTo : List Cond := Cond.code yX2_giveTo cX2_giveTo 2 none :: gt
abbrev w_X2_goOn : List Cond := Cond.code yX2_goOn cX2_goOn 4 none :: gt
abbrev w_X2_greatestWoken : List Cond := Cond.code yX2_greatestWoken cX2_greatestWoken 2 (some .int) :: gt
abbrev w_X2_init : List Cond := Cond.code yX2_init cX2_init 1 none :: gt
abbrev w_X2_rouse : List Cond := Cond.code yX2_rouse cX2_rouse 3 (some .boolean) :: gt
abbrev w_X3_alufOf : List Cond := Cond.code yX3_alufOf cX3_alufOf 1 (some .int) :: gt
abbrev w_X3_ask : List Cond := Cond.code yX3_ask cX3_ask 2 (some .int) :: gt
abbrev w_X3_bsOf : List Cond := Cond.code yX3_bsOf cX3_bsOf 1 (some .int) :: gt
abbrev w_X3_busOf : List Cond := Cond.code yX3_busOf cX3_busOf 4 (some .int) :: gt
abbrev w_X3_changeOf : List Cond := Cond.code yX3_changeOf cX3_changeOf 4 (some .int) :: gt
abbrev w_X3_constant : List Cond := Cond.code yX3_constant cX3_constant 3 (some .boolean) :: gt
abbrev w_X3_count : List Cond := Cond.code yX3_count cX3_count 2 (some .int) :: gt
abbrev w_X3_cycle : List Cond := Cond.code yX3_cycle cX3_cycle 3 (some .boolean) :: gt
abbrev w_X3_f1Of : List Cond := Cond.code yX3_f1Of cX3_f1Of 1 (some .int) :: gt
abbrev w_X3_f2Of : List Cond := Cond.code yX3_f2Of cX3_f2Of 1 (some .int) :: gt
abbrev w_X3_givesAluToT : List Cond := Cond.code yX3_givesAluToT cX3_givesAluToT 1 (some .boolean) :: gt
abbrev w_X3_hasConstant : List Cond := Cond.code yX3_hasConstant cX3_hasConstant 1 (some .boolean) :: gt
abbrev w_X3_init : List Cond := Cond.code yX3_init cX3_init 1 none :: gt
abbrev w_X3_isTask : List Cond := Cond.code yX3_isTask cX3_isTask 1 (some .boolean) :: gt
abbrev w_X3_keep : List Cond := Cond.code yX3_keep cX3_keep 3 (some .boolean) :: gt
abbrev w_X3_loadsL : List Cond := Cond.code yX3_loadsL cX3_loadsL 1 (some .boolean) :: gt
abbrev w_X3_loadsT : List Cond := Cond.code yX3_loadsT cX3_loadsT 1 (some .boolean) :: gt
abbrev w_X3_mustWait : List Cond := Cond.code yX3_mustWait cX3_mustWait 4 (some .boolean) :: gt
abbrev w_X3_nextOf : List Cond := Cond.code yX3_nextOf cX3_nextOf 1 (some .int) :: gt
abbrev w_X3_now : List Cond := Cond.code yX3_now cX3_now 1 (some .int) :: gt
abbrev w_X3_out : List Cond := Cond.code yX3_out cX3_out 2 (some .int) :: gt
abbrev w_X3_peek : List Cond := Cond.code yX3_peek cX3_peek 2 (some .int) :: gt
abbrev w_X3_perform : List Cond := Cond.code yX3_perform cX3_perform 9 none :: gt
abbrev w_X3_poke : List Cond := Cond.code yX3_poke cX3_poke 3 (some .boolean) :: gt
abbrev w_X3_port : List Cond := Cond.code yX3_port cX3_port 2 none :: gt
abbrev w_X3_register : List Cond := Cond.code yX3_register cX3_register 2 (some .int) :: gt
abbrev w_X3_rselOf : List Cond := Cond.code yX3_rselOf cX3_rselOf 1 (some .int) :: gt
abbrev w_X3_run : List Cond := Cond.code yX3_run cX3_run 4 (some .int) :: gt
abbrev w_X3_set : List Cond := Cond.code yX3_set cX3_set 3 (some .boolean) :: gt
abbrev w_X3_shiftedL : List Cond := Cond.code yX3_shiftedL cX3_shiftedL 2 (some .int) :: gt
abbrev w_X3_start : List Cond := Cond.code yX3_start cX3_start 3 (some .boolean) :: gt
abbrev w_X3_store : List Cond := Cond.code yX3_store cX3_store 3 (some .boolean) :: gt
abbrev w_X3_sumOf : List Cond := Cond.code yX3_sumOf cX3_sumOf 4 (some .int) :: gt
abbrev w_X3_task : List Cond := Cond.code yX3_task cX3_task 3 (some .int) :: gt
abbrev w_X3_useMemory : List Cond := Cond.code yX3_useMemory cX3_useMemory 4 none :: gt
abbrev w_X3_wake : List Cond := Cond.code yX3_wake cX3_wake 2 (some .boolean) :: gt
abbrev w_X4_act : List Cond := Cond.code yX4_act cX4_act 5 none :: gt
abbrev w_X4_add : List Cond := Cond.code yX4_add cX4_add 2 none :: gt
abbrev w_X4_bus : List Cond := Cond.code yX4_bus cX4_bus 1 (some .int) :: gt
abbrev w_X4_change : List Cond := Cond.code yX4_change cX4_change 3 (some .int) :: gt
abbrev w_X4_constant : List Cond := Cond.code yX4_constant cX4_constant 3 (some .boolean) :: gt
abbrev w_X4_count : List Cond := Cond.code yX4_count cX4_count 2 (some .int) :: gt
abbrev w_X4_give : List Cond := Cond.code yX4_give cX4_give 4 none :: gt
abbrev w_X4_hasConstant : List Cond := Cond.code yX4_hasConstant cX4_hasConstant 1 (some .boolean) :: gt
abbrev w_X4_init : List Cond := Cond.code yX4_init cX4_init 1 none :: gt
abbrev w_X4_isOfAlu : List Cond := Cond.code yX4_isOfAlu cX4_isOfAlu 1 (some .boolean) :: gt
abbrev w_X4_now : List Cond := Cond.code yX4_now cX4_now 1 (some .int) :: gt
abbrev w_X4_out : List Cond := Cond.code yX4_out cX4_out 2 (some .int) :: gt
abbrev w_X4_peek : List Cond := Cond.code yX4_peek cX4_peek 2 (some .int) :: gt
abbrev w_X4_poke : List Cond := Cond.code yX4_poke cX4_poke 3 (some .boolean) :: gt
abbrev w_X4_port : List Cond := Cond.code yX4_port cX4_port 2 none :: gt
abbrev w_X4_reckon : List Cond := Cond.code yX4_reckon cX4_reckon 2 none :: gt
abbrev w_X4_register : List Cond := Cond.code yX4_register cX4_register 2 (some .int) :: gt
abbrev w_X4_run : List Cond := Cond.code yX4_run cX4_run 5 (some .int) :: gt
abbrev w_X4_set : List Cond := Cond.code yX4_set cX4_set 3 (some .boolean) :: gt
abbrev w_X4_shifted : List Cond := Cond.code yX4_shifted cX4_shifted 1 (some .int) :: gt
abbrev w_X4_start : List Cond := Cond.code yX4_start cX4_start 3 (some .boolean) :: gt
abbrev w_X4_store : List Cond := Cond.code yX4_store cX4_store 3 (some .boolean) :: gt
abbrev w_X4_take : List Cond := Cond.code yX4_take cX4_take 3 none :: gt
abbrev w_X4_task : List Cond := Cond.code yX4_task cX4_task 3 (some .int) :: gt
abbrev w_X4_waits : List Cond := Cond.code yX4_waits cX4_waits 2 (some .boolean) :: gt
abbrev w_X4_wake : List Cond := Cond.code yX4_wake cX4_wake 3 (some .boolean) :: gt
abbrev w_X4_within : List Cond := Cond.code yX4_within cX4_within 2 (some .boolean) :: gt
end
