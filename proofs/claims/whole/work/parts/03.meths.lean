abbrev b_AbC_init : ByteArray := prog_18_method_1_code
def y_AbC_init : MethodName := ⟨R_AbC, "<init>", "()V"⟩
abbrev rm_AbC_init : Room := { frames := 1, cells := 0, slots := 0, locals := 20 }
set_option maxRecDepth 20000 in
theorem k_code_AbC_init : Cond.code y_AbC_init b_AbC_init 1 none ∈ w_tb := List.mem_filter.mpr ⟨List.mem_append_right _ (List.mem_of_getElem? (i := 38) rfl), rfl⟩
theorem k_inst_AbC_init : Cond.instanceMethod y_AbC_init ∈ w_tb := List.mem_filter.mpr ⟨List.mem_append_right _ (List.mem_of_getElem? (i := 37) (by decide +kernel)), rfl⟩
abbrev b_AbL_init : ByteArray := prog_19_method_1_code
def y_AbL_init : MethodName := ⟨R_AbL, "<init>", "()V"⟩
abbrev rm_AbL_init : Room := { frames := 2, cells := 0, slots := 0, locals := 40 }
set_option maxRecDepth 20000 in
theorem k_code_AbL_init : Cond.code y_AbL_init b_AbL_init 1 none ∈ w_tb := List.mem_filter.mpr ⟨List.mem_append_right _ (List.mem_of_getElem? (i := 35) rfl), rfl⟩
theorem k_inst_AbL_init : Cond.instanceMethod y_AbL_init ∈ w_tb := List.mem_filter.mpr ⟨List.mem_append_right _ (List.mem_of_getElem? (i := 34) (by decide +kernel)), rfl⟩
abbrev b_AL_init_v : ByteArray := prog_20_method_2_code
def y_AL_init_v : MethodName := ⟨R_AL, "<init>", "()V"⟩
abbrev rm_AL_init_v : Room := { frames := 3, cells := 0, slots := 0, locals := 60 }
set_option maxRecDepth 20000 in
theorem k_code_AL_init_v : Cond.code y_AL_init_v b_AL_init_v 1 none ∈ w_tb := List.mem_filter.mpr ⟨List.mem_append_right _ (List.mem_of_getElem? (i := 32) rfl), rfl⟩
theorem k_inst_AL_init_v : Cond.instanceMethod y_AL_init_v ∈ w_tb := List.mem_filter.mpr ⟨List.mem_append_right _ (List.mem_of_getElem? (i := 31) (by decide +kernel)), rfl⟩
abbrev b_NS_init : ByteArray := prog_5_method_1_code
def y_NS_init : MethodName := ⟨R_NS, "<init>", "()V"⟩
abbrev rm_NS_init : Room := { frames := 1, cells := 0, slots := 0, locals := 20 }
set_option maxRecDepth 20000 in
theorem k_code_NS_init : Cond.code y_NS_init b_NS_init 1 none ∈ w_tb := List.mem_filter.mpr ⟨List.mem_append_right _ (List.mem_of_getElem? (i := 64) rfl), rfl⟩
theorem k_inst_NS_init : Cond.instanceMethod y_NS_init ∈ w_tb := List.mem_filter.mpr ⟨List.mem_append_right _ (List.mem_of_getElem? (i := 63) (by decide +kernel)), rfl⟩
abbrev b_Load_init : ByteArray := prog_4_method_1_code
def y_Load_init : MethodName := ⟨R_Load, "<init>", "()V"⟩
abbrev rm_Load_init : Room := { frames := 2, cells := 3, slots := 42, locals := 40 }
set_option maxRecDepth 20000 in
theorem k_code_Load_init : Cond.code y_Load_init b_Load_init 1 none ∈ w_tb := List.mem_filter.mpr ⟨List.mem_append_right _ (List.mem_of_getElem? (i := 58) rfl), rfl⟩
theorem k_inst_Load_init : Cond.instanceMethod y_Load_init ∈ w_tb := List.mem_filter.mpr ⟨List.mem_append_right _ (List.mem_of_getElem? (i := 57) (by decide +kernel)), rfl⟩
abbrev b_Rows_init : ByteArray := prog_1_method_1_code
def y_Rows_init : MethodName := ⟨R_Rows, "<init>", "()V"⟩
abbrev rm_Rows_init : Room := { frames := 4, cells := 12, slots := 203, locals := 80 }
set_option maxRecDepth 20000 in
theorem k_code_Rows_init : Cond.code y_Rows_init b_Rows_init 2 none ∈ w_tb := List.mem_filter.mpr ⟨List.mem_append_right _ (List.mem_of_getElem? (i := 24) rfl), rfl⟩
abbrev b_AL_size : ByteArray := prog_20_method_8_code
def y_AL_size : MethodName := ⟨R_AL, "size", "()I"⟩
abbrev rm_AL_size : Room := { frames := 0, cells := 0, slots := 0, locals := 0 }
set_option maxRecDepth 20000 in
theorem k_code_AL_size : Cond.code y_AL_size b_AL_size 1 (some .int) ∈ w_tb := List.mem_filter.mpr ⟨List.mem_append_right _ (List.mem_of_getElem? (i := 141) rfl), rfl⟩
theorem k_inst_AL_size : Cond.instanceMethod y_AL_size ∈ w_tb := List.mem_filter.mpr ⟨List.mem_append_right _ (List.mem_of_getElem? (i := 139) (by decide +kernel)), rfl⟩
theorem k_sel_AL_size : Cond.selects R_AL y_AL_size y_AL_size ∈ w_tb := List.mem_filter.mpr ⟨List.mem_append_right _ (List.mem_of_getElem? (i := 140) (by decide +kernel)), rfl⟩
abbrev b_Ini_init : ByteArray := prog_2_method_1_code
def y_Ini_init : MethodName := ⟨R_Ini, "<init>", "()V"⟩
abbrev rm_Ini_init : Room := { frames := 1, cells := 1, slots := 8, locals := 20 }
set_option maxRecDepth 20000 in
theorem k_code_Ini_init : Cond.code y_Ini_init b_Ini_init 2 none ∈ w_tb := List.mem_filter.mpr ⟨List.mem_append_right _ (List.mem_of_getElem? (i := 146) rfl), rfl⟩
theorem k_inst_Ini_init : Cond.instanceMethod y_Ini_init ∈ w_tb := List.mem_filter.mpr ⟨List.mem_append_right _ (List.mem_of_getElem? (i := 145) (by decide +kernel)), rfl⟩
abbrev b_ASup_newLength : ByteArray := prog_27_method_27_code
def y_ASup_newLength : MethodName := ⟨R_ASup, "newLength", "(III)I"⟩
abbrev rm_ASup_newLength : Room := { frames := 1, cells := 0, slots := 0, locals := 30 }
set_option maxRecDepth 20000 in
theorem k_code_ASup_newLength : Cond.code y_ASup_newLength b_ASup_newLength 4 (some .int) ∈ w_tb := List.mem_filter.mpr ⟨List.mem_append_right _ (List.mem_of_getElem? (i := 179) rfl), rfl⟩
theorem k_stat_ASup_newLength : Cond.static y_ASup_newLength ∈ w_tb := List.mem_filter.mpr ⟨List.mem_append_right _ (List.mem_of_getElem? (i := 178) (by decide +kernel)), rfl⟩
abbrev b_Arrs_copyOf_AIL : ByteArray := prog_21_method_120_code
def y_Arrs_copyOf_AIL : MethodName := ⟨R_Arrs, "copyOf", "([Ljava/lang/Object;ILjava/lang/Class;)[Ljava/lang/Object;"⟩
abbrev rm_Arrs_copyOf_AIL : Room := { frames := 1, cells := 1, slots := 160, locals := 60 }
set_option maxRecDepth 20000 in
theorem k_code_Arrs_copyOf_AIL : Cond.code y_Arrs_copyOf_AIL b_Arrs_copyOf_AIL 4 (some (.array (.object "java/lang/Object"))) ∈ w_tb := List.mem_filter.mpr ⟨List.mem_append_right _ (List.mem_of_getElem? (i := 204) rfl), rfl⟩
theorem k_stat_Arrs_copyOf_AIL : Cond.static y_Arrs_copyOf_AIL ∈ w_tb := List.mem_filter.mpr ⟨List.mem_append_right _ (List.mem_of_getElem? (i := 203) (by decide +kernel)), rfl⟩
abbrev b_Arrs_copyOf_AI : ByteArray := prog_21_method_119_code
def y_Arrs_copyOf_AI : MethodName := ⟨R_Arrs, "copyOf", "([Ljava/lang/Object;I)[Ljava/lang/Object;"⟩
abbrev rm_Arrs_copyOf_AI : Room := { frames := 2, cells := 1, slots := 160, locals := 83 }
set_option maxRecDepth 20000 in
theorem k_code_Arrs_copyOf_AI : Cond.code y_Arrs_copyOf_AI b_Arrs_copyOf_AI 2 (some (.array (.object "java/lang/Object"))) ∈ w_tb := List.mem_filter.mpr ⟨List.mem_append_right _ (List.mem_of_getElem? (i := 189) rfl), rfl⟩
theorem k_stat_Arrs_copyOf_AI : Cond.static y_Arrs_copyOf_AI ∈ w_tb := List.mem_filter.mpr ⟨List.mem_append_right _ (List.mem_of_getElem? (i := 188) (by decide +kernel)), rfl⟩
abbrev b_AL_grow_I : ByteArray := prog_20_method_6_code
def y_AL_grow_I : MethodName := ⟨R_AL, "grow", "(I)[Ljava/lang/Object;"⟩
abbrev rm_AL_grow_I : Room := { frames := 3, cells := 1, slots := 160, locals := 104 }
set_option maxRecDepth 20000 in
theorem k_code_AL_grow_I : Cond.code y_AL_grow_I b_AL_grow_I 4 (some (.array (.object "java/lang/Object"))) ∈ w_tb := List.mem_filter.mpr ⟨List.mem_append_right _ (List.mem_of_getElem? (i := 176) rfl), rfl⟩
theorem k_inst_AL_grow_I : Cond.instanceMethod y_AL_grow_I ∈ w_tb := List.mem_filter.mpr ⟨List.mem_append_right _ (List.mem_of_getElem? (i := 175) (by decide +kernel)), rfl⟩
theorem k_sel_AL_grow_I : Cond.selects R_AL y_AL_grow_I y_AL_grow_I ∈ w_tb := List.mem_filter.mpr ⟨List.mem_append_left _ (List.mem_of_getElem? (i := 2) rfl), rfl⟩
abbrev b_AL_grow_v : ByteArray := prog_20_method_7_code
def y_AL_grow_v : MethodName := ⟨R_AL, "grow", "()[Ljava/lang/Object;"⟩
abbrev rm_AL_grow_v : Room := { frames := 4, cells := 1, slots := 160, locals := 127 }
set_option maxRecDepth 20000 in
theorem k_code_AL_grow_v : Cond.code y_AL_grow_v b_AL_grow_v 1 (some (.array (.object "java/lang/Object"))) ∈ w_tb := List.mem_filter.mpr ⟨List.mem_append_right _ (List.mem_of_getElem? (i := 172) rfl), rfl⟩
theorem k_inst_AL_grow_v : Cond.instanceMethod y_AL_grow_v ∈ w_tb := List.mem_filter.mpr ⟨List.mem_append_right _ (List.mem_of_getElem? (i := 171) (by decide +kernel)), rfl⟩
theorem k_sel_AL_grow_v : Cond.selects R_AL y_AL_grow_v y_AL_grow_v ∈ w_tb := List.mem_filter.mpr ⟨List.mem_append_left _ (List.mem_of_getElem? (i := 1) rfl), rfl⟩
abbrev b_AL_add_LAI : ByteArray := prog_20_method_24_code
def y_AL_add_LAI : MethodName := ⟨R_AL, "add", "(Ljava/lang/Object;[Ljava/lang/Object;I)V"⟩
abbrev rm_AL_add_LAI : Room := { frames := 5, cells := 1, slots := 160, locals := 147 }
set_option maxRecDepth 20000 in
theorem k_code_AL_add_LAI : Cond.code y_AL_add_LAI b_AL_add_LAI 4 none ∈ w_tb := List.mem_filter.mpr ⟨List.mem_append_right _ (List.mem_of_getElem? (i := 168) rfl), rfl⟩
theorem k_inst_AL_add_LAI : Cond.instanceMethod y_AL_add_LAI ∈ w_tb := List.mem_filter.mpr ⟨List.mem_append_right _ (List.mem_of_getElem? (i := 167) (by decide +kernel)), rfl⟩
theorem k_sel_AL_add_LAI : Cond.selects R_AL y_AL_add_LAI y_AL_add_LAI ∈ w_tb := List.mem_filter.mpr ⟨List.mem_append_left _ (List.mem_of_getElem? (i := 0) rfl), rfl⟩
abbrev b_AL_add_L : ByteArray := prog_20_method_25_code
def y_AL_add_L : MethodName := ⟨R_AL, "add", "(Ljava/lang/Object;)Z"⟩
abbrev rm_AL_add_L : Room := { frames := 6, cells := 1, slots := 160, locals := 170 }
set_option maxRecDepth 20000 in
theorem k_code_AL_add_L : Cond.code y_AL_add_L b_AL_add_L 2 (some .boolean) ∈ w_tb := List.mem_filter.mpr ⟨List.mem_append_right _ (List.mem_of_getElem? (i := 164) rfl), rfl⟩
theorem k_inst_AL_add_L : Cond.instanceMethod y_AL_add_L ∈ w_tb := List.mem_filter.mpr ⟨List.mem_append_right _ (List.mem_of_getElem? (i := 162) (by decide +kernel)), rfl⟩
theorem k_sel_AL_add_L : Cond.selects R_AL y_AL_add_L y_AL_add_L ∈ w_tb := List.mem_filter.mpr ⟨List.mem_append_right _ (List.mem_of_getElem? (i := 163) (by decide +kernel)), rfl⟩
abbrev b_Rows_initiator : ByteArray := prog_1_method_2_code
def y_Rows_initiator : MethodName := ⟨R_Rows, "initiator", "()I"⟩
abbrev rm_Rows_initiator : Room := { frames := 7, cells := 3, slots := 171, locals := 191 }
set_option maxRecDepth 20000 in
theorem k_code_Rows_initiator : Cond.code y_Rows_initiator b_Rows_initiator 1 (some .int) ∈ w_tb := List.mem_filter.mpr ⟨List.mem_append_right _ (List.mem_of_getElem? (i := 137) rfl), rfl⟩
abbrev b_Rows_isIn : ByteArray := prog_1_method_22_code
def y_Rows_isIn : MethodName := ⟨R_Rows, "isIn", "(III)Z"⟩
abbrev rm_Rows_isIn : Room := { frames := 0, cells := 0, slots := 0, locals := 0 }
set_option maxRecDepth 20000 in
theorem k_code_Rows_isIn : Cond.code y_Rows_isIn b_Rows_isIn 3 (some .boolean) ∈ w_tb := List.mem_filter.mpr ⟨List.mem_append_right _ (List.mem_of_getElem? (i := 226) rfl), rfl⟩
theorem k_stat_Rows_isIn : Cond.static y_Rows_isIn ∈ w_tb := List.mem_filter.mpr ⟨List.mem_append_right _ (List.mem_of_getElem? (i := 225) (by decide +kernel)), rfl⟩
abbrev b_Prec_checkIndex_IIL : ByteArray := prog_28_method_11_code
def y_Prec_checkIndex_IIL : MethodName := ⟨R_Prec, "checkIndex", "(IILjava/util/function/BiFunction;)I"⟩
abbrev rm_Prec_checkIndex_IIL : Room := { frames := 0, cells := 0, slots := 0, locals := 0 }
set_option maxRecDepth 20000 in
theorem k_code_Prec_checkIndex_IIL : Cond.code y_Prec_checkIndex_IIL b_Prec_checkIndex_IIL 3 (some .int) ∈ w_tb := List.mem_filter.mpr ⟨List.mem_append_right _ (List.mem_of_getElem? (i := 236) rfl), rfl⟩
theorem k_stat_Prec_checkIndex_IIL : Cond.static y_Prec_checkIndex_IIL ∈ w_tb := List.mem_filter.mpr ⟨List.mem_append_right _ (List.mem_of_getElem? (i := 235) (by decide +kernel)), rfl⟩
abbrev b_Objs_checkIndex_II : ByteArray := prog_24_method_17_code
def y_Objs_checkIndex_II : MethodName := ⟨R_Objs, "checkIndex", "(II)I"⟩
abbrev rm_Objs_checkIndex_II : Room := { frames := 1, cells := 0, slots := 0, locals := 22 }
set_option maxRecDepth 20000 in
theorem k_code_Objs_checkIndex_II : Cond.code y_Objs_checkIndex_II b_Objs_checkIndex_II 2 (some .int) ∈ w_tb := List.mem_filter.mpr ⟨List.mem_append_right _ (List.mem_of_getElem? (i := 233) rfl), rfl⟩
theorem k_stat_Objs_checkIndex_II : Cond.static y_Objs_checkIndex_II ∈ w_tb := List.mem_filter.mpr ⟨List.mem_append_right _ (List.mem_of_getElem? (i := 232) (by decide +kernel)), rfl⟩
abbrev b_AL_elementData : ByteArray := prog_20_method_18_code
def y_AL_elementData : MethodName := ⟨R_AL, "elementData", "(I)Ljava/lang/Object;"⟩
abbrev rm_AL_elementData : Room := { frames := 0, cells := 0, slots := 0, locals := 0 }
set_option maxRecDepth 20000 in
theorem k_code_AL_elementData : Cond.code y_AL_elementData b_AL_elementData 2 (some (.object "java/lang/Object")) ∈ w_tb := List.mem_filter.mpr ⟨List.mem_append_right _ (List.mem_of_getElem? (i := 240) rfl), rfl⟩
theorem k_inst_AL_elementData : Cond.instanceMethod y_AL_elementData ∈ w_tb := List.mem_filter.mpr ⟨List.mem_append_right _ (List.mem_of_getElem? (i := 238) (by decide +kernel)), rfl⟩
theorem k_sel_AL_elementData : Cond.selects R_AL y_AL_elementData y_AL_elementData ∈ w_tb := List.mem_filter.mpr ⟨List.mem_append_right _ (List.mem_of_getElem? (i := 239) (by decide +kernel)), rfl⟩
abbrev b_AL_get : ByteArray := prog_20_method_20_code
def y_AL_get : MethodName := ⟨R_AL, "get", "(I)Ljava/lang/Object;"⟩
abbrev rm_AL_get : Room := { frames := 2, cells := 0, slots := 0, locals := 43 }
set_option maxRecDepth 20000 in
theorem k_code_AL_get : Cond.code y_AL_get b_AL_get 2 (some (.object "java/lang/Object")) ∈ w_tb := List.mem_filter.mpr ⟨List.mem_append_right _ (List.mem_of_getElem? (i := 230) rfl), rfl⟩
theorem k_inst_AL_get : Cond.instanceMethod y_AL_get ∈ w_tb := List.mem_filter.mpr ⟨List.mem_append_right _ (List.mem_of_getElem? (i := 228) (by decide +kernel)), rfl⟩
theorem k_sel_AL_get : Cond.selects R_AL y_AL_get y_AL_get ∈ w_tb := List.mem_filter.mpr ⟨List.mem_append_right _ (List.mem_of_getElem? (i := 229) (by decide +kernel)), rfl⟩
abbrev b_Rows_findInitiator : ByteArray := prog_1_method_25_code
def y_Rows_findInitiator : MethodName := ⟨R_Rows, "findInitiator", "(I)LInitiatorRows$Initiator;"⟩
abbrev rm_Rows_findInitiator : Room := { frames := 3, cells := 0, slots := 0, locals := 64 }
set_option maxRecDepth 20000 in
theorem k_code_Rows_findInitiator : Cond.code y_Rows_findInitiator b_Rows_findInitiator 2 (some (.object "InitiatorRows$Initiator")) ∈ w_tb := List.mem_filter.mpr ⟨List.mem_append_right _ (List.mem_of_getElem? (i := 223) rfl), rfl⟩
theorem k_inst_Rows_findInitiator : Cond.instanceMethod y_Rows_findInitiator ∈ w_tb := List.mem_filter.mpr ⟨List.mem_append_right _ (List.mem_of_getElem? (i := 222) (by decide +kernel)), rfl⟩
theorem k_sel_Rows_findInitiator : Cond.selects R_Rows y_Rows_findInitiator y_Rows_findInitiator ∈ w_tb := List.mem_filter.mpr ⟨List.mem_append_left _ (List.mem_of_getElem? (i := 3) rfl), rfl⟩
abbrev b_Rows_isClass : ByteArray := prog_1_method_23_code
def y_Rows_isClass : MethodName := ⟨R_Rows, "isClass", "(I)Z"⟩
abbrev rm_Rows_isClass : Room := { frames := 1, cells := 0, slots := 0, locals := 22 }
set_option maxRecDepth 20000 in
theorem k_code_Rows_isClass : Cond.code y_Rows_isClass b_Rows_isClass 1 (some .boolean) ∈ w_tb := List.mem_filter.mpr ⟨List.mem_append_right _ (List.mem_of_getElem? (i := 243) rfl), rfl⟩
theorem k_stat_Rows_isClass : Cond.static y_Rows_isClass ∈ w_tb := List.mem_filter.mpr ⟨List.mem_append_right _ (List.mem_of_getElem? (i := 242) (by decide +kernel)), rfl⟩
abbrev b_Rows_cls : ByteArray := prog_1_method_3_code
def y_Rows_cls : MethodName := ⟨R_Rows, "cls", "(III)I"⟩
abbrev rm_Rows_cls : Room := { frames := 4, cells := 0, slots := 0, locals := 85 }
set_option maxRecDepth 20000 in
theorem k_code_Rows_cls : Cond.code y_Rows_cls b_Rows_cls 5 (some .int) ∈ w_tb := List.mem_filter.mpr ⟨List.mem_append_right _ (List.mem_of_getElem? (i := 219) rfl), rfl⟩
abbrev b_Rows_limit : ByteArray := prog_1_method_4_code
def y_Rows_limit : MethodName := ⟨R_Rows, "limit", "(II)I"⟩
abbrev rm_Rows_limit : Room := { frames := 2, cells := 0, slots := 0, locals := 42 }
set_option maxRecDepth 20000 in
theorem k_code_Rows_limit : Cond.code y_Rows_limit b_Rows_limit 3 (some .int) ∈ w_tb := List.mem_filter.mpr ⟨List.mem_append_right _ (List.mem_of_getElem? (i := 247) rfl), rfl⟩
abbrev b_Rows_window : ByteArray := prog_1_method_5_code
def y_Rows_window : MethodName := ⟨R_Rows, "window", "(III)I"⟩
abbrev rm_Rows_window : Room := { frames := 2, cells := 0, slots := 0, locals := 42 }
set_option maxRecDepth 20000 in
theorem k_code_Rows_window : Cond.code y_Rows_window b_Rows_window 4 (some .int) ∈ w_tb := List.mem_filter.mpr ⟨List.mem_append_right _ (List.mem_of_getElem? (i := 251) rfl), rfl⟩
abbrev b_Job_init : ByteArray := prog_3_method_1_code
def y_Job_init : MethodName := ⟨R_Job, "<init>", "(IIIIJ)V"⟩
abbrev rm_Job_init : Room := { frames := 2, cells := 2, slots := 6, locals := 40 }
set_option maxRecDepth 20000 in
theorem k_code_Job_init : Cond.code y_Job_init b_Job_init 7 none ∈ w_tb := List.mem_filter.mpr ⟨List.mem_append_right _ (List.mem_of_getElem? (i := 260) rfl), rfl⟩
theorem k_inst_Job_init : Cond.instanceMethod y_Job_init ∈ w_tb := List.mem_filter.mpr ⟨List.mem_append_right _ (List.mem_of_getElem? (i := 259) (by decide +kernel)), rfl⟩
abbrev b_Rows_job : ByteArray := prog_1_method_6_code
def y_Rows_job : MethodName := ⟨R_Rows, "job", "(IIIJ)I"⟩
abbrev rm_Rows_job : Room := { frames := 7, cells := 4, slots := 176, locals := 191 }
set_option maxRecDepth 20000 in
theorem k_code_Rows_job : Cond.code y_Rows_job b_Rows_job 7 (some .int) ∈ w_tb := List.mem_filter.mpr ⟨List.mem_append_right _ (List.mem_of_getElem? (i := 255) rfl), rfl⟩
abbrev b_Rows_findJob : ByteArray := prog_1_method_26_code
def y_Rows_findJob : MethodName := ⟨R_Rows, "findJob", "(I)LInitiatorRows$Job;"⟩
abbrev rm_Rows_findJob : Room := { frames := 3, cells := 0, slots := 0, locals := 64 }
set_option maxRecDepth 20000 in
theorem k_code_Rows_findJob : Cond.code y_Rows_findJob b_Rows_findJob 2 (some (.object "InitiatorRows$Job")) ∈ w_tb := List.mem_filter.mpr ⟨List.mem_append_right _ (List.mem_of_getElem? (i := 316) rfl), rfl⟩
theorem k_inst_Rows_findJob : Cond.instanceMethod y_Rows_findJob ∈ w_tb := List.mem_filter.mpr ⟨List.mem_append_right _ (List.mem_of_getElem? (i := 315) (by decide +kernel)), rfl⟩
theorem k_sel_Rows_findJob : Cond.selects R_Rows y_Rows_findJob y_Rows_findJob ∈ w_tb := List.mem_filter.mpr ⟨List.mem_append_left _ (List.mem_of_getElem? (i := 4) rfl), rfl⟩
abbrev b_Job_isWaiting : ByteArray := prog_3_method_2_code
def y_Job_isWaiting : MethodName := ⟨R_Job, "isWaiting", "()Z"⟩
abbrev rm_Job_isWaiting : Room := { frames := 0, cells := 0, slots := 0, locals := 0 }
set_option maxRecDepth 20000 in
theorem k_code_Job_isWaiting : Cond.code y_Job_isWaiting b_Job_isWaiting 1 (some .boolean) ∈ w_tb := List.mem_filter.mpr ⟨List.mem_append_right _ (List.mem_of_getElem? (i := 320) rfl), rfl⟩
theorem k_inst_Job_isWaiting : Cond.instanceMethod y_Job_isWaiting ∈ w_tb := List.mem_filter.mpr ⟨List.mem_append_right _ (List.mem_of_getElem? (i := 318) (by decide +kernel)), rfl⟩
theorem k_sel_Job_isWaiting : Cond.selects R_Job y_Job_isWaiting y_Job_isWaiting ∈ w_tb := List.mem_filter.mpr ⟨List.mem_append_right _ (List.mem_of_getElem? (i := 319) (by decide +kernel)), rfl⟩
abbrev b_NS_has : ByteArray := prog_5_method_2_code
def y_NS_has : MethodName := ⟨R_NS, "has", "(I)Z"⟩
abbrev rm_NS_has : Room := { frames := 0, cells := 0, slots := 0, locals := 0 }
set_option maxRecDepth 20000 in
theorem k_code_NS_has : Cond.code y_NS_has b_NS_has 4 (some .boolean) ∈ w_tb := List.mem_filter.mpr ⟨List.mem_append_right _ (List.mem_of_getElem? (i := 324) rfl), rfl⟩
theorem k_inst_NS_has : Cond.instanceMethod y_NS_has ∈ w_tb := List.mem_filter.mpr ⟨List.mem_append_right _ (List.mem_of_getElem? (i := 322) (by decide +kernel)), rfl⟩
theorem k_sel_NS_has : Cond.selects R_NS y_NS_has y_NS_has ∈ w_tb := List.mem_filter.mpr ⟨List.mem_append_right _ (List.mem_of_getElem? (i := 323) (by decide +kernel)), rfl⟩
abbrev b_NS_put : ByteArray := prog_5_method_3_code
def y_NS_put : MethodName := ⟨R_NS, "put", "(I)V"⟩
abbrev rm_NS_put : Room := { frames := 0, cells := 0, slots := 0, locals := 0 }
set_option maxRecDepth 20000 in
theorem k_code_NS_put : Cond.code y_NS_put b_NS_put 2 none ∈ w_tb := List.mem_filter.mpr ⟨List.mem_append_right _ (List.mem_of_getElem? (i := 332) rfl), rfl⟩
theorem k_inst_NS_put : Cond.instanceMethod y_NS_put ∈ w_tb := List.mem_filter.mpr ⟨List.mem_append_right _ (List.mem_of_getElem? (i := 330) (by decide +kernel)), rfl⟩
theorem k_sel_NS_put : Cond.selects R_NS y_NS_put y_NS_put ∈ w_tb := List.mem_filter.mpr ⟨List.mem_append_right _ (List.mem_of_getElem? (i := 331) (by decide +kernel)), rfl⟩
abbrev b_NS_putAll : ByteArray := prog_5_method_5_code
def y_NS_putAll : MethodName := ⟨R_NS, "putAll", "(LInitiatorRows$NumberSet;)V"⟩
abbrev rm_NS_putAll : Room := { frames := 0, cells := 0, slots := 0, locals := 0 }
set_option maxRecDepth 20000 in
theorem k_code_NS_putAll : Cond.code y_NS_putAll b_NS_putAll 2 none ∈ w_tb := List.mem_filter.mpr ⟨List.mem_append_right _ (List.mem_of_getElem? (i := 336) rfl), rfl⟩
theorem k_inst_NS_putAll : Cond.instanceMethod y_NS_putAll ∈ w_tb := List.mem_filter.mpr ⟨List.mem_append_right _ (List.mem_of_getElem? (i := 334) (by decide +kernel)), rfl⟩
theorem k_sel_NS_putAll : Cond.selects R_NS y_NS_putAll y_NS_putAll ∈ w_tb := List.mem_filter.mpr ⟨List.mem_append_right _ (List.mem_of_getElem? (i := 335) (by decide +kernel)), rfl⟩
abbrev b_Rows_addNeed : ByteArray := prog_1_method_27_code
def y_Rows_addNeed : MethodName := ⟨R_Rows, "addNeed", "(LInitiatorRows$Job;LInitiatorRows$Job;)V"⟩
abbrev rm_Rows_addNeed : Room := { frames := 3, cells := 0, slots := 0, locals := 64 }
set_option maxRecDepth 20000 in
theorem k_code_Rows_addNeed : Cond.code y_Rows_addNeed b_Rows_addNeed 5 none ∈ w_tb := List.mem_filter.mpr ⟨List.mem_append_right _ (List.mem_of_getElem? (i := 328) rfl), rfl⟩
theorem k_inst_Rows_addNeed : Cond.instanceMethod y_Rows_addNeed ∈ w_tb := List.mem_filter.mpr ⟨List.mem_append_right _ (List.mem_of_getElem? (i := 327) (by decide +kernel)), rfl⟩
theorem k_sel_Rows_addNeed : Cond.selects R_Rows y_Rows_addNeed y_Rows_addNeed ∈ w_tb := List.mem_filter.mpr ⟨List.mem_append_left _ (List.mem_of_getElem? (i := 5) rfl), rfl⟩
abbrev b_Rows_needs : ByteArray := prog_1_method_7_code
def y_Rows_needs : MethodName := ⟨R_Rows, "needs", "(II)I"⟩
abbrev rm_Rows_needs : Room := { frames := 4, cells := 0, slots := 0, locals := 88 }
set_option maxRecDepth 20000 in
theorem k_code_Rows_needs : Cond.code y_Rows_needs b_Rows_needs 5 (some .int) ∈ w_tb := List.mem_filter.mpr ⟨List.mem_append_right _ (List.mem_of_getElem? (i := 312) rfl), rfl⟩
abbrev b_Rows_isKind : ByteArray := prog_1_method_24_code
def y_Rows_isKind : MethodName := ⟨R_Rows, "isKind", "(I)Z"⟩
abbrev rm_Rows_isKind : Room := { frames := 1, cells := 0, slots := 0, locals := 22 }
set_option maxRecDepth 20000 in
theorem k_code_Rows_isKind : Cond.code y_Rows_isKind b_Rows_isKind 1 (some .boolean) ∈ w_tb := List.mem_filter.mpr ⟨List.mem_append_right _ (List.mem_of_getElem? (i := 343) rfl), rfl⟩
theorem k_stat_Rows_isKind : Cond.static y_Rows_isKind ∈ w_tb := List.mem_filter.mpr ⟨List.mem_append_right _ (List.mem_of_getElem? (i := 342) (by decide +kernel)), rfl⟩
abbrev b_Rows_units : ByteArray := prog_1_method_8_code
def y_Rows_units : MethodName := ⟨R_Rows, "units", "(II)I"⟩
abbrev rm_Rows_units : Room := { frames := 2, cells := 0, slots := 0, locals := 42 }
set_option maxRecDepth 20000 in
theorem k_code_Rows_units : Cond.code y_Rows_units b_Rows_units 3 (some .int) ∈ w_tb := List.mem_filter.mpr ⟨List.mem_append_right _ (List.mem_of_getElem? (i := 340) rfl), rfl⟩
abbrev b_Rows_uses : ByteArray := prog_1_method_9_code
def y_Rows_uses : MethodName := ⟨R_Rows, "uses", "(III)I"⟩
abbrev rm_Rows_uses : Room := { frames := 4, cells := 0, slots := 0, locals := 85 }
set_option maxRecDepth 20000 in
theorem k_code_Rows_uses : Cond.code y_Rows_uses b_Rows_uses 5 (some .int) ∈ w_tb := List.mem_filter.mpr ⟨List.mem_append_right _ (List.mem_of_getElem? (i := 347) rfl), rfl⟩
abbrev b_Rows_alone : ByteArray := prog_1_method_10_code
def y_Rows_alone : MethodName := ⟨R_Rows, "alone", "(I)I"⟩
abbrev rm_Rows_alone : Room := { frames := 4, cells := 0, slots := 0, locals := 85 }
set_option maxRecDepth 20000 in
theorem k_code_Rows_alone : Cond.code y_Rows_alone b_Rows_alone 3 (some .int) ∈ w_tb := List.mem_filter.mpr ⟨List.mem_append_right _ (List.mem_of_getElem? (i := 351) rfl), rfl⟩
abbrev b_Rows_hold : ByteArray := prog_1_method_11_code
def y_Rows_hold : MethodName := ⟨R_Rows, "hold", "(IZ)I"⟩
abbrev rm_Rows_hold : Room := { frames := 4, cells := 0, slots := 0, locals := 85 }
set_option maxRecDepth 20000 in
theorem k_code_Rows_hold : Cond.code y_Rows_hold b_Rows_hold 5 (some .int) ∈ w_tb := List.mem_filter.mpr ⟨List.mem_append_right _ (List.mem_of_getElem? (i := 355) rfl), rfl⟩
abbrev b_Rows_isWindowOpen : ByteArray := prog_1_method_31_code
def y_Rows_isWindowOpen : MethodName := ⟨R_Rows, "isWindowOpen", "(I)Z"⟩
abbrev rm_Rows_isWindowOpen : Room := { frames := 0, cells := 0, slots := 0, locals := 0 }
set_option maxRecDepth 20000 in
theorem k_code_Rows_isWindowOpen : Cond.code y_Rows_isWindowOpen b_Rows_isWindowOpen 5 (some .boolean) ∈ w_tb := List.mem_filter.mpr ⟨List.mem_append_right _ (List.mem_of_getElem? (i := 375) rfl), rfl⟩
theorem k_inst_Rows_isWindowOpen : Cond.instanceMethod y_Rows_isWindowOpen ∈ w_tb := List.mem_filter.mpr ⟨List.mem_append_right _ (List.mem_of_getElem? (i := 374) (by decide +kernel)), rfl⟩
theorem k_sel_Rows_isWindowOpen : Cond.selects R_Rows y_Rows_isWindowOpen y_Rows_isWindowOpen ∈ w_tb := List.mem_filter.mpr ⟨List.mem_append_left _ (List.mem_of_getElem? (i := 9) rfl), rfl⟩
abbrev b_NS_isWithin : ByteArray := prog_5_method_6_code
def y_NS_isWithin : MethodName := ⟨R_NS, "isWithin", "(LInitiatorRows$NumberSet;)Z"⟩
abbrev rm_NS_isWithin : Room := { frames := 0, cells := 0, slots := 0, locals := 0 }
set_option maxRecDepth 20000 in
theorem k_code_NS_isWithin : Cond.code y_NS_isWithin b_NS_isWithin 2 (some .boolean) ∈ w_tb := List.mem_filter.mpr ⟨List.mem_append_right _ (List.mem_of_getElem? (i := 380) rfl), rfl⟩
theorem k_inst_NS_isWithin : Cond.instanceMethod y_NS_isWithin ∈ w_tb := List.mem_filter.mpr ⟨List.mem_append_right _ (List.mem_of_getElem? (i := 378) (by decide +kernel)), rfl⟩
theorem k_sel_NS_isWithin : Cond.selects R_NS y_NS_isWithin y_NS_isWithin ∈ w_tb := List.mem_filter.mpr ⟨List.mem_append_right _ (List.mem_of_getElem? (i := 379) (by decide +kernel)), rfl⟩
abbrev b_Rows_areUnitsEnough : ByteArray := prog_1_method_32_code
def y_Rows_areUnitsEnough : MethodName := ⟨R_Rows, "areUnitsEnough", "(LInitiatorRows$Job;)Z"⟩
abbrev rm_Rows_areUnitsEnough : Room := { frames := 0, cells := 0, slots := 0, locals := 0 }
set_option maxRecDepth 20000 in
theorem k_code_Rows_areUnitsEnough : Cond.code y_Rows_areUnitsEnough b_Rows_areUnitsEnough 3 (some .boolean) ∈ w_tb := List.mem_filter.mpr ⟨List.mem_append_right _ (List.mem_of_getElem? (i := 385) rfl), rfl⟩
theorem k_inst_Rows_areUnitsEnough : Cond.instanceMethod y_Rows_areUnitsEnough ∈ w_tb := List.mem_filter.mpr ⟨List.mem_append_right _ (List.mem_of_getElem? (i := 384) (by decide +kernel)), rfl⟩
theorem k_sel_Rows_areUnitsEnough : Cond.selects R_Rows y_Rows_areUnitsEnough y_Rows_areUnitsEnough ∈ w_tb := List.mem_filter.mpr ⟨List.mem_append_left _ (List.mem_of_getElem? (i := 10) rfl), rfl⟩
abbrev b_Rows_mayStart : ByteArray := prog_1_method_30_code
def y_Rows_mayStart : MethodName := ⟨R_Rows, "mayStart", "(LInitiatorRows$Job;)Z"⟩
abbrev rm_Rows_mayStart : Room := { frames := 1, cells := 0, slots := 0, locals := 24 }
set_option maxRecDepth 20000 in
theorem k_code_Rows_mayStart : Cond.code y_Rows_mayStart b_Rows_mayStart 2 (some .boolean) ∈ w_tb := List.mem_filter.mpr ⟨List.mem_append_right _ (List.mem_of_getElem? (i := 371) rfl), rfl⟩
theorem k_inst_Rows_mayStart : Cond.instanceMethod y_Rows_mayStart ∈ w_tb := List.mem_filter.mpr ⟨List.mem_append_right _ (List.mem_of_getElem? (i := 370) (by decide +kernel)), rfl⟩
theorem k_sel_Rows_mayStart : Cond.selects R_Rows y_Rows_mayStart y_Rows_mayStart ∈ w_tb := List.mem_filter.mpr ⟨List.mem_append_left _ (List.mem_of_getElem? (i := 8) rfl), rfl⟩
abbrev b_Rows_priorityNow : ByteArray := prog_1_method_33_code
def y_Rows_priorityNow : MethodName := ⟨R_Rows, "priorityNow", "(LInitiatorRows$Job;)I"⟩
abbrev rm_Rows_priorityNow : Room := { frames := 1, cells := 0, slots := 0, locals := 30 }
set_option maxRecDepth 20000 in
theorem k_code_Rows_priorityNow : Cond.code y_Rows_priorityNow b_Rows_priorityNow 5 (some .int) ∈ w_tb := List.mem_filter.mpr ⟨List.mem_append_right _ (List.mem_of_getElem? (i := 389) rfl), rfl⟩
theorem k_inst_Rows_priorityNow : Cond.instanceMethod y_Rows_priorityNow ∈ w_tb := List.mem_filter.mpr ⟨List.mem_append_right _ (List.mem_of_getElem? (i := 388) (by decide +kernel)), rfl⟩
theorem k_sel_Rows_priorityNow : Cond.selects R_Rows y_Rows_priorityNow y_Rows_priorityNow ∈ w_tb := List.mem_filter.mpr ⟨List.mem_append_left _ (List.mem_of_getElem? (i := 11) rfl), rfl⟩
abbrev b_Rows_nextOfClass : ByteArray := prog_1_method_29_code
def y_Rows_nextOfClass : MethodName := ⟨R_Rows, "nextOfClass", "(I)LInitiatorRows$Job;"⟩
abbrev rm_Rows_nextOfClass : Room := { frames := 3, cells := 0, slots := 0, locals := 64 }
set_option maxRecDepth 20000 in
theorem k_code_Rows_nextOfClass : Cond.code y_Rows_nextOfClass b_Rows_nextOfClass 5 (some (.object "InitiatorRows$Job")) ∈ w_tb := List.mem_filter.mpr ⟨List.mem_append_right _ (List.mem_of_getElem? (i := 367) rfl), rfl⟩
theorem k_inst_Rows_nextOfClass : Cond.instanceMethod y_Rows_nextOfClass ∈ w_tb := List.mem_filter.mpr ⟨List.mem_append_right _ (List.mem_of_getElem? (i := 366) (by decide +kernel)), rfl⟩
theorem k_sel_Rows_nextOfClass : Cond.selects R_Rows y_Rows_nextOfClass y_Rows_nextOfClass ∈ w_tb := List.mem_filter.mpr ⟨List.mem_append_left _ (List.mem_of_getElem? (i := 7) rfl), rfl⟩
abbrev b_Rows_nextFor : ByteArray := prog_1_method_28_code
def y_Rows_nextFor : MethodName := ⟨R_Rows, "nextFor", "(LInitiatorRows$Initiator;)LInitiatorRows$Job;"⟩
abbrev rm_Rows_nextFor : Room := { frames := 4, cells := 0, slots := 0, locals := 88 }
set_option maxRecDepth 20000 in
theorem k_code_Rows_nextFor : Cond.code y_Rows_nextFor b_Rows_nextFor 5 (some (.object "InitiatorRows$Job")) ∈ w_tb := List.mem_filter.mpr ⟨List.mem_append_right _ (List.mem_of_getElem? (i := 363) rfl), rfl⟩
theorem k_inst_Rows_nextFor : Cond.instanceMethod y_Rows_nextFor ∈ w_tb := List.mem_filter.mpr ⟨List.mem_append_right _ (List.mem_of_getElem? (i := 362) (by decide +kernel)), rfl⟩
theorem k_sel_Rows_nextFor : Cond.selects R_Rows y_Rows_nextFor y_Rows_nextFor ∈ w_tb := List.mem_filter.mpr ⟨List.mem_append_left _ (List.mem_of_getElem? (i := 6) rfl), rfl⟩
abbrev b_Load_take : ByteArray := prog_4_method_2_code
def y_Load_take : MethodName := ⟨R_Load, "take", "(LInitiatorRows$Job;)V"⟩
abbrev rm_Load_take : Room := { frames := 1, cells := 0, slots := 0, locals := 21 }
set_option maxRecDepth 20000 in
theorem k_code_Load_take : Cond.code y_Load_take b_Load_take 3 none ∈ w_tb := List.mem_filter.mpr ⟨List.mem_append_right _ (List.mem_of_getElem? (i := 400) rfl), rfl⟩
theorem k_inst_Load_take : Cond.instanceMethod y_Load_take ∈ w_tb := List.mem_filter.mpr ⟨List.mem_append_right _ (List.mem_of_getElem? (i := 398) (by decide +kernel)), rfl⟩
theorem k_sel_Load_take : Cond.selects R_Load y_Load_take y_Load_take ∈ w_tb := List.mem_filter.mpr ⟨List.mem_append_right _ (List.mem_of_getElem? (i := 399) (by decide +kernel)), rfl⟩
abbrev b_Rows_startJob : ByteArray := prog_1_method_34_code
def y_Rows_startJob : MethodName := ⟨R_Rows, "startJob", "(LInitiatorRows$Initiator;LInitiatorRows$Job;)V"⟩
abbrev rm_Rows_startJob : Room := { frames := 2, cells := 0, slots := 0, locals := 43 }
set_option maxRecDepth 20000 in
theorem k_code_Rows_startJob : Cond.code y_Rows_startJob b_Rows_startJob 3 none ∈ w_tb := List.mem_filter.mpr ⟨List.mem_append_right _ (List.mem_of_getElem? (i := 396) rfl), rfl⟩
theorem k_inst_Rows_startJob : Cond.instanceMethod y_Rows_startJob ∈ w_tb := List.mem_filter.mpr ⟨List.mem_append_right _ (List.mem_of_getElem? (i := 395) (by decide +kernel)), rfl⟩
theorem k_sel_Rows_startJob : Cond.selects R_Rows y_Rows_startJob y_Rows_startJob ∈ w_tb := List.mem_filter.mpr ⟨List.mem_append_left _ (List.mem_of_getElem? (i := 12) rfl), rfl⟩
abbrev b_Rows_next : ByteArray := prog_1_method_12_code
def y_Rows_next : MethodName := ⟨R_Rows, "next", "(IJ)I"⟩
abbrev rm_Rows_next : Room := { frames := 5, cells := 0, slots := 0, locals := 112 }
set_option maxRecDepth 20000 in
theorem k_code_Rows_next : Cond.code y_Rows_next b_Rows_next 6 (some .int) ∈ w_tb := List.mem_filter.mpr ⟨List.mem_append_right _ (List.mem_of_getElem? (i := 359) rfl), rfl⟩
abbrev b_NS_drop : ByteArray := prog_5_method_4_code
def y_NS_drop : MethodName := ⟨R_NS, "drop", "(I)V"⟩
abbrev rm_NS_drop : Room := { frames := 0, cells := 0, slots := 0, locals := 0 }
set_option maxRecDepth 20000 in
theorem k_code_NS_drop : Cond.code y_NS_drop b_NS_drop 2 none ∈ w_tb := List.mem_filter.mpr ⟨List.mem_append_right _ (List.mem_of_getElem? (i := 417) rfl), rfl⟩
theorem k_inst_NS_drop : Cond.instanceMethod y_NS_drop ∈ w_tb := List.mem_filter.mpr ⟨List.mem_append_right _ (List.mem_of_getElem? (i := 415) (by decide +kernel)), rfl⟩
theorem k_sel_NS_drop : Cond.selects R_NS y_NS_drop y_NS_drop ∈ w_tb := List.mem_filter.mpr ⟨List.mem_append_right _ (List.mem_of_getElem? (i := 416) (by decide +kernel)), rfl⟩
abbrev b_Load_release : ByteArray := prog_4_method_3_code
def y_Load_release : MethodName := ⟨R_Load, "release", "(LInitiatorRows$Job;)V"⟩
abbrev rm_Load_release : Room := { frames := 1, cells := 0, slots := 0, locals := 21 }
set_option maxRecDepth 20000 in
theorem k_code_Load_release : Cond.code y_Load_release b_Load_release 3 none ∈ w_tb := List.mem_filter.mpr ⟨List.mem_append_right _ (List.mem_of_getElem? (i := 413) rfl), rfl⟩
theorem k_inst_Load_release : Cond.instanceMethod y_Load_release ∈ w_tb := List.mem_filter.mpr ⟨List.mem_append_right _ (List.mem_of_getElem? (i := 411) (by decide +kernel)), rfl⟩
theorem k_sel_Load_release : Cond.selects R_Load y_Load_release y_Load_release ∈ w_tb := List.mem_filter.mpr ⟨List.mem_append_right _ (List.mem_of_getElem? (i := 412) (by decide +kernel)), rfl⟩
abbrev b_Rows_stopJob : ByteArray := prog_1_method_35_code
def y_Rows_stopJob : MethodName := ⟨R_Rows, "stopJob", "(LInitiatorRows$Job;)V"⟩
abbrev rm_Rows_stopJob : Room := { frames := 3, cells := 0, slots := 0, locals := 64 }
set_option maxRecDepth 20000 in
theorem k_code_Rows_stopJob : Cond.code y_Rows_stopJob b_Rows_stopJob 4 none ∈ w_tb := List.mem_filter.mpr ⟨List.mem_append_right _ (List.mem_of_getElem? (i := 409) rfl), rfl⟩
theorem k_inst_Rows_stopJob : Cond.instanceMethod y_Rows_stopJob ∈ w_tb := List.mem_filter.mpr ⟨List.mem_append_right _ (List.mem_of_getElem? (i := 408) (by decide +kernel)), rfl⟩
theorem k_sel_Rows_stopJob : Cond.selects R_Rows y_Rows_stopJob y_Rows_stopJob ∈ w_tb := List.mem_filter.mpr ⟨List.mem_append_left _ (List.mem_of_getElem? (i := 13) rfl), rfl⟩
abbrev b_Rows_end : ByteArray := prog_1_method_13_code
def y_Rows_end : MethodName := ⟨R_Rows, "end", "(I)I"⟩
abbrev rm_Rows_end : Room := { frames := 4, cells := 0, slots := 0, locals := 87 }
set_option maxRecDepth 20000 in
theorem k_code_Rows_end : Cond.code y_Rows_end b_Rows_end 3 (some .int) ∈ w_tb := List.mem_filter.mpr ⟨List.mem_append_right _ (List.mem_of_getElem? (i := 405) rfl), rfl⟩
abbrev b_Rows_age : ByteArray := prog_1_method_14_code
def y_Rows_age : MethodName := ⟨R_Rows, "age", "(JI)I"⟩
abbrev rm_Rows_age : Room := { frames := 1, cells := 0, slots := 0, locals := 22 }
set_option maxRecDepth 20000 in
theorem k_code_Rows_age : Cond.code y_Rows_age b_Rows_age 4 (some .int) ∈ w_tb := List.mem_filter.mpr ⟨List.mem_append_right _ (List.mem_of_getElem? (i := 421) rfl), rfl⟩
abbrev b_Rows_drain : ByteArray := prog_1_method_15_code
def y_Rows_drain : MethodName := ⟨R_Rows, "drain", "(IZ)I"⟩
abbrev rm_Rows_drain : Room := { frames := 4, cells := 0, slots := 0, locals := 85 }
set_option maxRecDepth 20000 in
theorem k_code_Rows_drain : Cond.code y_Rows_drain b_Rows_drain 4 (some .int) ∈ w_tb := List.mem_filter.mpr ⟨List.mem_append_right _ (List.mem_of_getElem? (i := 425) rfl), rfl⟩
abbrev b_Rows_weight : ByteArray := prog_1_method_16_code
def y_Rows_weight : MethodName := ⟨R_Rows, "weight", "(II)I"⟩
abbrev rm_Rows_weight : Room := { frames := 2, cells := 0, slots := 0, locals := 42 }
set_option maxRecDepth 20000 in
theorem k_code_Rows_weight : Cond.code y_Rows_weight b_Rows_weight 3 (some .int) ∈ w_tb := List.mem_filter.mpr ⟨List.mem_append_right _ (List.mem_of_getElem? (i := 429) rfl), rfl⟩
abbrev b_Rows_sumOfWeights : ByteArray := prog_1_method_36_code
def y_Rows_sumOfWeights : MethodName := ⟨R_Rows, "sumOfWeights", "()J"⟩
abbrev rm_Rows_sumOfWeights : Room := { frames := 0, cells := 0, slots := 0, locals := 0 }
set_option maxRecDepth 20000 in
theorem k_code_Rows_sumOfWeights : Cond.code y_Rows_sumOfWeights b_Rows_sumOfWeights 4 (some .long) ∈ w_tb := List.mem_filter.mpr ⟨List.mem_append_right _ (List.mem_of_getElem? (i := 470) rfl), rfl⟩
theorem k_inst_Rows_sumOfWeights : Cond.instanceMethod y_Rows_sumOfWeights ∈ w_tb := List.mem_filter.mpr ⟨List.mem_append_right _ (List.mem_of_getElem? (i := 469) (by decide +kernel)), rfl⟩
theorem k_sel_Rows_sumOfWeights : Cond.selects R_Rows y_Rows_sumOfWeights y_Rows_sumOfWeights ∈ w_tb := List.mem_filter.mpr ⟨List.mem_append_left _ (List.mem_of_getElem? (i := 17) rfl), rfl⟩
abbrev b_Rows_share : ByteArray := prog_1_method_17_code
def y_Rows_share : MethodName := ⟨R_Rows, "share", "(IJ)J"⟩
abbrev rm_Rows_share : Room := { frames := 2, cells := 0, slots := 0, locals := 42 }
set_option maxRecDepth 20000 in
theorem k_code_Rows_share : Cond.code y_Rows_share b_Rows_share 17 (some .long) ∈ w_tb := List.mem_filter.mpr ⟨List.mem_append_right _ (List.mem_of_getElem? (i := 466) rfl), rfl⟩
abbrev b_Rows_order : ByteArray := prog_1_method_18_code
def y_Rows_order : MethodName := ⟨R_Rows, "order", "(I)I"⟩
abbrev rm_Rows_order : Room := { frames := 3, cells := 0, slots := 0, locals := 64 }
set_option maxRecDepth 20000 in
theorem k_code_Rows_order : Cond.code y_Rows_order b_Rows_order 6 (some .int) ∈ w_tb := List.mem_filter.mpr ⟨List.mem_append_right _ (List.mem_of_getElem? (i := 433) rfl), rfl⟩
abbrev b_Rows_waited : ByteArray := prog_1_method_19_code
def y_Rows_waited : MethodName := ⟨R_Rows, "waited", "(I)J"⟩
abbrev rm_Rows_waited : Room := { frames := 4, cells := 0, slots := 0, locals := 85 }
set_option maxRecDepth 20000 in
theorem k_code_Rows_waited : Cond.code y_Rows_waited b_Rows_waited 3 (some .long) ∈ w_tb := List.mem_filter.mpr ⟨List.mem_append_right _ (List.mem_of_getElem? (i := 437) rfl), rfl⟩
abbrev b_Rows_state : ByteArray := prog_1_method_20_code
def y_Rows_state : MethodName := ⟨R_Rows, "state", "(I)I"⟩
abbrev rm_Rows_state : Room := { frames := 4, cells := 0, slots := 0, locals := 85 }
set_option maxRecDepth 20000 in
theorem k_code_Rows_state : Cond.code y_Rows_state b_Rows_state 3 (some .int) ∈ w_tb := List.mem_filter.mpr ⟨List.mem_append_right _ (List.mem_of_getElem? (i := 442) rfl), rfl⟩
abbrev b_Rows_jobsIn : ByteArray := prog_1_method_37_code
def y_Rows_jobsIn : MethodName := ⟨R_Rows, "jobsIn", "(I)I"⟩
abbrev rm_Rows_jobsIn : Room := { frames := 3, cells := 0, slots := 0, locals := 64 }
set_option maxRecDepth 20000 in
theorem k_code_Rows_jobsIn : Cond.code y_Rows_jobsIn b_Rows_jobsIn 4 (some .int) ∈ w_tb := List.mem_filter.mpr ⟨List.mem_append_right _ (List.mem_of_getElem? (i := 450) rfl), rfl⟩
theorem k_inst_Rows_jobsIn : Cond.instanceMethod y_Rows_jobsIn ∈ w_tb := List.mem_filter.mpr ⟨List.mem_append_right _ (List.mem_of_getElem? (i := 449) (by decide +kernel)), rfl⟩
theorem k_sel_Rows_jobsIn : Cond.selects R_Rows y_Rows_jobsIn y_Rows_jobsIn ∈ w_tb := List.mem_filter.mpr ⟨List.mem_append_left _ (List.mem_of_getElem? (i := 14) rfl), rfl⟩
abbrev b_Rows_drainedAndIdle : ByteArray := prog_1_method_38_code
def y_Rows_drainedAndIdle : MethodName := ⟨R_Rows, "drainedAndIdle", "()I"⟩
abbrev rm_Rows_drainedAndIdle : Room := { frames := 3, cells := 0, slots := 0, locals := 64 }
set_option maxRecDepth 20000 in
theorem k_code_Rows_drainedAndIdle : Cond.code y_Rows_drainedAndIdle b_Rows_drainedAndIdle 4 (some .int) ∈ w_tb := List.mem_filter.mpr ⟨List.mem_append_right _ (List.mem_of_getElem? (i := 454) rfl), rfl⟩
theorem k_inst_Rows_drainedAndIdle : Cond.instanceMethod y_Rows_drainedAndIdle ∈ w_tb := List.mem_filter.mpr ⟨List.mem_append_right _ (List.mem_of_getElem? (i := 453) (by decide +kernel)), rfl⟩
theorem k_sel_Rows_drainedAndIdle : Cond.selects R_Rows y_Rows_drainedAndIdle y_Rows_drainedAndIdle ∈ w_tb := List.mem_filter.mpr ⟨List.mem_append_left _ (List.mem_of_getElem? (i := 15) rfl), rfl⟩
abbrev b_Rows_unitsInUse : ByteArray := prog_1_method_39_code
def y_Rows_unitsInUse : MethodName := ⟨R_Rows, "unitsInUse", "(I)I"⟩
abbrev rm_Rows_unitsInUse : Room := { frames := 1, cells := 0, slots := 0, locals := 22 }
set_option maxRecDepth 20000 in
theorem k_code_Rows_unitsInUse : Cond.code y_Rows_unitsInUse b_Rows_unitsInUse 2 (some .int) ∈ w_tb := List.mem_filter.mpr ⟨List.mem_append_right _ (List.mem_of_getElem? (i := 458) rfl), rfl⟩
theorem k_inst_Rows_unitsInUse : Cond.instanceMethod y_Rows_unitsInUse ∈ w_tb := List.mem_filter.mpr ⟨List.mem_append_right _ (List.mem_of_getElem? (i := 457) (by decide +kernel)), rfl⟩
theorem k_sel_Rows_unitsInUse : Cond.selects R_Rows y_Rows_unitsInUse y_Rows_unitsInUse ∈ w_tb := List.mem_filter.mpr ⟨List.mem_append_left _ (List.mem_of_getElem? (i := 16) rfl), rfl⟩
abbrev b_Rows_count : ByteArray := prog_1_method_21_code
def y_Rows_count : MethodName := ⟨R_Rows, "count", "(I)I"⟩
abbrev rm_Rows_count : Room := { frames := 4, cells := 0, slots := 0, locals := 87 }
set_option maxRecDepth 20000 in
theorem k_code_Rows_count : Cond.code y_Rows_count b_Rows_count 2 (some .int) ∈ w_tb := List.mem_filter.mpr ⟨List.mem_append_right _ (List.mem_of_getElem? (i := 446) rfl), rfl⟩
abbrev b_Mod_init : ByteArray := prog_7_method_1_code
def y_Mod_init : MethodName := ⟨R_Mod, "<init>", "()V"⟩
abbrev rm_Mod_init : Room := { frames := 1, cells := 19, slots := 11568, locals := 20 }
set_option maxRecDepth 20000 in
theorem k_code_Mod_init : Cond.code y_Mod_init b_Mod_init 2 none ∈ w_tb := List.mem_filter.mpr ⟨List.mem_append_right _ (List.mem_of_getElem? (i := 541) rfl), rfl⟩
abbrev b_Mod_thrown : ByteArray := prog_7_method_2_code
def y_Mod_thrown : MethodName := ⟨R_Mod, "thrown", "()I"⟩
abbrev rm_Mod_thrown : Room := { frames := 0, cells := 0, slots := 0, locals := 0 }
set_option maxRecDepth 20000 in
theorem k_code_Mod_thrown : Cond.code y_Mod_thrown b_Mod_thrown 1 (some .int) ∈ w_tb := List.mem_filter.mpr ⟨List.mem_append_right _ (List.mem_of_getElem? (i := 624) rfl), rfl⟩
abbrev b_Mod_isInitiator : ByteArray := prog_7_method_3_code
def y_Mod_isInitiator : MethodName := ⟨R_Mod, "isInitiator", "(I)Z"⟩
abbrev rm_Mod_isInitiator : Room := { frames := 0, cells := 0, slots := 0, locals := 0 }
set_option maxRecDepth 20000 in
theorem k_code_Mod_isInitiator : Cond.code y_Mod_isInitiator b_Mod_isInitiator 2 (some .boolean) ∈ w_tb := List.mem_filter.mpr ⟨List.mem_append_right _ (List.mem_of_getElem? (i := 636) rfl), rfl⟩
theorem k_inst_Mod_isInitiator : Cond.instanceMethod y_Mod_isInitiator ∈ w_tb := List.mem_filter.mpr ⟨List.mem_append_right _ (List.mem_of_getElem? (i := 635) (by decide +kernel)), rfl⟩
theorem k_sel_Mod_isInitiator : Cond.selects R_Mod y_Mod_isInitiator y_Mod_isInitiator ∈ w_tb := List.mem_filter.mpr ⟨List.mem_append_left _ (List.mem_of_getElem? (i := 19) rfl), rfl⟩
abbrev b_Mod_isJob : ByteArray := prog_7_method_4_code
def y_Mod_isJob : MethodName := ⟨R_Mod, "isJob", "(I)Z"⟩
abbrev rm_Mod_isJob : Room := { frames := 0, cells := 0, slots := 0, locals := 0 }
set_option maxRecDepth 20000 in
theorem k_code_Mod_isJob : Cond.code y_Mod_isJob b_Mod_isJob 2 (some .boolean) ∈ w_tb := List.mem_filter.mpr ⟨List.mem_append_right _ (List.mem_of_getElem? (i := 662) rfl), rfl⟩
theorem k_inst_Mod_isJob : Cond.instanceMethod y_Mod_isJob ∈ w_tb := List.mem_filter.mpr ⟨List.mem_append_right _ (List.mem_of_getElem? (i := 661) (by decide +kernel)), rfl⟩
theorem k_sel_Mod_isJob : Cond.selects R_Mod y_Mod_isJob y_Mod_isJob ∈ w_tb := List.mem_filter.mpr ⟨List.mem_append_left _ (List.mem_of_getElem? (i := 20) rfl), rfl⟩
abbrev b_Mod_isClass : ByteArray := prog_7_method_5_code
def y_Mod_isClass : MethodName := ⟨R_Mod, "isClass", "(I)Z"⟩
abbrev rm_Mod_isClass : Room := { frames := 0, cells := 0, slots := 0, locals := 0 }
set_option maxRecDepth 20000 in
theorem k_code_Mod_isClass : Cond.code y_Mod_isClass b_Mod_isClass 1 (some .boolean) ∈ w_tb := List.mem_filter.mpr ⟨List.mem_append_right _ (List.mem_of_getElem? (i := 639) rfl), rfl⟩
theorem k_stat_Mod_isClass : Cond.static y_Mod_isClass ∈ w_tb := List.mem_filter.mpr ⟨List.mem_append_right _ (List.mem_of_getElem? (i := 638) (by decide +kernel)), rfl⟩
abbrev b_Mod_initiator : ByteArray := prog_7_method_6_code
def y_Mod_initiator : MethodName := ⟨R_Mod, "initiator", "()I"⟩
abbrev rm_Mod_initiator : Room := { frames := 0, cells := 0, slots := 0, locals := 0 }
set_option maxRecDepth 20000 in
theorem k_code_Mod_initiator : Cond.code y_Mod_initiator b_Mod_initiator 1 (some .int) ∈ w_tb := List.mem_filter.mpr ⟨List.mem_append_right _ (List.mem_of_getElem? (i := 628) rfl), rfl⟩
abbrev b_Mod_cls : ByteArray := prog_7_method_7_code
def y_Mod_cls : MethodName := ⟨R_Mod, "cls", "(III)I"⟩
abbrev rm_Mod_cls : Room := { frames := 1, cells := 0, slots := 0, locals := 21 }
set_option maxRecDepth 20000 in
theorem k_code_Mod_cls : Cond.code y_Mod_cls b_Mod_cls 4 (some .int) ∈ w_tb := List.mem_filter.mpr ⟨List.mem_append_right _ (List.mem_of_getElem? (i := 632) rfl), rfl⟩
abbrev b_Mod_limit : ByteArray := prog_7_method_8_code
def y_Mod_limit : MethodName := ⟨R_Mod, "limit", "(II)I"⟩
abbrev rm_Mod_limit : Room := { frames := 1, cells := 0, slots := 0, locals := 20 }
set_option maxRecDepth 20000 in
theorem k_code_Mod_limit : Cond.code y_Mod_limit b_Mod_limit 3 (some .int) ∈ w_tb := List.mem_filter.mpr ⟨List.mem_append_right _ (List.mem_of_getElem? (i := 643) rfl), rfl⟩
abbrev b_Mod_isMinute : ByteArray := prog_7_method_9_code
def y_Mod_isMinute : MethodName := ⟨R_Mod, "isMinute", "(I)Z"⟩
abbrev rm_Mod_isMinute : Room := { frames := 0, cells := 0, slots := 0, locals := 0 }
set_option maxRecDepth 20000 in
theorem k_code_Mod_isMinute : Cond.code y_Mod_isMinute b_Mod_isMinute 1 (some .boolean) ∈ w_tb := List.mem_filter.mpr ⟨List.mem_append_right _ (List.mem_of_getElem? (i := 650) rfl), rfl⟩
theorem k_stat_Mod_isMinute : Cond.static y_Mod_isMinute ∈ w_tb := List.mem_filter.mpr ⟨List.mem_append_right _ (List.mem_of_getElem? (i := 649) (by decide +kernel)), rfl⟩
abbrev b_Mod_window : ByteArray := prog_7_method_10_code
def y_Mod_window : MethodName := ⟨R_Mod, "window", "(III)I"⟩
abbrev rm_Mod_window : Room := { frames := 1, cells := 0, slots := 0, locals := 20 }
set_option maxRecDepth 20000 in
theorem k_code_Mod_window : Cond.code y_Mod_window b_Mod_window 4 (some .int) ∈ w_tb := List.mem_filter.mpr ⟨List.mem_append_right _ (List.mem_of_getElem? (i := 647) rfl), rfl⟩
abbrev b_Mod_job : ByteArray := prog_7_method_11_code
def y_Mod_job : MethodName := ⟨R_Mod, "job", "(IIIJ)I"⟩
abbrev rm_Mod_job : Room := { frames := 1, cells := 0, slots := 0, locals := 20 }
set_option maxRecDepth 20000 in
theorem k_code_Mod_job : Cond.code y_Mod_job b_Mod_job 6 (some .int) ∈ w_tb := List.mem_filter.mpr ⟨List.mem_append_right _ (List.mem_of_getElem? (i := 654) rfl), rfl⟩
abbrev b_Mod_reaches : ByteArray := prog_7_method_12_code
def y_Mod_reaches : MethodName := ⟨R_Mod, "reaches", "(II)Z"⟩
abbrev rm_Mod_reaches : Room := { frames := 0, cells := 0, slots := 0, locals := 0 }
set_option maxRecDepth 20000 in
theorem k_code_Mod_reaches : Cond.code y_Mod_reaches b_Mod_reaches 6 (some .boolean) ∈ w_tb := List.mem_filter.mpr ⟨List.mem_append_right _ (List.mem_of_getElem? (i := 666) rfl), rfl⟩
theorem k_inst_Mod_reaches : Cond.instanceMethod y_Mod_reaches ∈ w_tb := List.mem_filter.mpr ⟨List.mem_append_right _ (List.mem_of_getElem? (i := 665) (by decide +kernel)), rfl⟩
theorem k_sel_Mod_reaches : Cond.selects R_Mod y_Mod_reaches y_Mod_reaches ∈ w_tb := List.mem_filter.mpr ⟨List.mem_append_left _ (List.mem_of_getElem? (i := 21) rfl), rfl⟩
abbrev b_Mod_needs : ByteArray := prog_7_method_13_code
def y_Mod_needs : MethodName := ⟨R_Mod, "needs", "(II)I"⟩
abbrev rm_Mod_needs : Room := { frames := 1, cells := 0, slots := 0, locals := 25 }
set_option maxRecDepth 20000 in
theorem k_code_Mod_needs : Cond.code y_Mod_needs b_Mod_needs 3 (some .int) ∈ w_tb := List.mem_filter.mpr ⟨List.mem_append_right _ (List.mem_of_getElem? (i := 658) rfl), rfl⟩
abbrev b_Mod_units : ByteArray := prog_7_method_14_code
def y_Mod_units : MethodName := ⟨R_Mod, "units", "(II)I"⟩
abbrev rm_Mod_units : Room := { frames := 0, cells := 0, slots := 0, locals := 0 }
set_option maxRecDepth 20000 in
theorem k_code_Mod_units : Cond.code y_Mod_units b_Mod_units 3 (some .int) ∈ w_tb := List.mem_filter.mpr ⟨List.mem_append_right _ (List.mem_of_getElem? (i := 670) rfl), rfl⟩
abbrev b_Mod_uses : ByteArray := prog_7_method_15_code
def y_Mod_uses : MethodName := ⟨R_Mod, "uses", "(III)I"⟩
abbrev rm_Mod_uses : Room := { frames := 1, cells := 0, slots := 0, locals := 21 }
set_option maxRecDepth 20000 in
theorem k_code_Mod_uses : Cond.code y_Mod_uses b_Mod_uses 4 (some .int) ∈ w_tb := List.mem_filter.mpr ⟨List.mem_append_right _ (List.mem_of_getElem? (i := 674) rfl), rfl⟩
abbrev b_Mod_alone : ByteArray := prog_7_method_16_code
def y_Mod_alone : MethodName := ⟨R_Mod, "alone", "(I)I"⟩
abbrev rm_Mod_alone : Room := { frames := 1, cells := 0, slots := 0, locals := 21 }
set_option maxRecDepth 20000 in
theorem k_code_Mod_alone : Cond.code y_Mod_alone b_Mod_alone 2 (some .int) ∈ w_tb := List.mem_filter.mpr ⟨List.mem_append_right _ (List.mem_of_getElem? (i := 678) rfl), rfl⟩
abbrev b_Mod_hold : ByteArray := prog_7_method_17_code
def y_Mod_hold : MethodName := ⟨R_Mod, "hold", "(IZ)I"⟩
abbrev rm_Mod_hold : Room := { frames := 1, cells := 0, slots := 0, locals := 21 }
set_option maxRecDepth 20000 in
theorem k_code_Mod_hold : Cond.code y_Mod_hold b_Mod_hold 4 (some .int) ∈ w_tb := List.mem_filter.mpr ⟨List.mem_append_right _ (List.mem_of_getElem? (i := 682) rfl), rfl⟩
abbrev b_Mod_isOpen : ByteArray := prog_7_method_18_code
def y_Mod_isOpen : MethodName := ⟨R_Mod, "isOpen", "(I)Z"⟩
abbrev rm_Mod_isOpen : Room := { frames := 0, cells := 0, slots := 0, locals := 0 }
set_option maxRecDepth 20000 in
theorem k_code_Mod_isOpen : Cond.code y_Mod_isOpen b_Mod_isOpen 3 (some .boolean) ∈ w_tb := List.mem_filter.mpr ⟨List.mem_append_right _ (List.mem_of_getElem? (i := 694) rfl), rfl⟩
theorem k_inst_Mod_isOpen : Cond.instanceMethod y_Mod_isOpen ∈ w_tb := List.mem_filter.mpr ⟨List.mem_append_right _ (List.mem_of_getElem? (i := 693) (by decide +kernel)), rfl⟩
theorem k_sel_Mod_isOpen : Cond.selects R_Mod y_Mod_isOpen y_Mod_isOpen ∈ w_tb := List.mem_filter.mpr ⟨List.mem_append_left _ (List.mem_of_getElem? (i := 23) rfl), rfl⟩
abbrev b_Mod_used : ByteArray := prog_7_method_19_code
def y_Mod_used : MethodName := ⟨R_Mod, "used", "(I)I"⟩
abbrev rm_Mod_used : Room := { frames := 0, cells := 0, slots := 0, locals := 0 }
set_option maxRecDepth 20000 in
theorem k_code_Mod_used : Cond.code y_Mod_used b_Mod_used 4 (some .int) ∈ w_tb := List.mem_filter.mpr ⟨List.mem_append_right _ (List.mem_of_getElem? (i := 699) rfl), rfl⟩
theorem k_inst_Mod_used : Cond.instanceMethod y_Mod_used ∈ w_tb := List.mem_filter.mpr ⟨List.mem_append_right _ (List.mem_of_getElem? (i := 698) (by decide +kernel)), rfl⟩
theorem k_sel_Mod_used : Cond.selects R_Mod y_Mod_used y_Mod_used ∈ w_tb := List.mem_filter.mpr ⟨List.mem_append_left _ (List.mem_of_getElem? (i := 24) rfl), rfl⟩
abbrev b_Mod_mayStart : ByteArray := prog_7_method_20_code
def y_Mod_mayStart : MethodName := ⟨R_Mod, "mayStart", "(I)Z"⟩
abbrev rm_Mod_mayStart : Room := { frames := 1, cells := 0, slots := 0, locals := 23 }
set_option maxRecDepth 20000 in
theorem k_code_Mod_mayStart : Cond.code y_Mod_mayStart b_Mod_mayStart 8 (some .boolean) ∈ w_tb := List.mem_filter.mpr ⟨List.mem_append_right _ (List.mem_of_getElem? (i := 690) rfl), rfl⟩
theorem k_inst_Mod_mayStart : Cond.instanceMethod y_Mod_mayStart ∈ w_tb := List.mem_filter.mpr ⟨List.mem_append_right _ (List.mem_of_getElem? (i := 689) (by decide +kernel)), rfl⟩
theorem k_sel_Mod_mayStart : Cond.selects R_Mod y_Mod_mayStart y_Mod_mayStart ∈ w_tb := List.mem_filter.mpr ⟨List.mem_append_left _ (List.mem_of_getElem? (i := 22) rfl), rfl⟩
abbrev b_Mod_priority : ByteArray := prog_7_method_21_code
def y_Mod_priority : MethodName := ⟨R_Mod, "priority", "(I)J"⟩
abbrev rm_Mod_priority : Room := { frames := 0, cells := 0, slots := 0, locals := 0 }
set_option maxRecDepth 20000 in
theorem k_code_Mod_priority : Cond.code y_Mod_priority b_Mod_priority 10 (some .long) ∈ w_tb := List.mem_filter.mpr ⟨List.mem_append_right _ (List.mem_of_getElem? (i := 707) rfl), rfl⟩
theorem k_inst_Mod_priority : Cond.instanceMethod y_Mod_priority ∈ w_tb := List.mem_filter.mpr ⟨List.mem_append_right _ (List.mem_of_getElem? (i := 706) (by decide +kernel)), rfl⟩
theorem k_sel_Mod_priority : Cond.selects R_Mod y_Mod_priority y_Mod_priority ∈ w_tb := List.mem_filter.mpr ⟨List.mem_append_left _ (List.mem_of_getElem? (i := 26) rfl), rfl⟩
abbrev b_Mod_isAhead : ByteArray := prog_7_method_22_code
def y_Mod_isAhead : MethodName := ⟨R_Mod, "isAhead", "(II)Z"⟩
abbrev rm_Mod_isAhead : Room := { frames := 1, cells := 0, slots := 0, locals := 29 }
set_option maxRecDepth 20000 in
theorem k_code_Mod_isAhead : Cond.code y_Mod_isAhead b_Mod_isAhead 7 (some .boolean) ∈ w_tb := List.mem_filter.mpr ⟨List.mem_append_right _ (List.mem_of_getElem? (i := 703) rfl), rfl⟩
theorem k_inst_Mod_isAhead : Cond.instanceMethod y_Mod_isAhead ∈ w_tb := List.mem_filter.mpr ⟨List.mem_append_right _ (List.mem_of_getElem? (i := 702) (by decide +kernel)), rfl⟩
theorem k_sel_Mod_isAhead : Cond.selects R_Mod y_Mod_isAhead y_Mod_isAhead ∈ w_tb := List.mem_filter.mpr ⟨List.mem_append_left _ (List.mem_of_getElem? (i := 25) rfl), rfl⟩
abbrev b_Mod_next : ByteArray := prog_7_method_23_code
def y_Mod_next : MethodName := ⟨R_Mod, "next", "(IJ)I"⟩
abbrev rm_Mod_next : Room := { frames := 2, cells := 0, slots := 0, locals := 55 }
set_option maxRecDepth 20000 in
theorem k_code_Mod_next : Cond.code y_Mod_next b_Mod_next 8 (some .int) ∈ w_tb := List.mem_filter.mpr ⟨List.mem_append_right _ (List.mem_of_getElem? (i := 686) rfl), rfl⟩
abbrev b_Mod_end : ByteArray := prog_7_method_24_code
def y_Mod_end : MethodName := ⟨R_Mod, "end", "(I)I"⟩
abbrev rm_Mod_end : Room := { frames := 1, cells := 0, slots := 0, locals := 21 }
set_option maxRecDepth 20000 in
theorem k_code_Mod_end : Cond.code y_Mod_end b_Mod_end 3 (some .int) ∈ w_tb := List.mem_filter.mpr ⟨List.mem_append_right _ (List.mem_of_getElem? (i := 712) rfl), rfl⟩
abbrev b_Mod_age : ByteArray := prog_7_method_25_code
def y_Mod_age : MethodName := ⟨R_Mod, "age", "(JI)I"⟩
abbrev rm_Mod_age : Room := { frames := 0, cells := 0, slots := 0, locals := 0 }
set_option maxRecDepth 20000 in
theorem k_code_Mod_age : Cond.code y_Mod_age b_Mod_age 4 (some .int) ∈ w_tb := List.mem_filter.mpr ⟨List.mem_append_right _ (List.mem_of_getElem? (i := 716) rfl), rfl⟩
abbrev b_Mod_drain : ByteArray := prog_7_method_26_code
def y_Mod_drain : MethodName := ⟨R_Mod, "drain", "(IZ)I"⟩
abbrev rm_Mod_drain : Room := { frames := 1, cells := 0, slots := 0, locals := 21 }
set_option maxRecDepth 20000 in
theorem k_code_Mod_drain : Cond.code y_Mod_drain b_Mod_drain 4 (some .int) ∈ w_tb := List.mem_filter.mpr ⟨List.mem_append_right _ (List.mem_of_getElem? (i := 720) rfl), rfl⟩
abbrev b_Mod_weight : ByteArray := prog_7_method_27_code
def y_Mod_weight : MethodName := ⟨R_Mod, "weight", "(II)I"⟩
abbrev rm_Mod_weight : Room := { frames := 1, cells := 0, slots := 0, locals := 20 }
set_option maxRecDepth 20000 in
theorem k_code_Mod_weight : Cond.code y_Mod_weight b_Mod_weight 3 (some .int) ∈ w_tb := List.mem_filter.mpr ⟨List.mem_append_right _ (List.mem_of_getElem? (i := 724) rfl), rfl⟩
abbrev b_Mod_share : ByteArray := prog_7_method_28_code
def y_Mod_share : MethodName := ⟨R_Mod, "share", "(IJ)J"⟩
abbrev rm_Mod_share : Room := { frames := 1, cells := 0, slots := 0, locals := 20 }
set_option maxRecDepth 20000 in
theorem k_code_Mod_share : Cond.code y_Mod_share b_Mod_share 18 (some .long) ∈ w_tb := List.mem_filter.mpr ⟨List.mem_append_right _ (List.mem_of_getElem? (i := 728) rfl), rfl⟩
abbrev b_Mod_order : ByteArray := prog_7_method_29_code
def y_Mod_order : MethodName := ⟨R_Mod, "order", "(I)I"⟩
abbrev rm_Mod_order : Room := { frames := 2, cells := 0, slots := 0, locals := 55 }
set_option maxRecDepth 20000 in
theorem k_code_Mod_order : Cond.code y_Mod_order b_Mod_order 5 (some .int) ∈ w_tb := List.mem_filter.mpr ⟨List.mem_append_right _ (List.mem_of_getElem? (i := 733) rfl), rfl⟩
abbrev b_Mod_waited : ByteArray := prog_7_method_30_code
def y_Mod_waited : MethodName := ⟨R_Mod, "waited", "(I)J"⟩
abbrev rm_Mod_waited : Room := { frames := 1, cells := 0, slots := 0, locals := 21 }
set_option maxRecDepth 20000 in
theorem k_code_Mod_waited : Cond.code y_Mod_waited b_Mod_waited 2 (some .long) ∈ w_tb := List.mem_filter.mpr ⟨List.mem_append_right _ (List.mem_of_getElem? (i := 737) rfl), rfl⟩
abbrev b_Mod_state : ByteArray := prog_7_method_31_code
def y_Mod_state : MethodName := ⟨R_Mod, "state", "(I)I"⟩
abbrev rm_Mod_state : Room := { frames := 1, cells := 0, slots := 0, locals := 21 }
set_option maxRecDepth 20000 in
theorem k_code_Mod_state : Cond.code y_Mod_state b_Mod_state 2 (some .int) ∈ w_tb := List.mem_filter.mpr ⟨List.mem_append_right _ (List.mem_of_getElem? (i := 741) rfl), rfl⟩
abbrev b_Mod_those : ByteArray := prog_7_method_32_code
def y_Mod_those : MethodName := ⟨R_Mod, "those", "(IZ)I"⟩
abbrev rm_Mod_those : Room := { frames := 0, cells := 0, slots := 0, locals := 0 }
set_option maxRecDepth 20000 in
theorem k_code_Mod_those : Cond.code y_Mod_those b_Mod_those 5 (some .int) ∈ w_tb := List.mem_filter.mpr ⟨List.mem_append_right _ (List.mem_of_getElem? (i := 749) rfl), rfl⟩
theorem k_inst_Mod_those : Cond.instanceMethod y_Mod_those ∈ w_tb := List.mem_filter.mpr ⟨List.mem_append_right _ (List.mem_of_getElem? (i := 748) (by decide +kernel)), rfl⟩
theorem k_sel_Mod_those : Cond.selects R_Mod y_Mod_those y_Mod_those ∈ w_tb := List.mem_filter.mpr ⟨List.mem_append_left _ (List.mem_of_getElem? (i := 27) rfl), rfl⟩
abbrev b_Mod_count : ByteArray := prog_7_method_33_code
def y_Mod_count : MethodName := ⟨R_Mod, "count", "(I)I"⟩
abbrev rm_Mod_count : Room := { frames := 1, cells := 0, slots := 0, locals := 24 }
set_option maxRecDepth 20000 in
theorem k_code_Mod_count : Cond.code y_Mod_count b_Mod_count 4 (some .int) ∈ w_tb := List.mem_filter.mpr ⟨List.mem_append_right _ (List.mem_of_getElem? (i := 745) rfl), rfl⟩
theorem k_c_AL_7 : Cond.classLink R_AL 7 "java/lang/Object" ∈ w_tb := List.mem_filter.mpr ⟨List.mem_append_right _ (List.mem_of_getElem? (i := 215) (by decide +kernel)), rfl⟩
theorem k_c_Arrs_110 : Cond.classLink R_Arrs 110 "[Ljava/lang/Object;" ∈ w_tb := List.mem_filter.mpr ⟨List.mem_append_right _ (List.mem_of_getElem? (i := 205) (by decide +kernel)), rfl⟩
theorem k_c_Arrs_2 : Cond.classLink R_Arrs 2 "java/lang/Object" ∈ w_tb := List.mem_filter.mpr ⟨List.mem_append_right _ (List.mem_of_getElem? (i := 207) (by decide +kernel)), rfl⟩
theorem k_c_Job_32 : Cond.classLink R_Job 32 "InitiatorRows$NumberSet" ∈ w_tb := List.mem_filter.mpr ⟨List.mem_append_right _ (List.mem_of_getElem? (i := 262) (by decide +kernel)), rfl⟩
theorem k_c_Load_18 : Cond.classLink R_Load 18 "InitiatorRows$NumberSet" ∈ w_tb := List.mem_filter.mpr ⟨List.mem_append_right _ (List.mem_of_getElem? (i := 60) (by decide +kernel)), rfl⟩
theorem k_c_Rows_35 : Cond.classLink R_Rows 35 "InitiatorRows$Load" ∈ w_tb := List.mem_filter.mpr ⟨List.mem_append_right _ (List.mem_of_getElem? (i := 54) (by decide +kernel)), rfl⟩
theorem k_c_Rows_42 : Cond.classLink R_Rows 42 "InitiatorRows$NumberSet" ∈ w_tb := List.mem_filter.mpr ⟨List.mem_append_right _ (List.mem_of_getElem? (i := 95) (by decide +kernel)), rfl⟩
theorem k_c_Rows_64 : Cond.classLink R_Rows 64 "InitiatorRows$Initiator" ∈ w_tb := List.mem_filter.mpr ⟨List.mem_append_right _ (List.mem_of_getElem? (i := 142) (by decide +kernel)), rfl⟩
theorem k_c_Rows_7 : Cond.classLink R_Rows 7 "java/util/ArrayList" ∈ w_tb := List.mem_filter.mpr ⟨List.mem_append_right _ (List.mem_of_getElem? (i := 28) (by decide +kernel)), rfl⟩
theorem k_c_Rows_86 : Cond.classLink R_Rows 86 "InitiatorRows$Job" ∈ w_tb := List.mem_filter.mpr ⟨List.mem_append_right _ (List.mem_of_getElem? (i := 256) (by decide +kernel)), rfl⟩
theorem k_f_AL_39 : Cond.fieldLink R_AL 39 "java/util/ArrayList" "DEFAULTCAPACITY_EMPTY_ELEMENTDATA" "[Ljava/lang/Object;" ∈ w_tb := List.mem_filter.mpr ⟨List.mem_append_right _ (List.mem_of_getElem? (i := 40) (by decide +kernel)), rfl⟩
theorem k_f_AL_48 : Cond.fieldLink R_AL 48 "java/util/ArrayList" "size" "I" ∈ w_tb := List.mem_filter.mpr ⟨List.mem_append_right _ (List.mem_of_getElem? (i := 43) (by decide +kernel)), rfl⟩
theorem k_f_AL_63 : Cond.fieldLink R_AL 63 "java/util/ArrayList" "modCount" "I" ∈ w_tb := List.mem_filter.mpr ⟨List.mem_append_right _ (List.mem_of_getElem? (i := 45) (by decide +kernel)), rfl⟩
theorem k_f_AL_9 : Cond.fieldLink R_AL 9 "java/util/ArrayList" "elementData" "[Ljava/lang/Object;" ∈ w_tb := List.mem_filter.mpr ⟨List.mem_append_right _ (List.mem_of_getElem? (i := 42) (by decide +kernel)), rfl⟩
theorem k_f_AbL_7 : Cond.fieldLink R_AbL 7 "java/util/AbstractList" "modCount" "I" ∈ w_tb := List.mem_filter.mpr ⟨List.mem_append_right _ (List.mem_of_getElem? (i := 44) (by decide +kernel)), rfl⟩
theorem k_f_Ini_15 : Cond.fieldLink R_Ini 15 "InitiatorRows$Initiator" "drained" "Z" ∈ w_tb := List.mem_filter.mpr ⟨List.mem_append_right _ (List.mem_of_getElem? (i := 150) (by decide +kernel)), rfl⟩
theorem k_f_Ini_19 : Cond.fieldLink R_Ini 19 "InitiatorRows$Initiator" "runningJob" "I" ∈ w_tb := List.mem_filter.mpr ⟨List.mem_append_right _ (List.mem_of_getElem? (i := 152) (by decide +kernel)), rfl⟩
theorem k_f_Ini_9 : Cond.fieldLink R_Ini 9 "InitiatorRows$Initiator" "list" "[I" ∈ w_tb := List.mem_filter.mpr ⟨List.mem_append_right _ (List.mem_of_getElem? (i := 148) (by decide +kernel)), rfl⟩
theorem k_f_Job_15 : Cond.fieldLink R_Job 15 "InitiatorRows$Job" "inClass" "I" ∈ w_tb := List.mem_filter.mpr ⟨List.mem_append_right _ (List.mem_of_getElem? (i := 266) (by decide +kernel)), rfl⟩
theorem k_f_Job_18 : Cond.fieldLink R_Job 18 "InitiatorRows$Job" "priority" "I" ∈ w_tb := List.mem_filter.mpr ⟨List.mem_append_right _ (List.mem_of_getElem? (i := 269) (by decide +kernel)), rfl⟩
theorem k_f_Job_21 : Cond.fieldLink R_Job 21 "InitiatorRows$Job" "name" "I" ∈ w_tb := List.mem_filter.mpr ⟨List.mem_append_right _ (List.mem_of_getElem? (i := 271) (by decide +kernel)), rfl⟩
theorem k_f_Job_24 : Cond.fieldLink R_Job 24 "InitiatorRows$Job" "arrived" "J" ∈ w_tb := List.mem_filter.mpr ⟨List.mem_append_right _ (List.mem_of_getElem? (i := 274) (by decide +kernel)), rfl⟩
theorem k_f_Job_28 : Cond.fieldLink R_Job 28 "InitiatorRows$Job" "unitsUsed" "[I" ∈ w_tb := List.mem_filter.mpr ⟨List.mem_append_right _ (List.mem_of_getElem? (i := 276) (by decide +kernel)), rfl⟩
theorem k_f_Job_35 : Cond.fieldLink R_Job 35 "InitiatorRows$Job" "deepNeeds" "LInitiatorRows$NumberSet;" ∈ w_tb := List.mem_filter.mpr ⟨List.mem_append_right _ (List.mem_of_getElem? (i := 279) (by decide +kernel)), rfl⟩
theorem k_f_Job_39 : Cond.fieldLink R_Job 39 "InitiatorRows$Job" "runsAlone" "Z" ∈ w_tb := List.mem_filter.mpr ⟨List.mem_append_right _ (List.mem_of_getElem? (i := 281) (by decide +kernel)), rfl⟩
theorem k_f_Job_43 : Cond.fieldLink R_Job 43 "InitiatorRows$Job" "stage" "I" ∈ w_tb := List.mem_filter.mpr ⟨List.mem_append_right _ (List.mem_of_getElem? (i := 284) (by decide +kernel)), rfl⟩
theorem k_f_Job_46 : Cond.fieldLink R_Job 46 "InitiatorRows$Job" "started" "J" ∈ w_tb := List.mem_filter.mpr ⟨List.mem_append_right _ (List.mem_of_getElem? (i := 286) (by decide +kernel)), rfl⟩
theorem k_f_Job_9 : Cond.fieldLink R_Job 9 "InitiatorRows$Job" "number" "I" ∈ w_tb := List.mem_filter.mpr ⟨List.mem_append_right _ (List.mem_of_getElem? (i := 264) (by decide +kernel)), rfl⟩
theorem k_f_Load_15 : Cond.fieldLink R_Load 15 "InitiatorRows$Load" "unitsUsed" "[I" ∈ w_tb := List.mem_filter.mpr ⟨List.mem_append_right _ (List.mem_of_getElem? (i := 76) (by decide +kernel)), rfl⟩
theorem k_f_Load_21 : Cond.fieldLink R_Load 21 "InitiatorRows$Load" "names" "LInitiatorRows$NumberSet;" ∈ w_tb := List.mem_filter.mpr ⟨List.mem_append_right _ (List.mem_of_getElem? (i := 78) (by decide +kernel)), rfl⟩
theorem k_f_Load_25 : Cond.fieldLink R_Load 25 "InitiatorRows$Load" "running" "I" ∈ w_tb := List.mem_filter.mpr ⟨List.mem_append_right _ (List.mem_of_getElem? (i := 80) (by decide +kernel)), rfl⟩
theorem k_f_Load_29 : Cond.fieldLink R_Load 29 "InitiatorRows$Load" "aloneRuns" "Z" ∈ w_tb := List.mem_filter.mpr ⟨List.mem_append_right _ (List.mem_of_getElem? (i := 82) (by decide +kernel)), rfl⟩
theorem k_f_Load_33 : Cond.fieldLink R_Load 33 "InitiatorRows$Job" "inClass" "I" ∈ w_tb := List.mem_filter.mpr ⟨List.mem_append_right _ (List.mem_of_getElem? (i := 267) (by decide +kernel)), rfl⟩
theorem k_f_Load_38 : Cond.fieldLink R_Load 38 "InitiatorRows$Job" "unitsUsed" "[I" ∈ w_tb := List.mem_filter.mpr ⟨List.mem_append_right _ (List.mem_of_getElem? (i := 277) (by decide +kernel)), rfl⟩
theorem k_f_Load_39 : Cond.fieldLink R_Load 39 "InitiatorRows$Job" "name" "I" ∈ w_tb := List.mem_filter.mpr ⟨List.mem_append_right _ (List.mem_of_getElem? (i := 272) (by decide +kernel)), rfl⟩
theorem k_f_Load_46 : Cond.fieldLink R_Load 46 "InitiatorRows$Job" "runsAlone" "Z" ∈ w_tb := List.mem_filter.mpr ⟨List.mem_append_right _ (List.mem_of_getElem? (i := 282) (by decide +kernel)), rfl⟩
theorem k_f_Load_9 : Cond.fieldLink R_Load 9 "InitiatorRows$Load" "ofClass" "[I" ∈ w_tb := List.mem_filter.mpr ⟨List.mem_append_right _ (List.mem_of_getElem? (i := 74) (by decide +kernel)), rfl⟩
theorem k_f_Mod_109 : Cond.fieldLink R_Mod 109 "InitiatorRowsModel" "per" "J" ∈ w_tb := List.mem_filter.mpr ⟨List.mem_append_right _ (List.mem_of_getElem? (i := 566) (by decide +kernel)), rfl⟩
theorem k_f_Mod_114 : Cond.fieldLink R_Mod 114 "InitiatorRowsModel" "most" "I" ∈ w_tb := List.mem_filter.mpr ⟨List.mem_append_right _ (List.mem_of_getElem? (i := 567) (by decide +kernel)), rfl⟩
theorem k_f_Mod_13 : Cond.fieldLink R_Mod 13 "InitiatorRowsModel" "runs" "[I" ∈ w_tb := List.mem_filter.mpr ⟨List.mem_append_right _ (List.mem_of_getElem? (i := 546) (by decide +kernel)), rfl⟩
theorem k_f_Mod_16 : Cond.fieldLink R_Mod 16 "InitiatorRowsModel" "drained" "[Z" ∈ w_tb := List.mem_filter.mpr ⟨List.mem_append_right _ (List.mem_of_getElem? (i := 547) (by decide +kernel)), rfl⟩
theorem k_f_Mod_20 : Cond.fieldLink R_Mod 20 "InitiatorRowsModel" "limits" "[I" ∈ w_tb := List.mem_filter.mpr ⟨List.mem_append_right _ (List.mem_of_getElem? (i := 549) (by decide +kernel)), rfl⟩
theorem k_f_Mod_23 : Cond.fieldLink R_Mod 23 "InitiatorRowsModel" "froms" "[I" ∈ w_tb := List.mem_filter.mpr ⟨List.mem_append_right _ (List.mem_of_getElem? (i := 550) (by decide +kernel)), rfl⟩
theorem k_f_Mod_26 : Cond.fieldLink R_Mod 26 "InitiatorRowsModel" "tos" "[I" ∈ w_tb := List.mem_filter.mpr ⟨List.mem_append_right _ (List.mem_of_getElem? (i := 551) (by decide +kernel)), rfl⟩
theorem k_f_Mod_29 : Cond.fieldLink R_Mod 29 "InitiatorRowsModel" "weights" "[I" ∈ w_tb := List.mem_filter.mpr ⟨List.mem_append_right _ (List.mem_of_getElem? (i := 552) (by decide +kernel)), rfl⟩
theorem k_f_Mod_32 : Cond.fieldLink R_Mod 32 "InitiatorRowsModel" "units" "[I" ∈ w_tb := List.mem_filter.mpr ⟨List.mem_append_right _ (List.mem_of_getElem? (i := 553) (by decide +kernel)), rfl⟩
theorem k_f_Mod_35 : Cond.fieldLink R_Mod 35 "InitiatorRowsModel" "sorts" "[I" ∈ w_tb := List.mem_filter.mpr ⟨List.mem_append_right _ (List.mem_of_getElem? (i := 554) (by decide +kernel)), rfl⟩
theorem k_f_Mod_38 : Cond.fieldLink R_Mod 38 "InitiatorRowsModel" "priorities" "[I" ∈ w_tb := List.mem_filter.mpr ⟨List.mem_append_right _ (List.mem_of_getElem? (i := 555) (by decide +kernel)), rfl⟩
theorem k_f_Mod_41 : Cond.fieldLink R_Mod 41 "InitiatorRowsModel" "names" "[I" ∈ w_tb := List.mem_filter.mpr ⟨List.mem_append_right _ (List.mem_of_getElem? (i := 556) (by decide +kernel)), rfl⟩
theorem k_f_Mod_44 : Cond.fieldLink R_Mod 44 "InitiatorRowsModel" "states" "[I" ∈ w_tb := List.mem_filter.mpr ⟨List.mem_append_right _ (List.mem_of_getElem? (i := 557) (by decide +kernel)), rfl⟩
theorem k_f_Mod_47 : Cond.fieldLink R_Mod 47 "InitiatorRowsModel" "uses" "[I" ∈ w_tb := List.mem_filter.mpr ⟨List.mem_append_right _ (List.mem_of_getElem? (i := 558) (by decide +kernel)), rfl⟩
theorem k_f_Mod_50 : Cond.fieldLink R_Mod 50 "InitiatorRowsModel" "held" "[Z" ∈ w_tb := List.mem_filter.mpr ⟨List.mem_append_right _ (List.mem_of_getElem? (i := 559) (by decide +kernel)), rfl⟩
theorem k_f_Mod_53 : Cond.fieldLink R_Mod 53 "InitiatorRowsModel" "lone" "[Z" ∈ w_tb := List.mem_filter.mpr ⟨List.mem_append_right _ (List.mem_of_getElem? (i := 560) (by decide +kernel)), rfl⟩
theorem k_f_Mod_56 : Cond.fieldLink R_Mod 56 "InitiatorRowsModel" "needed" "[Z" ∈ w_tb := List.mem_filter.mpr ⟨List.mem_append_right _ (List.mem_of_getElem? (i := 561) (by decide +kernel)), rfl⟩
theorem k_f_Mod_59 : Cond.fieldLink R_Mod 59 "InitiatorRowsModel" "reached" "[Z" ∈ w_tb := List.mem_filter.mpr ⟨List.mem_append_right _ (List.mem_of_getElem? (i := 562) (by decide +kernel)), rfl⟩
theorem k_f_Mod_62 : Cond.fieldLink R_Mod 62 "InitiatorRowsModel" "came" "[J" ∈ w_tb := List.mem_filter.mpr ⟨List.mem_append_right _ (List.mem_of_getElem? (i := 563) (by decide +kernel)), rfl⟩
theorem k_f_Mod_66 : Cond.fieldLink R_Mod 66 "InitiatorRowsModel" "ran" "[J" ∈ w_tb := List.mem_filter.mpr ⟨List.mem_append_right _ (List.mem_of_getElem? (i := 564) (by decide +kernel)), rfl⟩
theorem k_f_Mod_69 : Cond.fieldLink R_Mod 69 "InitiatorRowsModel" "thrown" "I" ∈ w_tb := List.mem_filter.mpr ⟨List.mem_append_right _ (List.mem_of_getElem? (i := 543) (by decide +kernel)), rfl⟩
theorem k_f_Mod_7 : Cond.fieldLink R_Mod 7 "InitiatorRowsModel" "lists" "[I" ∈ w_tb := List.mem_filter.mpr ⟨List.mem_append_right _ (List.mem_of_getElem? (i := 545) (by decide +kernel)), rfl⟩
theorem k_f_Mod_73 : Cond.fieldLink R_Mod 73 "InitiatorRowsModel" "initiators" "I" ∈ w_tb := List.mem_filter.mpr ⟨List.mem_append_right _ (List.mem_of_getElem? (i := 548) (by decide +kernel)), rfl⟩
theorem k_f_Mod_76 : Cond.fieldLink R_Mod 76 "InitiatorRowsModel" "jobs" "I" ∈ w_tb := List.mem_filter.mpr ⟨List.mem_append_right _ (List.mem_of_getElem? (i := 565) (by decide +kernel)), rfl⟩
theorem k_f_Mod_89 : Cond.fieldLink R_Mod 89 "InitiatorRowsModel" "now" "J" ∈ w_tb := List.mem_filter.mpr ⟨List.mem_append_right _ (List.mem_of_getElem? (i := 544) (by decide +kernel)), rfl⟩
theorem k_f_NS_13 : Cond.fieldLink R_NS 13 "InitiatorRows$NumberSet" "high" "J" ∈ w_tb := List.mem_filter.mpr ⟨List.mem_append_right _ (List.mem_of_getElem? (i := 67) (by decide +kernel)), rfl⟩
theorem k_f_NS_7 : Cond.fieldLink R_NS 7 "InitiatorRows$NumberSet" "low" "J" ∈ w_tb := List.mem_filter.mpr ⟨List.mem_append_right _ (List.mem_of_getElem? (i := 66) (by decide +kernel)), rfl⟩
theorem k_f_Rows_10 : Cond.fieldLink R_Rows 10 "InitiatorRows" "initiators" "Ljava/util/ArrayList;" ∈ w_tb := List.mem_filter.mpr ⟨List.mem_append_right _ (List.mem_of_getElem? (i := 97) (by decide +kernel)), rfl⟩
theorem k_f_Rows_112 : Cond.fieldLink R_Rows 112 "InitiatorRows$Job" "unitsUsed" "[I" ∈ w_tb := List.mem_filter.mpr ⟨List.mem_append_right _ (List.mem_of_getElem? (i := 278) (by decide +kernel)), rfl⟩
theorem k_f_Rows_115 : Cond.fieldLink R_Rows 115 "InitiatorRows$Job" "runsAlone" "Z" ∈ w_tb := List.mem_filter.mpr ⟨List.mem_append_right _ (List.mem_of_getElem? (i := 283) (by decide +kernel)), rfl⟩
theorem k_f_Rows_119 : Cond.fieldLink R_Rows 119 "InitiatorRows$Job" "stage" "I" ∈ w_tb := List.mem_filter.mpr ⟨List.mem_append_right _ (List.mem_of_getElem? (i := 285) (by decide +kernel)), rfl⟩
theorem k_f_Rows_122 : Cond.fieldLink R_Rows 122 "InitiatorRows$Initiator" "drained" "Z" ∈ w_tb := List.mem_filter.mpr ⟨List.mem_append_right _ (List.mem_of_getElem? (i := 151) (by decide +kernel)), rfl⟩
theorem k_f_Rows_125 : Cond.fieldLink R_Rows 125 "InitiatorRows$Initiator" "runningJob" "I" ∈ w_tb := List.mem_filter.mpr ⟨List.mem_append_right _ (List.mem_of_getElem? (i := 153) (by decide +kernel)), rfl⟩
theorem k_f_Rows_136 : Cond.fieldLink R_Rows 136 "InitiatorRows$Job" "number" "I" ∈ w_tb := List.mem_filter.mpr ⟨List.mem_append_right _ (List.mem_of_getElem? (i := 265) (by decide +kernel)), rfl⟩
theorem k_f_Rows_16 : Cond.fieldLink R_Rows 16 "InitiatorRows" "jobs" "Ljava/util/ArrayList;" ∈ w_tb := List.mem_filter.mpr ⟨List.mem_append_right _ (List.mem_of_getElem? (i := 98) (by decide +kernel)), rfl⟩
theorem k_f_Rows_164 : Cond.fieldLink R_Rows 164 "InitiatorRows$Job" "started" "J" ∈ w_tb := List.mem_filter.mpr ⟨List.mem_append_right _ (List.mem_of_getElem? (i := 287) (by decide +kernel)), rfl⟩
theorem k_f_Rows_167 : Cond.fieldLink R_Rows 167 "InitiatorRows$Job" "arrived" "J" ∈ w_tb := List.mem_filter.mpr ⟨List.mem_append_right _ (List.mem_of_getElem? (i := 275) (by decide +kernel)), rfl⟩
theorem k_f_Rows_174 : Cond.fieldLink R_Rows 174 "InitiatorRows$Load" "running" "I" ∈ w_tb := List.mem_filter.mpr ⟨List.mem_append_right _ (List.mem_of_getElem? (i := 81) (by decide +kernel)), rfl⟩
theorem k_f_Rows_19 : Cond.fieldLink R_Rows 19 "InitiatorRows" "limits" "[I" ∈ w_tb := List.mem_filter.mpr ⟨List.mem_append_right _ (List.mem_of_getElem? (i := 99) (by decide +kernel)), rfl⟩
theorem k_f_Rows_194 : Cond.fieldLink R_Rows 194 "InitiatorRows$Job" "inClass" "I" ∈ w_tb := List.mem_filter.mpr ⟨List.mem_append_right _ (List.mem_of_getElem? (i := 268) (by decide +kernel)), rfl⟩
theorem k_f_Rows_201 : Cond.fieldLink R_Rows 201 "InitiatorRows$Load" "ofClass" "[I" ∈ w_tb := List.mem_filter.mpr ⟨List.mem_append_right _ (List.mem_of_getElem? (i := 75) (by decide +kernel)), rfl⟩
theorem k_f_Rows_207 : Cond.fieldLink R_Rows 207 "InitiatorRows$Load" "names" "LInitiatorRows$NumberSet;" ∈ w_tb := List.mem_filter.mpr ⟨List.mem_append_right _ (List.mem_of_getElem? (i := 79) (by decide +kernel)), rfl⟩
theorem k_f_Rows_210 : Cond.fieldLink R_Rows 210 "InitiatorRows$Job" "name" "I" ∈ w_tb := List.mem_filter.mpr ⟨List.mem_append_right _ (List.mem_of_getElem? (i := 273) (by decide +kernel)), rfl⟩
theorem k_f_Rows_220 : Cond.fieldLink R_Rows 220 "InitiatorRows$Load" "aloneRuns" "Z" ∈ w_tb := List.mem_filter.mpr ⟨List.mem_append_right _ (List.mem_of_getElem? (i := 83) (by decide +kernel)), rfl⟩
theorem k_f_Rows_225 : Cond.fieldLink R_Rows 225 "InitiatorRows$Load" "unitsUsed" "[I" ∈ w_tb := List.mem_filter.mpr ⟨List.mem_append_right _ (List.mem_of_getElem? (i := 77) (by decide +kernel)), rfl⟩
theorem k_f_Rows_226 : Cond.fieldLink R_Rows 226 "InitiatorRows$Job" "priority" "I" ∈ w_tb := List.mem_filter.mpr ⟨List.mem_append_right _ (List.mem_of_getElem? (i := 270) (by decide +kernel)), rfl⟩
theorem k_f_Rows_23 : Cond.fieldLink R_Rows 23 "InitiatorRows" "windowStarts" "[I" ∈ w_tb := List.mem_filter.mpr ⟨List.mem_append_right _ (List.mem_of_getElem? (i := 100) (by decide +kernel)), rfl⟩
theorem k_f_Rows_26 : Cond.fieldLink R_Rows 26 "InitiatorRows" "windowEnds" "[I" ∈ w_tb := List.mem_filter.mpr ⟨List.mem_append_right _ (List.mem_of_getElem? (i := 101) (by decide +kernel)), rfl⟩
theorem k_f_Rows_29 : Cond.fieldLink R_Rows 29 "InitiatorRows" "weights" "[I" ∈ w_tb := List.mem_filter.mpr ⟨List.mem_append_right _ (List.mem_of_getElem? (i := 102) (by decide +kernel)), rfl⟩
theorem k_f_Rows_32 : Cond.fieldLink R_Rows 32 "InitiatorRows" "unitsThere" "[I" ∈ w_tb := List.mem_filter.mpr ⟨List.mem_append_right _ (List.mem_of_getElem? (i := 103) (by decide +kernel)), rfl⟩
theorem k_f_Rows_38 : Cond.fieldLink R_Rows 38 "InitiatorRows" "load" "LInitiatorRows$Load;" ∈ w_tb := List.mem_filter.mpr ⟨List.mem_append_right _ (List.mem_of_getElem? (i := 104) (by decide +kernel)), rfl⟩
theorem k_f_Rows_45 : Cond.fieldLink R_Rows 45 "InitiatorRows" "ended" "LInitiatorRows$NumberSet;" ∈ w_tb := List.mem_filter.mpr ⟨List.mem_append_right _ (List.mem_of_getElem? (i := 105) (by decide +kernel)), rfl⟩
theorem k_f_Rows_49 : Cond.fieldLink R_Rows 49 "InitiatorRows" "now" "J" ∈ w_tb := List.mem_filter.mpr ⟨List.mem_append_right _ (List.mem_of_getElem? (i := 106) (by decide +kernel)), rfl⟩
theorem k_f_Rows_53 : Cond.fieldLink R_Rows 53 "InitiatorRows" "agePer" "J" ∈ w_tb := List.mem_filter.mpr ⟨List.mem_append_right _ (List.mem_of_getElem? (i := 107) (by decide +kernel)), rfl⟩
theorem k_f_Rows_56 : Cond.fieldLink R_Rows 56 "InitiatorRows" "ageMost" "I" ∈ w_tb := List.mem_filter.mpr ⟨List.mem_append_right _ (List.mem_of_getElem? (i := 108) (by decide +kernel)), rfl⟩
theorem k_f_Rows_83 : Cond.fieldLink R_Rows 83 "InitiatorRows$Initiator" "list" "[I" ∈ w_tb := List.mem_filter.mpr ⟨List.mem_append_right _ (List.mem_of_getElem? (i := 149) (by decide +kernel)), rfl⟩
theorem k_f_Rows_99 : Cond.fieldLink R_Rows 99 "InitiatorRows$Job" "deepNeeds" "LInitiatorRows$NumberSet;" ∈ w_tb := List.mem_filter.mpr ⟨List.mem_append_right _ (List.mem_of_getElem? (i := 280) (by decide +kernel)), rfl⟩
theorem k_k_ASup_200 : Cond.constant R_ASup 200 2147483639 ∈ w_tb := List.mem_filter.mpr ⟨List.mem_append_right _ (List.mem_of_getElem? (i := 183) (by decide +kernel)), rfl⟩
theorem k_k_Mod_100 : Cond.constantLong R_Mod 100 (1440) ∈ w_tb := List.mem_filter.mpr ⟨List.mem_append_right _ (List.mem_of_getElem? (i := 695) (by decide +kernel)), rfl⟩
theorem k_k_Mod_112 : Cond.constantLong R_Mod 112 (15) ∈ w_tb := List.mem_filter.mpr ⟨List.mem_append_right _ (List.mem_of_getElem? (i := 708) (by decide +kernel)), rfl⟩
theorem k_k_Mod_127 : Cond.constantLong R_Mod 127 (-1) ∈ w_tb := List.mem_filter.mpr ⟨List.mem_append_right _ (List.mem_of_getElem? (i := 729) (by decide +kernel)), rfl⟩
theorem k_k_NS_16 : Cond.constantLong R_NS 16 (-1) ∈ w_tb := List.mem_filter.mpr ⟨List.mem_append_right _ (List.mem_of_getElem? (i := 381) (by decide +kernel)), rfl⟩
theorem k_k_Rows_143 : Cond.constantLong R_Rows 143 (-1) ∈ w_tb := List.mem_filter.mpr ⟨List.mem_append_right _ (List.mem_of_getElem? (i := 438) (by decide +kernel)), rfl⟩
theorem k_k_Rows_223 : Cond.constantLong R_Rows 223 (1440) ∈ w_tb := List.mem_filter.mpr ⟨List.mem_append_right _ (List.mem_of_getElem? (i := 376) (by decide +kernel)), rfl⟩
theorem k_m_AL_1 : Cond.methodLink R_AL 1 y_AbL_init ∈ w_tb := List.mem_filter.mpr ⟨List.mem_append_right _ (List.mem_of_getElem? (i := 33) (by decide +kernel)), rfl⟩
theorem k_m_AL_118 : Cond.methodLink R_AL 118 y_Objs_checkIndex_II ∈ w_tb := List.mem_filter.mpr ⟨List.mem_append_right _ (List.mem_of_getElem? (i := 231) (by decide +kernel)), rfl⟩
theorem k_m_AL_123 : Cond.methodLink R_AL 123 y_AL_elementData ∈ w_tb := List.mem_filter.mpr ⟨List.mem_append_right _ (List.mem_of_getElem? (i := 237) (by decide +kernel)), rfl⟩
theorem k_m_AL_129 : Cond.methodLink R_AL 129 y_AL_grow_v ∈ w_tb := List.mem_filter.mpr ⟨List.mem_append_right _ (List.mem_of_getElem? (i := 169) (by decide +kernel)), rfl⟩
theorem k_m_AL_131 : Cond.methodLink R_AL 131 y_AL_add_LAI ∈ w_tb := List.mem_filter.mpr ⟨List.mem_append_right _ (List.mem_of_getElem? (i := 165) (by decide +kernel)), rfl⟩
theorem k_m_AL_66 : Cond.methodLink R_AL 66 y_Arrs_copyOf_AI ∈ w_tb := List.mem_filter.mpr ⟨List.mem_append_right _ (List.mem_of_getElem? (i := 187) (by decide +kernel)), rfl⟩
theorem k_m_AL_69 : Cond.methodLink R_AL 69 y_AL_grow_I ∈ w_tb := List.mem_filter.mpr ⟨List.mem_append_right _ (List.mem_of_getElem? (i := 173) (by decide +kernel)), rfl⟩
theorem k_m_AL_73 : Cond.methodLink R_AL 73 y_ASup_newLength ∈ w_tb := List.mem_filter.mpr ⟨List.mem_append_right _ (List.mem_of_getElem? (i := 177) (by decide +kernel)), rfl⟩
theorem k_m_AL_79 : Cond.methodLink R_AL 79 Lib.Math.max.name ∈ w_tb := List.mem_filter.mpr ⟨List.mem_append_right _ (List.mem_of_getElem? (i := 214) (by decide +kernel)), rfl⟩
theorem k_m_ASup_194 : Cond.methodLink R_ASup 194 Lib.Math.max.name ∈ w_tb := List.mem_filter.mpr ⟨List.mem_append_right _ (List.mem_of_getElem? (i := 180) (by decide +kernel)), rfl⟩
theorem k_m_AbC_1 : Cond.methodLink R_AbC 1 objectInit ∈ w_tb := List.mem_filter.mpr ⟨List.mem_append_right _ (List.mem_of_getElem? (i := 39) (by decide +kernel)), rfl⟩
theorem k_m_AbL_1 : Cond.methodLink R_AbL 1 y_AbC_init ∈ w_tb := List.mem_filter.mpr ⟨List.mem_append_right _ (List.mem_of_getElem? (i := 36) (by decide +kernel)), rfl⟩
theorem k_m_Arrs_150 : Cond.methodLink R_Arrs 150 arraycopyName ∈ w_tb := List.mem_filter.mpr ⟨List.mem_append_right _ (List.mem_of_getElem? (i := 211) (by decide +kernel)), rfl⟩
theorem k_m_Arrs_300 : Cond.methodLink R_Arrs 300 y_Arrs_copyOf_AIL ∈ w_tb := List.mem_filter.mpr ⟨List.mem_append_right _ (List.mem_of_getElem? (i := 202) (by decide +kernel)), rfl⟩
theorem k_m_Arrs_304 : Cond.methodLink R_Arrs 304 Lib.Math.min.name ∈ w_tb := List.mem_filter.mpr ⟨List.mem_append_right _ (List.mem_of_getElem? (i := 208) (by decide +kernel)), rfl⟩
theorem k_m_Arrs_86 : Cond.methodLink R_Arrs 86 ⟨"java/lang/Object", "getClass", "()Ljava/lang/Class;"⟩ ∈ w_tb := List.mem_filter.mpr ⟨List.mem_append_right _ (List.mem_of_getElem? (i := 190) (by decide +kernel)), rfl⟩
theorem k_m_Ini_3 : Cond.methodLink R_Ini 3 objectInit ∈ w_tb := List.mem_filter.mpr ⟨List.mem_append_right _ (List.mem_of_getElem? (i := 147) (by decide +kernel)), rfl⟩
theorem k_m_Job_3 : Cond.methodLink R_Job 3 objectInit ∈ w_tb := List.mem_filter.mpr ⟨List.mem_append_right _ (List.mem_of_getElem? (i := 261) (by decide +kernel)), rfl⟩
theorem k_m_Job_34 : Cond.methodLink R_Job 34 y_NS_init ∈ w_tb := List.mem_filter.mpr ⟨List.mem_append_right _ (List.mem_of_getElem? (i := 263) (by decide +kernel)), rfl⟩
theorem k_m_Load_20 : Cond.methodLink R_Load 20 y_NS_init ∈ w_tb := List.mem_filter.mpr ⟨List.mem_append_right _ (List.mem_of_getElem? (i := 62) (by decide +kernel)), rfl⟩
theorem k_m_Load_3 : Cond.methodLink R_Load 3 objectInit ∈ w_tb := List.mem_filter.mpr ⟨List.mem_append_right _ (List.mem_of_getElem? (i := 59) (by decide +kernel)), rfl⟩
theorem k_m_Load_42 : Cond.methodLink R_Load 42 y_NS_put ∈ w_tb := List.mem_filter.mpr ⟨List.mem_append_right _ (List.mem_of_getElem? (i := 401) (by decide +kernel)), rfl⟩
theorem k_m_Load_49 : Cond.methodLink R_Load 49 y_NS_drop ∈ w_tb := List.mem_filter.mpr ⟨List.mem_append_right _ (List.mem_of_getElem? (i := 414) (by decide +kernel)), rfl⟩
theorem k_m_Mod_1 : Cond.methodLink R_Mod 1 objectInit ∈ w_tb := List.mem_filter.mpr ⟨List.mem_append_right _ (List.mem_of_getElem? (i := 542) (by decide +kernel)), rfl⟩
theorem k_m_Mod_102 : Cond.methodLink R_Mod 102 y_Mod_isOpen ∈ w_tb := List.mem_filter.mpr ⟨List.mem_append_right _ (List.mem_of_getElem? (i := 691) (by decide +kernel)), rfl⟩
theorem k_m_Mod_105 : Cond.methodLink R_Mod 105 y_Mod_used ∈ w_tb := List.mem_filter.mpr ⟨List.mem_append_right _ (List.mem_of_getElem? (i := 696) (by decide +kernel)), rfl⟩
theorem k_m_Mod_117 : Cond.methodLink R_Mod 117 y_Mod_priority ∈ w_tb := List.mem_filter.mpr ⟨List.mem_append_right _ (List.mem_of_getElem? (i := 704) (by decide +kernel)), rfl⟩
theorem k_m_Mod_121 : Cond.methodLink R_Mod 121 y_Mod_mayStart ∈ w_tb := List.mem_filter.mpr ⟨List.mem_append_right _ (List.mem_of_getElem? (i := 687) (by decide +kernel)), rfl⟩
theorem k_m_Mod_124 : Cond.methodLink R_Mod 124 y_Mod_isAhead ∈ w_tb := List.mem_filter.mpr ⟨List.mem_append_right _ (List.mem_of_getElem? (i := 700) (by decide +kernel)), rfl⟩
theorem k_m_Mod_129 : Cond.methodLink R_Mod 129 y_Mod_those ∈ w_tb := List.mem_filter.mpr ⟨List.mem_append_right _ (List.mem_of_getElem? (i := 746) (by decide +kernel)), rfl⟩
theorem k_m_Mod_79 : Cond.methodLink R_Mod 79 y_Mod_isInitiator ∈ w_tb := List.mem_filter.mpr ⟨List.mem_append_right _ (List.mem_of_getElem? (i := 633) (by decide +kernel)), rfl⟩
theorem k_m_Mod_83 : Cond.methodLink R_Mod 83 y_Mod_isClass ∈ w_tb := List.mem_filter.mpr ⟨List.mem_append_right _ (List.mem_of_getElem? (i := 637) (by decide +kernel)), rfl⟩
theorem k_m_Mod_86 : Cond.methodLink R_Mod 86 y_Mod_isMinute ∈ w_tb := List.mem_filter.mpr ⟨List.mem_append_right _ (List.mem_of_getElem? (i := 648) (by decide +kernel)), rfl⟩
theorem k_m_Mod_93 : Cond.methodLink R_Mod 93 y_Mod_isJob ∈ w_tb := List.mem_filter.mpr ⟨List.mem_append_right _ (List.mem_of_getElem? (i := 659) (by decide +kernel)), rfl⟩
theorem k_m_Mod_96 : Cond.methodLink R_Mod 96 y_Mod_reaches ∈ w_tb := List.mem_filter.mpr ⟨List.mem_append_right _ (List.mem_of_getElem? (i := 663) (by decide +kernel)), rfl⟩
theorem k_m_NS_1 : Cond.methodLink R_NS 1 objectInit ∈ w_tb := List.mem_filter.mpr ⟨List.mem_append_right _ (List.mem_of_getElem? (i := 65) (by decide +kernel)), rfl⟩
theorem k_m_Objs_105 : Cond.methodLink R_Objs 105 y_Prec_checkIndex_IIL ∈ w_tb := List.mem_filter.mpr ⟨List.mem_append_right _ (List.mem_of_getElem? (i := 234) (by decide +kernel)), rfl⟩
theorem k_m_Rows_1 : Cond.methodLink R_Rows 1 objectInit ∈ w_tb := List.mem_filter.mpr ⟨List.mem_append_right _ (List.mem_of_getElem? (i := 25) (by decide +kernel)), rfl⟩
theorem k_m_Rows_102 : Cond.methodLink R_Rows 102 y_NS_has ∈ w_tb := List.mem_filter.mpr ⟨List.mem_append_right _ (List.mem_of_getElem? (i := 321) (by decide +kernel)), rfl⟩
theorem k_m_Rows_105 : Cond.methodLink R_Rows 105 y_Rows_addNeed ∈ w_tb := List.mem_filter.mpr ⟨List.mem_append_right _ (List.mem_of_getElem? (i := 325) (by decide +kernel)), rfl⟩
theorem k_m_Rows_109 : Cond.methodLink R_Rows 109 y_Rows_isKind ∈ w_tb := List.mem_filter.mpr ⟨List.mem_append_right _ (List.mem_of_getElem? (i := 341) (by decide +kernel)), rfl⟩
theorem k_m_Rows_128 : Cond.methodLink R_Rows 128 y_Rows_nextFor ∈ w_tb := List.mem_filter.mpr ⟨List.mem_append_right _ (List.mem_of_getElem? (i := 360) (by decide +kernel)), rfl⟩
theorem k_m_Rows_132 : Cond.methodLink R_Rows 132 y_Rows_startJob ∈ w_tb := List.mem_filter.mpr ⟨List.mem_append_right _ (List.mem_of_getElem? (i := 393) (by decide +kernel)), rfl⟩
theorem k_m_Rows_139 : Cond.methodLink R_Rows 139 y_Rows_stopJob ∈ w_tb := List.mem_filter.mpr ⟨List.mem_append_right _ (List.mem_of_getElem? (i := 406) (by decide +kernel)), rfl⟩
theorem k_m_Rows_145 : Cond.methodLink R_Rows 145 y_Rows_sumOfWeights ∈ w_tb := List.mem_filter.mpr ⟨List.mem_append_right _ (List.mem_of_getElem? (i := 467) (by decide +kernel)), rfl⟩
theorem k_m_Rows_156 : Cond.methodLink R_Rows 156 y_AL_get ∈ w_tb := List.mem_filter.mpr ⟨List.mem_append_right _ (List.mem_of_getElem? (i := 227) (by decide +kernel)), rfl⟩
theorem k_m_Rows_160 : Cond.methodLink R_Rows 160 y_Rows_priorityNow ∈ w_tb := List.mem_filter.mpr ⟨List.mem_append_right _ (List.mem_of_getElem? (i := 386) (by decide +kernel)), rfl⟩
theorem k_m_Rows_170 : Cond.methodLink R_Rows 170 y_Rows_jobsIn ∈ w_tb := List.mem_filter.mpr ⟨List.mem_append_right _ (List.mem_of_getElem? (i := 447) (by decide +kernel)), rfl⟩
theorem k_m_Rows_177 : Cond.methodLink R_Rows 177 y_Rows_drainedAndIdle ∈ w_tb := List.mem_filter.mpr ⟨List.mem_append_right _ (List.mem_of_getElem? (i := 451) (by decide +kernel)), rfl⟩
theorem k_m_Rows_180 : Cond.methodLink R_Rows 180 y_Rows_unitsInUse ∈ w_tb := List.mem_filter.mpr ⟨List.mem_append_right _ (List.mem_of_getElem? (i := 455) (by decide +kernel)), rfl⟩
theorem k_m_Rows_183 : Cond.methodLink R_Rows 183 y_NS_put ∈ w_tb := List.mem_filter.mpr ⟨List.mem_append_right _ (List.mem_of_getElem? (i := 329) (by decide +kernel)), rfl⟩
theorem k_m_Rows_187 : Cond.methodLink R_Rows 187 y_NS_putAll ∈ w_tb := List.mem_filter.mpr ⟨List.mem_append_right _ (List.mem_of_getElem? (i := 333) (by decide +kernel)), rfl⟩
theorem k_m_Rows_191 : Cond.methodLink R_Rows 191 y_Rows_nextOfClass ∈ w_tb := List.mem_filter.mpr ⟨List.mem_append_right _ (List.mem_of_getElem? (i := 364) (by decide +kernel)), rfl⟩
theorem k_m_Rows_197 : Cond.methodLink R_Rows 197 y_Rows_mayStart ∈ w_tb := List.mem_filter.mpr ⟨List.mem_append_right _ (List.mem_of_getElem? (i := 368) (by decide +kernel)), rfl⟩
theorem k_m_Rows_204 : Cond.methodLink R_Rows 204 y_Rows_isWindowOpen ∈ w_tb := List.mem_filter.mpr ⟨List.mem_append_right _ (List.mem_of_getElem? (i := 372) (by decide +kernel)), rfl⟩
theorem k_m_Rows_213 : Cond.methodLink R_Rows 213 y_NS_isWithin ∈ w_tb := List.mem_filter.mpr ⟨List.mem_append_right _ (List.mem_of_getElem? (i := 377) (by decide +kernel)), rfl⟩
theorem k_m_Rows_217 : Cond.methodLink R_Rows 217 y_Rows_areUnitsEnough ∈ w_tb := List.mem_filter.mpr ⟨List.mem_append_right _ (List.mem_of_getElem? (i := 382) (by decide +kernel)), rfl⟩
theorem k_m_Rows_229 : Cond.methodLink R_Rows 229 Lib.MathLoose.min_long.x ∈ w_tb := List.mem_filter.mpr ⟨List.mem_append_right _ (List.mem_of_getElem? (i := 390) (by decide +kernel)), rfl⟩
theorem k_m_Rows_235 : Cond.methodLink R_Rows 235 y_Load_take ∈ w_tb := List.mem_filter.mpr ⟨List.mem_append_right _ (List.mem_of_getElem? (i := 397) (by decide +kernel)), rfl⟩
theorem k_m_Rows_238 : Cond.methodLink R_Rows 238 y_Load_release ∈ w_tb := List.mem_filter.mpr ⟨List.mem_append_right _ (List.mem_of_getElem? (i := 410) (by decide +kernel)), rfl⟩
theorem k_m_Rows_37 : Cond.methodLink R_Rows 37 y_Load_init ∈ w_tb := List.mem_filter.mpr ⟨List.mem_append_right _ (List.mem_of_getElem? (i := 56) (by decide +kernel)), rfl⟩
theorem k_m_Rows_44 : Cond.methodLink R_Rows 44 y_NS_init ∈ w_tb := List.mem_filter.mpr ⟨List.mem_append_right _ (List.mem_of_getElem? (i := 96) (by decide +kernel)), rfl⟩
theorem k_m_Rows_60 : Cond.methodLink R_Rows 60 y_AL_size ∈ w_tb := List.mem_filter.mpr ⟨List.mem_append_right _ (List.mem_of_getElem? (i := 138) (by decide +kernel)), rfl⟩
theorem k_m_Rows_66 : Cond.methodLink R_Rows 66 y_Ini_init ∈ w_tb := List.mem_filter.mpr ⟨List.mem_append_right _ (List.mem_of_getElem? (i := 144) (by decide +kernel)), rfl⟩
theorem k_m_Rows_67 : Cond.methodLink R_Rows 67 y_AL_add_L ∈ w_tb := List.mem_filter.mpr ⟨List.mem_append_right _ (List.mem_of_getElem? (i := 161) (by decide +kernel)), rfl⟩
theorem k_m_Rows_71 : Cond.methodLink R_Rows 71 y_Rows_findInitiator ∈ w_tb := List.mem_filter.mpr ⟨List.mem_append_right _ (List.mem_of_getElem? (i := 220) (by decide +kernel)), rfl⟩
theorem k_m_Rows_75 : Cond.methodLink R_Rows 75 y_Rows_isIn ∈ w_tb := List.mem_filter.mpr ⟨List.mem_append_right _ (List.mem_of_getElem? (i := 224) (by decide +kernel)), rfl⟩
theorem k_m_Rows_79 : Cond.methodLink R_Rows 79 y_Rows_isClass ∈ w_tb := List.mem_filter.mpr ⟨List.mem_append_right _ (List.mem_of_getElem? (i := 241) (by decide +kernel)), rfl⟩
theorem k_m_Rows_88 : Cond.methodLink R_Rows 88 y_Job_init ∈ w_tb := List.mem_filter.mpr ⟨List.mem_append_right _ (List.mem_of_getElem? (i := 258) (by decide +kernel)), rfl⟩
theorem k_m_Rows_9 : Cond.methodLink R_Rows 9 y_AL_init_v ∈ w_tb := List.mem_filter.mpr ⟨List.mem_append_right _ (List.mem_of_getElem? (i := 30) (by decide +kernel)), rfl⟩
theorem k_m_Rows_91 : Cond.methodLink R_Rows 91 y_Rows_findJob ∈ w_tb := List.mem_filter.mpr ⟨List.mem_append_right _ (List.mem_of_getElem? (i := 313) (by decide +kernel)), rfl⟩
theorem k_m_Rows_95 : Cond.methodLink R_Rows 95 y_Job_isWaiting ∈ w_tb := List.mem_filter.mpr ⟨List.mem_append_right _ (List.mem_of_getElem? (i := 317) (by decide +kernel)), rfl⟩
