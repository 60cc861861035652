-- ===== PART A: goes FIRST, ahead of the names: the tables' words, and 'selects' of the private methods out of them =====
/-- a private method of a class that the tables say can be made, by its rows of tables_1 -/
def lw_okq (q : MethodName × Nat) : Prop := (q.1.cls ≠ "java/lang/invoke/MethodHandle" ∧ q.1.cls ≠ "java/lang/invoke/VarHandle") ∧ Cond.instantiable q.1.cls q.2 ∈ tables_1 ∧ Cond.privateMethod q.1 ∈ tables_1 ∧ Cond.instanceMethod q.1 ∈ tables_1
theorem lw_p0 : lw_okq (⟨"java/util/ArrayList", "add", "(Ljava/lang/Object;[Ljava/lang/Object;I)V"⟩, 3) := ⟨⟨by decide +kernel, by decide +kernel⟩, List.mem_of_getElem? (i := 29) (by decide +kernel), List.mem_of_getElem? (i := 166) (by decide +kernel), List.mem_of_getElem? (i := 167) (by decide +kernel)⟩
theorem lw_p1 : lw_okq (⟨"java/util/ArrayList", "grow", "()[Ljava/lang/Object;"⟩, 3) := ⟨⟨by decide +kernel, by decide +kernel⟩, List.mem_of_getElem? (i := 29) (by decide +kernel), List.mem_of_getElem? (i := 170) (by decide +kernel), List.mem_of_getElem? (i := 171) (by decide +kernel)⟩
theorem lw_p2 : lw_okq (⟨"java/util/ArrayList", "grow", "(I)[Ljava/lang/Object;"⟩, 3) := ⟨⟨by decide +kernel, by decide +kernel⟩, List.mem_of_getElem? (i := 29) (by decide +kernel), List.mem_of_getElem? (i := 174) (by decide +kernel), List.mem_of_getElem? (i := 175) (by decide +kernel)⟩
theorem lw_p3 : lw_okq (⟨"InitiatorRows", "findInitiator", "(I)LInitiatorRows$Initiator;"⟩, 12) := ⟨⟨by decide +kernel, by decide +kernel⟩, List.mem_of_getElem? (i := 21) (by decide +kernel), List.mem_of_getElem? (i := 221) (by decide +kernel), List.mem_of_getElem? (i := 222) (by decide +kernel)⟩
theorem lw_p4 : lw_okq (⟨"InitiatorRows", "findJob", "(I)LInitiatorRows$Job;"⟩, 12) := ⟨⟨by decide +kernel, by decide +kernel⟩, List.mem_of_getElem? (i := 21) (by decide +kernel), List.mem_of_getElem? (i := 314) (by decide +kernel), List.mem_of_getElem? (i := 315) (by decide +kernel)⟩
theorem lw_p5 : lw_okq (⟨"InitiatorRows", "addNeed", "(LInitiatorRows$Job;LInitiatorRows$Job;)V"⟩, 12) := ⟨⟨by decide +kernel, by decide +kernel⟩, List.mem_of_getElem? (i := 21) (by decide +kernel), List.mem_of_getElem? (i := 326) (by decide +kernel), List.mem_of_getElem? (i := 327) (by decide +kernel)⟩
theorem lw_p6 : lw_okq (⟨"InitiatorRows", "nextFor", "(LInitiatorRows$Initiator;)LInitiatorRows$Job;"⟩, 12) := ⟨⟨by decide +kernel, by decide +kernel⟩, List.mem_of_getElem? (i := 21) (by decide +kernel), List.mem_of_getElem? (i := 361) (by decide +kernel), List.mem_of_getElem? (i := 362) (by decide +kernel)⟩
theorem lw_p7 : lw_okq (⟨"InitiatorRows", "nextOfClass", "(I)LInitiatorRows$Job;"⟩, 12) := ⟨⟨by decide +kernel, by decide +kernel⟩, List.mem_of_getElem? (i := 21) (by decide +kernel), List.mem_of_getElem? (i := 365) (by decide +kernel), List.mem_of_getElem? (i := 366) (by decide +kernel)⟩
theorem lw_p8 : lw_okq (⟨"InitiatorRows", "mayStart", "(LInitiatorRows$Job;)Z"⟩, 12) := ⟨⟨by decide +kernel, by decide +kernel⟩, List.mem_of_getElem? (i := 21) (by decide +kernel), List.mem_of_getElem? (i := 369) (by decide +kernel), List.mem_of_getElem? (i := 370) (by decide +kernel)⟩
theorem lw_p9 : lw_okq (⟨"InitiatorRows", "isWindowOpen", "(I)Z"⟩, 12) := ⟨⟨by decide +kernel, by decide +kernel⟩, List.mem_of_getElem? (i := 21) (by decide +kernel), List.mem_of_getElem? (i := 373) (by decide +kernel), List.mem_of_getElem? (i := 374) (by decide +kernel)⟩
theorem lw_p10 : lw_okq (⟨"InitiatorRows", "areUnitsEnough", "(LInitiatorRows$Job;)Z"⟩, 12) := ⟨⟨by decide +kernel, by decide +kernel⟩, List.mem_of_getElem? (i := 21) (by decide +kernel), List.mem_of_getElem? (i := 383) (by decide +kernel), List.mem_of_getElem? (i := 384) (by decide +kernel)⟩
theorem lw_p11 : lw_okq (⟨"InitiatorRows", "priorityNow", "(LInitiatorRows$Job;)I"⟩, 12) := ⟨⟨by decide +kernel, by decide +kernel⟩, List.mem_of_getElem? (i := 21) (by decide +kernel), List.mem_of_getElem? (i := 387) (by decide +kernel), List.mem_of_getElem? (i := 388) (by decide +kernel)⟩
theorem lw_p12 : lw_okq (⟨"InitiatorRows", "startJob", "(LInitiatorRows$Initiator;LInitiatorRows$Job;)V"⟩, 12) := ⟨⟨by decide +kernel, by decide +kernel⟩, List.mem_of_getElem? (i := 21) (by decide +kernel), List.mem_of_getElem? (i := 394) (by decide +kernel), List.mem_of_getElem? (i := 395) (by decide +kernel)⟩
theorem lw_p13 : lw_okq (⟨"InitiatorRows", "stopJob", "(LInitiatorRows$Job;)V"⟩, 12) := ⟨⟨by decide +kernel, by decide +kernel⟩, List.mem_of_getElem? (i := 21) (by decide +kernel), List.mem_of_getElem? (i := 407) (by decide +kernel), List.mem_of_getElem? (i := 408) (by decide +kernel)⟩
theorem lw_p14 : lw_okq (⟨"InitiatorRows", "jobsIn", "(I)I"⟩, 12) := ⟨⟨by decide +kernel, by decide +kernel⟩, List.mem_of_getElem? (i := 21) (by decide +kernel), List.mem_of_getElem? (i := 448) (by decide +kernel), List.mem_of_getElem? (i := 449) (by decide +kernel)⟩
theorem lw_p15 : lw_okq (⟨"InitiatorRows", "drainedAndIdle", "()I"⟩, 12) := ⟨⟨by decide +kernel, by decide +kernel⟩, List.mem_of_getElem? (i := 21) (by decide +kernel), List.mem_of_getElem? (i := 452) (by decide +kernel), List.mem_of_getElem? (i := 453) (by decide +kernel)⟩
def lw_privs_1 : List (MethodName × Nat) := [(⟨"java/util/ArrayList", "add", "(Ljava/lang/Object;[Ljava/lang/Object;I)V"⟩, 3), (⟨"java/util/ArrayList", "grow", "()[Ljava/lang/Object;"⟩, 3), (⟨"java/util/ArrayList", "grow", "(I)[Ljava/lang/Object;"⟩, 3), (⟨"InitiatorRows", "findInitiator", "(I)LInitiatorRows$Initiator;"⟩, 12), (⟨"InitiatorRows", "findJob", "(I)LInitiatorRows$Job;"⟩, 12), (⟨"InitiatorRows", "addNeed", "(LInitiatorRows$Job;LInitiatorRows$Job;)V"⟩, 12), (⟨"InitiatorRows", "nextFor", "(LInitiatorRows$Initiator;)LInitiatorRows$Job;"⟩, 12), (⟨"InitiatorRows", "nextOfClass", "(I)LInitiatorRows$Job;"⟩, 12), (⟨"InitiatorRows", "mayStart", "(LInitiatorRows$Job;)Z"⟩, 12), (⟨"InitiatorRows", "isWindowOpen", "(I)Z"⟩, 12), (⟨"InitiatorRows", "areUnitsEnough", "(LInitiatorRows$Job;)Z"⟩, 12), (⟨"InitiatorRows", "priorityNow", "(LInitiatorRows$Job;)I"⟩, 12), (⟨"InitiatorRows", "startJob", "(LInitiatorRows$Initiator;LInitiatorRows$Job;)V"⟩, 12), (⟨"InitiatorRows", "stopJob", "(LInitiatorRows$Job;)V"⟩, 12), (⟨"InitiatorRows", "jobsIn", "(I)I"⟩, 12), (⟨"InitiatorRows", "drainedAndIdle", "()I"⟩, 12)]
theorem lw_r1 : ∀ q ∈ lw_privs_1, lw_okq q := List.forall_mem_cons.mpr ⟨lw_p0, List.forall_mem_cons.mpr ⟨lw_p1, List.forall_mem_cons.mpr ⟨lw_p2, List.forall_mem_cons.mpr ⟨lw_p3, List.forall_mem_cons.mpr ⟨lw_p4, List.forall_mem_cons.mpr ⟨lw_p5, List.forall_mem_cons.mpr ⟨lw_p6, List.forall_mem_cons.mpr ⟨lw_p7, List.forall_mem_cons.mpr ⟨lw_p8, List.forall_mem_cons.mpr ⟨lw_p9, List.forall_mem_cons.mpr ⟨lw_p10, List.forall_mem_cons.mpr ⟨lw_p11, List.forall_mem_cons.mpr ⟨lw_p12, List.forall_mem_cons.mpr ⟨lw_p13, List.forall_mem_cons.mpr ⟨lw_p14, List.forall_mem_cons.mpr ⟨lw_p15, fun _ h => absurd h List.not_mem_nil⟩⟩⟩⟩⟩⟩⟩⟩⟩⟩⟩⟩⟩⟩⟩⟩
theorem lw_p16 : lw_okq (⟨"InitiatorRows", "unitsInUse", "(I)I"⟩, 12) := ⟨⟨by decide +kernel, by decide +kernel⟩, List.mem_of_getElem? (i := 21) (by decide +kernel), List.mem_of_getElem? (i := 456) (by decide +kernel), List.mem_of_getElem? (i := 457) (by decide +kernel)⟩
theorem lw_p17 : lw_okq (⟨"InitiatorRows", "sumOfWeights", "()J"⟩, 12) := ⟨⟨by decide +kernel, by decide +kernel⟩, List.mem_of_getElem? (i := 21) (by decide +kernel), List.mem_of_getElem? (i := 468) (by decide +kernel), List.mem_of_getElem? (i := 469) (by decide +kernel)⟩
theorem lw_p18 : lw_okq (⟨"java/lang/Throwable", "fillInStackTrace", "(I)Ljava/lang/Throwable;"⟩, 6) := ⟨⟨by decide +kernel, by decide +kernel⟩, List.mem_of_getElem? (i := 508) (by decide +kernel), List.mem_of_getElem? (i := 506) (by decide +kernel), List.mem_of_getElem? (i := 507) (by decide +kernel)⟩
theorem lw_p19 : lw_okq (⟨"InitiatorRowsModel", "isInitiator", "(I)Z"⟩, 25) := ⟨⟨by decide +kernel, by decide +kernel⟩, List.mem_of_getElem? (i := 538) (by decide +kernel), List.mem_of_getElem? (i := 634) (by decide +kernel), List.mem_of_getElem? (i := 635) (by decide +kernel)⟩
theorem lw_p20 : lw_okq (⟨"InitiatorRowsModel", "isJob", "(I)Z"⟩, 25) := ⟨⟨by decide +kernel, by decide +kernel⟩, List.mem_of_getElem? (i := 538) (by decide +kernel), List.mem_of_getElem? (i := 660) (by decide +kernel), List.mem_of_getElem? (i := 661) (by decide +kernel)⟩
theorem lw_p21 : lw_okq (⟨"InitiatorRowsModel", "reaches", "(II)Z"⟩, 25) := ⟨⟨by decide +kernel, by decide +kernel⟩, List.mem_of_getElem? (i := 538) (by decide +kernel), List.mem_of_getElem? (i := 664) (by decide +kernel), List.mem_of_getElem? (i := 665) (by decide +kernel)⟩
theorem lw_p22 : lw_okq (⟨"InitiatorRowsModel", "mayStart", "(I)Z"⟩, 25) := ⟨⟨by decide +kernel, by decide +kernel⟩, List.mem_of_getElem? (i := 538) (by decide +kernel), List.mem_of_getElem? (i := 688) (by decide +kernel), List.mem_of_getElem? (i := 689) (by decide +kernel)⟩
theorem lw_p23 : lw_okq (⟨"InitiatorRowsModel", "isOpen", "(I)Z"⟩, 25) := ⟨⟨by decide +kernel, by decide +kernel⟩, List.mem_of_getElem? (i := 538) (by decide +kernel), List.mem_of_getElem? (i := 692) (by decide +kernel), List.mem_of_getElem? (i := 693) (by decide +kernel)⟩
theorem lw_p24 : lw_okq (⟨"InitiatorRowsModel", "used", "(I)I"⟩, 25) := ⟨⟨by decide +kernel, by decide +kernel⟩, List.mem_of_getElem? (i := 538) (by decide +kernel), List.mem_of_getElem? (i := 697) (by decide +kernel), List.mem_of_getElem? (i := 698) (by decide +kernel)⟩
theorem lw_p25 : lw_okq (⟨"InitiatorRowsModel", "isAhead", "(II)Z"⟩, 25) := ⟨⟨by decide +kernel, by decide +kernel⟩, List.mem_of_getElem? (i := 538) (by decide +kernel), List.mem_of_getElem? (i := 701) (by decide +kernel), List.mem_of_getElem? (i := 702) (by decide +kernel)⟩
theorem lw_p26 : lw_okq (⟨"InitiatorRowsModel", "priority", "(I)J"⟩, 25) := ⟨⟨by decide +kernel, by decide +kernel⟩, List.mem_of_getElem? (i := 538) (by decide +kernel), List.mem_of_getElem? (i := 705) (by decide +kernel), List.mem_of_getElem? (i := 706) (by decide +kernel)⟩
theorem lw_p27 : lw_okq (⟨"InitiatorRowsModel", "those", "(IZ)I"⟩, 25) := ⟨⟨by decide +kernel, by decide +kernel⟩, List.mem_of_getElem? (i := 538) (by decide +kernel), List.mem_of_getElem? (i := 747) (by decide +kernel), List.mem_of_getElem? (i := 748) (by decide +kernel)⟩
def lw_privs_2 : List (MethodName × Nat) := [(⟨"InitiatorRows", "unitsInUse", "(I)I"⟩, 12), (⟨"InitiatorRows", "sumOfWeights", "()J"⟩, 12), (⟨"java/lang/Throwable", "fillInStackTrace", "(I)Ljava/lang/Throwable;"⟩, 6), (⟨"InitiatorRowsModel", "isInitiator", "(I)Z"⟩, 25), (⟨"InitiatorRowsModel", "isJob", "(I)Z"⟩, 25), (⟨"InitiatorRowsModel", "reaches", "(II)Z"⟩, 25), (⟨"InitiatorRowsModel", "mayStart", "(I)Z"⟩, 25), (⟨"InitiatorRowsModel", "isOpen", "(I)Z"⟩, 25), (⟨"InitiatorRowsModel", "used", "(I)I"⟩, 25), (⟨"InitiatorRowsModel", "isAhead", "(II)Z"⟩, 25), (⟨"InitiatorRowsModel", "priority", "(I)J"⟩, 25), (⟨"InitiatorRowsModel", "those", "(IZ)I"⟩, 25)]
theorem lw_r2 : ∀ q ∈ lw_privs_2, lw_okq q := List.forall_mem_cons.mpr ⟨lw_p16, List.forall_mem_cons.mpr ⟨lw_p17, List.forall_mem_cons.mpr ⟨lw_p18, List.forall_mem_cons.mpr ⟨lw_p19, List.forall_mem_cons.mpr ⟨lw_p20, List.forall_mem_cons.mpr ⟨lw_p21, List.forall_mem_cons.mpr ⟨lw_p22, List.forall_mem_cons.mpr ⟨lw_p23, List.forall_mem_cons.mpr ⟨lw_p24, List.forall_mem_cons.mpr ⟨lw_p25, List.forall_mem_cons.mpr ⟨lw_p26, List.forall_mem_cons.mpr ⟨lw_p27, fun _ h => absurd h List.not_mem_nil⟩⟩⟩⟩⟩⟩⟩⟩⟩⟩⟩⟩
def lw_privs : List (MethodName × Nat) := lw_privs_1 ++ (lw_privs_2)
def lw_tbl : List Cond := k2_sels lw_privs ++ tables_1
theorem lw_privs_ok : ∀ q ∈ lw_privs, lw_okq q := by
  show ∀ q ∈ lw_privs_1 ++ (lw_privs_2), lw_okq q
  exact List.forall_mem_append.mpr ⟨lw_r1, lw_r2⟩
/-- words that hold on, whatever the tables' notes -/
def w_sp : Cond → Bool
  | .castable .. => true
  | .declares .. => true
  | .arrayOver (.object _) => true
  | _ => false
def w_tb : List Cond := lw_tbl.filter (fun w => goodWord w || w_sp w)
theorem w_TBm : TBm w_tb := by
  intro w hw A A' u U hW hb
  have h := (List.mem_filter.mp hw).2
  cases hg : goodWord w with
  | true => exact word_at hW (good_of_word hg) hb
  | false =>
    rw [hg, Bool.false_or] at h
    cases w <;> first | (simp [w_sp] at h; done) | skip
    case castable a b => exact va_Nw.use rfl (va_Nw.warmC hW (va_Nw.of rfl hb))
    case declares a => exact va_Nw.use rfl (va_Nw.warmD hW (va_Nw.of rfl hb))
    case arrayOver t =>
      cases t <;> first | (simp [w_sp] at h; done) | skip
      exact va_AO.use (va_AO.moved hW.alike (va_AO.of hb))
def w_tl : List FieldType := [.int, .long, .object "java/lang/Object", .boolean]
def R_Rows : String := "InitiatorRows"
def R_Ini : String := "InitiatorRows$Initiator"
def R_Job : String := "InitiatorRows$Job"
def R_Load : String := "InitiatorRows$Load"
def R_NS : String := "InitiatorRows$NumberSet"
def R_Law : String := "InitiatorRowsLaw"
def R_Mod : String := "InitiatorRowsModel"
def R_AbC : String := "java/util/AbstractCollection"
def R_AbL : String := "java/util/AbstractList"
def R_AL : String := "java/util/ArrayList"
def R_Arrs : String := "java/util/Arrays"
def R_Objs : String := "java/util/Objects"
def R_ASup : String := "jdk/internal/util/ArraysSupport"
def R_Prec : String := "jdk/internal/util/Preconditions"
def F_Rows : u_T := fun k => match k with
  | 0 => ("InitiatorRows", "initiators", "Ljava/util/ArrayList;", true)
  | 1 => ("InitiatorRows", "jobs", "Ljava/util/ArrayList;", true)
  | 2 => ("InitiatorRows", "limits", "[I", true)
  | 3 => ("InitiatorRows", "windowStarts", "[I", true)
  | 4 => ("InitiatorRows", "windowEnds", "[I", true)
  | 5 => ("InitiatorRows", "weights", "[I", true)
  | 6 => ("InitiatorRows", "unitsThere", "[I", true)
  | 7 => ("InitiatorRows", "load", "LInitiatorRows$Load;", true)
  | 8 => ("InitiatorRows", "ended", "LInitiatorRows$NumberSet;", true)
  | 9 => ("InitiatorRows", "now", "J", false)
  | 10 => ("InitiatorRows", "agePer", "J", false)
  | _ => ("InitiatorRows", "ageMost", "I", false)
def t_Rows : Nat → FieldType := fun k => match k with
  | 0 => .object "java/util/ArrayList"
  | 1 => .object "java/util/ArrayList"
  | 2 => .array .int
  | 3 => .array .int
  | 4 => .array .int
  | 5 => .array .int
  | 6 => .array .int
  | 7 => .object "InitiatorRows$Load"
  | 8 => .object "InitiatorRows$NumberSet"
  | 9 => .long
  | 10 => .long
  | _ => .int
theorem n_Rows : ∀ a, a < 12 → ∀ b, b < 12 → a ≠ b → (F_Rows a).2.1 ≠ (F_Rows b).2.1 := by decide +kernel
theorem t_Rows_ok : ∀ k, k < 12 → parseFieldDescriptor (F_Rows k).2.2.1 = some (t_Rows k) := by decide +kernel
theorem i_Rows : ∀ w ∈ u_ws R_Rows F_Rows 12, w ∈ w_tb := by decide +kernel
theorem def_Rows : ∀ j, j < 12 → defaultValue (t_Rows j) = vp_V [.null, .null, .null, .null, .null, .null, .null, .null, .null, .long 0, .long 0, .int 0] j := by decide +kernel
theorem k_made_Rows : Cond.instantiable "InitiatorRows" 12 ∈ w_tb := List.mem_filter.mpr ⟨List.mem_append_right _ (List.mem_of_getElem? (i := 21) (by decide +kernel)), rfl⟩
def F_Job : u_T := fun k => match k with
  | 0 => ("InitiatorRows$Job", "number", "I", true)
  | 1 => ("InitiatorRows$Job", "inClass", "I", true)
  | 2 => ("InitiatorRows$Job", "priority", "I", true)
  | 3 => ("InitiatorRows$Job", "name", "I", true)
  | 4 => ("InitiatorRows$Job", "arrived", "J", true)
  | 5 => ("InitiatorRows$Job", "unitsUsed", "[I", true)
  | 6 => ("InitiatorRows$Job", "deepNeeds", "LInitiatorRows$NumberSet;", true)
  | 7 => ("InitiatorRows$Job", "runsAlone", "Z", false)
  | 8 => ("InitiatorRows$Job", "stage", "I", false)
  | _ => ("InitiatorRows$Job", "started", "J", false)
def t_Job : Nat → FieldType := fun k => match k with
  | 0 => .int
  | 1 => .int
  | 2 => .int
  | 3 => .int
  | 4 => .long
  | 5 => .array .int
  | 6 => .object "InitiatorRows$NumberSet"
  | 7 => .boolean
  | 8 => .int
  | _ => .long
theorem n_Job : ∀ a, a < 10 → ∀ b, b < 10 → a ≠ b → (F_Job a).2.1 ≠ (F_Job b).2.1 := by decide +kernel
theorem t_Job_ok : ∀ k, k < 10 → parseFieldDescriptor (F_Job k).2.2.1 = some (t_Job k) := by decide +kernel
theorem i_Job : ∀ w ∈ u_ws R_Job F_Job 10, w ∈ w_tb := by decide +kernel
theorem def_Job : ∀ j, j < 10 → defaultValue (t_Job j) = vp_V [.int 0, .int 0, .int 0, .int 0, .long 0, .null, .null, .int 0, .int 0, .long 0] j := by decide +kernel
theorem k_made_Job : Cond.instantiable "InitiatorRows$Job" 10 ∈ w_tb := List.mem_filter.mpr ⟨List.mem_append_right _ (List.mem_of_getElem? (i := 257) (by decide +kernel)), rfl⟩
def F_Load : u_T := fun k => match k with
  | 0 => ("InitiatorRows$Load", "ofClass", "[I", true)
  | 1 => ("InitiatorRows$Load", "unitsUsed", "[I", true)
  | 2 => ("InitiatorRows$Load", "names", "LInitiatorRows$NumberSet;", true)
  | 3 => ("InitiatorRows$Load", "running", "I", false)
  | _ => ("InitiatorRows$Load", "aloneRuns", "Z", false)
def t_Load : Nat → FieldType := fun k => match k with
  | 0 => .array .int
  | 1 => .array .int
  | 2 => .object "InitiatorRows$NumberSet"
  | 3 => .int
  | _ => .boolean
theorem n_Load : ∀ a, a < 5 → ∀ b, b < 5 → a ≠ b → (F_Load a).2.1 ≠ (F_Load b).2.1 := by decide +kernel
theorem t_Load_ok : ∀ k, k < 5 → parseFieldDescriptor (F_Load k).2.2.1 = some (t_Load k) := by decide +kernel
theorem i_Load : ∀ w ∈ u_ws R_Load F_Load 5, w ∈ w_tb := by decide +kernel
theorem def_Load : ∀ j, j < 5 → defaultValue (t_Load j) = vp_V [.null, .null, .null, .int 0, .int 0] j := by decide +kernel
theorem k_made_Load : Cond.instantiable "InitiatorRows$Load" 5 ∈ w_tb := List.mem_filter.mpr ⟨List.mem_append_right _ (List.mem_of_getElem? (i := 55) (by decide +kernel)), rfl⟩
def F_Ini : u_T := fun k => match k with
  | 0 => ("InitiatorRows$Initiator", "list", "[I", true)
  | 1 => ("InitiatorRows$Initiator", "drained", "Z", false)
  | _ => ("InitiatorRows$Initiator", "runningJob", "I", false)
def t_Ini : Nat → FieldType := fun k => match k with
  | 0 => .array .int
  | 1 => .boolean
  | _ => .int
theorem n_Ini : ∀ a, a < 3 → ∀ b, b < 3 → a ≠ b → (F_Ini a).2.1 ≠ (F_Ini b).2.1 := by decide +kernel
theorem t_Ini_ok : ∀ k, k < 3 → parseFieldDescriptor (F_Ini k).2.2.1 = some (t_Ini k) := by decide +kernel
theorem i_Ini : ∀ w ∈ u_ws R_Ini F_Ini 3, w ∈ w_tb := by decide +kernel
theorem def_Ini : ∀ j, j < 3 → defaultValue (t_Ini j) = vp_V [.null, .int 0, .int 0] j := by decide +kernel
theorem k_made_Ini : Cond.instantiable "InitiatorRows$Initiator" 3 ∈ w_tb := List.mem_filter.mpr ⟨List.mem_append_right _ (List.mem_of_getElem? (i := 143) (by decide +kernel)), rfl⟩
def F_NS : u_T := fun k => match k with
  | 0 => ("InitiatorRows$NumberSet", "low", "J", false)
  | _ => ("InitiatorRows$NumberSet", "high", "J", false)
def t_NS : Nat → FieldType := fun k => match k with
  | 0 => .long
  | _ => .long
theorem n_NS : ∀ a, a < 2 → ∀ b, b < 2 → a ≠ b → (F_NS a).2.1 ≠ (F_NS b).2.1 := by decide +kernel
theorem t_NS_ok : ∀ k, k < 2 → parseFieldDescriptor (F_NS k).2.2.1 = some (t_NS k) := by decide +kernel
theorem i_NS : ∀ w ∈ u_ws R_NS F_NS 2, w ∈ w_tb := by decide +kernel
theorem def_NS : ∀ j, j < 2 → defaultValue (t_NS j) = vp_V [.long 0, .long 0] j := by decide +kernel
theorem k_made_NS : Cond.instantiable "InitiatorRows$NumberSet" 2 ∈ w_tb := List.mem_filter.mpr ⟨List.mem_append_right _ (List.mem_of_getElem? (i := 61) (by decide +kernel)), rfl⟩
def F_AL : u_T := fun k => match k with
  | 0 => ("java/util/AbstractList", "modCount", "I", false)
  | 1 => ("java/util/ArrayList", "elementData", "[Ljava/lang/Object;", false)
  | _ => ("java/util/ArrayList", "size", "I", false)
def t_AL : Nat → FieldType := fun k => match k with
  | 0 => .int
  | 1 => (.array (.object "java/lang/Object"))
  | _ => .int
theorem n_AL : ∀ a, a < 3 → ∀ b, b < 3 → a ≠ b → (F_AL a).2.1 ≠ (F_AL b).2.1 := by decide +kernel
theorem t_AL_ok : ∀ k, k < 3 → parseFieldDescriptor (F_AL k).2.2.1 = some (t_AL k) := by decide +kernel
theorem i_AL : ∀ w ∈ u_ws R_AL F_AL 3, w ∈ w_tb := by decide +kernel
theorem def_AL : ∀ j, j < 3 → defaultValue (t_AL j) = vp_V [.int 0, .null, .int 0] j := by decide +kernel
theorem k_made_AL : Cond.instantiable "java/util/ArrayList" 3 ∈ w_tb := List.mem_filter.mpr ⟨List.mem_append_right _ (List.mem_of_getElem? (i := 29) (by decide +kernel)), rfl⟩
def F_Mod : u_T := fun k => match k with
  | 0 => ("InitiatorRowsModel", "thrown", "I", false)
  | 1 => ("InitiatorRowsModel", "now", "J", false)
  | 2 => ("InitiatorRowsModel", "lists", "[I", true)
  | 3 => ("InitiatorRowsModel", "runs", "[I", true)
  | 4 => ("InitiatorRowsModel", "drained", "[Z", true)
  | 5 => ("InitiatorRowsModel", "initiators", "I", false)
  | 6 => ("InitiatorRowsModel", "limits", "[I", true)
  | 7 => ("InitiatorRowsModel", "froms", "[I", true)
  | 8 => ("InitiatorRowsModel", "tos", "[I", true)
  | 9 => ("InitiatorRowsModel", "weights", "[I", true)
  | 10 => ("InitiatorRowsModel", "units", "[I", true)
  | 11 => ("InitiatorRowsModel", "sorts", "[I", true)
  | 12 => ("InitiatorRowsModel", "priorities", "[I", true)
  | 13 => ("InitiatorRowsModel", "names", "[I", true)
  | 14 => ("InitiatorRowsModel", "states", "[I", true)
  | 15 => ("InitiatorRowsModel", "uses", "[I", true)
  | 16 => ("InitiatorRowsModel", "held", "[Z", true)
  | 17 => ("InitiatorRowsModel", "lone", "[Z", true)
  | 18 => ("InitiatorRowsModel", "needed", "[Z", true)
  | 19 => ("InitiatorRowsModel", "reached", "[Z", true)
  | 20 => ("InitiatorRowsModel", "came", "[J", true)
  | 21 => ("InitiatorRowsModel", "ran", "[J", true)
  | 22 => ("InitiatorRowsModel", "jobs", "I", false)
  | 23 => ("InitiatorRowsModel", "per", "J", false)
  | _ => ("InitiatorRowsModel", "most", "I", false)
def t_Mod : Nat → FieldType := fun k => match k with
  | 0 => .int
  | 1 => .long
  | 2 => .array .int
  | 3 => .array .int
  | 4 => .array .boolean
  | 5 => .int
  | 6 => .array .int
  | 7 => .array .int
  | 8 => .array .int
  | 9 => .array .int
  | 10 => .array .int
  | 11 => .array .int
  | 12 => .array .int
  | 13 => .array .int
  | 14 => .array .int
  | 15 => .array .int
  | 16 => .array .boolean
  | 17 => .array .boolean
  | 18 => .array .boolean
  | 19 => .array .boolean
  | 20 => .array .long
  | 21 => .array .long
  | 22 => .int
  | 23 => .long
  | _ => .int
theorem n_Mod : ∀ a, a < 25 → ∀ b, b < 25 → a ≠ b → (F_Mod a).2.1 ≠ (F_Mod b).2.1 := by decide +kernel
theorem t_Mod_ok : ∀ k, k < 25 → parseFieldDescriptor (F_Mod k).2.2.1 = some (t_Mod k) := by decide +kernel
theorem i_Mod : ∀ w ∈ u_ws R_Mod F_Mod 25, w ∈ w_tb := by decide +kernel
theorem def_Mod : ∀ j, j < 25 → defaultValue (t_Mod j) = vp_V [.int 0, .long 0, .null, .null, .null, .int 0, .null, .null, .null, .null, .null, .null, .null, .null, .null, .null, .null, .null, .null, .null, .null, .null, .int 0, .long 0, .int 0] j := by decide +kernel
theorem k_made_Mod : Cond.instantiable "InitiatorRowsModel" 25 ∈ w_tb := List.mem_filter.mpr ⟨List.mem_append_right _ (List.mem_of_getElem? (i := 538) (by decide +kernel)), rfl⟩
def w_cl : List vw_C := [(R_Rows, F_Rows, 12), (R_Job, F_Job, 10), (R_Load, F_Load, 5), (R_Ini, F_Ini, 3), (R_NS, F_NS, 2), (R_AL, F_AL, 3), (R_Mod, F_Mod, 25)]
/-- classes of a list's elements -/
def w_el (ci : Nat) : Prop := ci = 1 ∨ ci = 3
theorem k_cast_Job : Cond.castable "InitiatorRows$Job" "java/lang/Object" ∈ w_tb := List.mem_filter.mpr ⟨List.mem_append_right _ (List.mem_of_getElem? (i := 762) (by decide +kernel)), rfl⟩
theorem k_cast_Ini : Cond.castable "InitiatorRows$Initiator" "java/lang/Object" ∈ w_tb := List.mem_filter.mpr ⟨List.mem_append_right _ (List.mem_of_getElem? (i := 761) (by decide +kernel)), rfl⟩
theorem w_castO {ci : Nat} (h : w_el ci) : ∃ (C : String) (U : u_T) (N : Nat), w_cl[ci]? = some (C, U, N) ∧ Cond.castable C "java/lang/Object" ∈ w_tb := by
  rcases h with rfl | rfl
  · exact ⟨_, _, _, rfl, k_cast_Job⟩
  · exact ⟨_, _, _, rfl, k_cast_Ini⟩
theorem k_ini_Rows : Cond.initialized "InitiatorRows" ∈ w_tb := List.mem_filter.mpr ⟨List.mem_append_right _ (List.mem_of_getElem? (i := 1) (by decide +kernel)), rfl⟩
theorem k_ini_Ini : Cond.initialized "InitiatorRows$Initiator" ∈ w_tb := List.mem_filter.mpr ⟨List.mem_append_right _ (List.mem_of_getElem? (i := 8) (by decide +kernel)), rfl⟩
theorem k_ini_Job : Cond.initialized "InitiatorRows$Job" ∈ w_tb := List.mem_filter.mpr ⟨List.mem_append_right _ (List.mem_of_getElem? (i := 15) (by decide +kernel)), rfl⟩
theorem k_ini_Load : Cond.initialized "InitiatorRows$Load" ∈ w_tb := List.mem_filter.mpr ⟨List.mem_append_right _ (List.mem_of_getElem? (i := 5) (by decide +kernel)), rfl⟩
theorem k_ini_NS : Cond.initialized "InitiatorRows$NumberSet" ∈ w_tb := List.mem_filter.mpr ⟨List.mem_append_right _ (List.mem_of_getElem? (i := 6) (by decide +kernel)), rfl⟩
theorem k_ini_Mod : Cond.initialized "InitiatorRowsModel" ∈ w_tb := List.mem_filter.mpr ⟨List.mem_append_right _ (List.mem_of_getElem? (i := 7) (by decide +kernel)), rfl⟩
theorem k_ini_Math : Cond.initialized "java/lang/Math" ∈ w_tb := List.mem_filter.mpr ⟨List.mem_append_right _ (List.mem_of_getElem? (i := 10) (by decide +kernel)), rfl⟩
theorem k_ini_System : Cond.initialized "java/lang/System" ∈ w_tb := List.mem_filter.mpr ⟨List.mem_append_right _ (List.mem_of_getElem? (i := 12) (by decide +kernel)), rfl⟩
theorem k_ini_AbC : Cond.initialized "java/util/AbstractCollection" ∈ w_tb := List.mem_filter.mpr ⟨List.mem_append_right _ (List.mem_of_getElem? (i := 2) (by decide +kernel)), rfl⟩
theorem k_ini_AbL : Cond.initialized "java/util/AbstractList" ∈ w_tb := List.mem_filter.mpr ⟨List.mem_append_right _ (List.mem_of_getElem? (i := 3) (by decide +kernel)), rfl⟩
theorem k_ini_AL : Cond.initialized "java/util/ArrayList" ∈ w_tb := List.mem_filter.mpr ⟨List.mem_append_right _ (List.mem_of_getElem? (i := 4) (by decide +kernel)), rfl⟩
theorem k_ini_Arrs : Cond.initialized "java/util/Arrays" ∈ w_tb := List.mem_filter.mpr ⟨List.mem_append_right _ (List.mem_of_getElem? (i := 11) (by decide +kernel)), rfl⟩
theorem k_ini_Objs : Cond.initialized "java/util/Objects" ∈ w_tb := List.mem_filter.mpr ⟨List.mem_append_right _ (List.mem_of_getElem? (i := 13) (by decide +kernel)), rfl⟩
theorem k_ini_ASup : Cond.initialized "jdk/internal/util/ArraysSupport" ∈ w_tb := List.mem_filter.mpr ⟨List.mem_append_right _ (List.mem_of_getElem? (i := 9) (by decide +kernel)), rfl⟩
theorem k_ini_Prec : Cond.initialized "jdk/internal/util/Preconditions" ∈ w_tb := List.mem_filter.mpr ⟨List.mem_append_right _ (List.mem_of_getElem? (i := 14) (by decide +kernel)), rfl⟩
theorem k_copy_nat : Cond.native arraycopyName ∈ w_tb := List.mem_filter.mpr ⟨List.mem_append_right _ (List.mem_of_getElem? (i := 213) (by decide +kernel)), rfl⟩
theorem k_copy_stat : Cond.static arraycopyName ∈ w_tb := List.mem_filter.mpr ⟨List.mem_append_right _ (List.mem_of_getElem? (i := 212) (by decide +kernel)), rfl⟩
theorem k_gc_decl : Cond.declares ⟨"java/lang/Object", "getClass", "()Ljava/lang/Class;"⟩ ∈ w_tb := List.mem_filter.mpr ⟨List.mem_append_right _ (List.mem_of_getElem? (i := 756) (by decide +kernel)), rfl⟩
theorem k_gc_sel : Cond.selects "[Ljava/lang/Object;" ⟨"java/lang/Object", "getClass", "()Ljava/lang/Class;"⟩ ⟨"java/lang/Object", "getClass", "()Ljava/lang/Class;"⟩ ∈ w_tb := List.mem_filter.mpr ⟨List.mem_append_right _ (List.mem_of_getElem? (i := 755) (by decide +kernel)), rfl⟩
theorem k_gc_inst : Cond.instanceMethod ⟨"java/lang/Object", "getClass", "()Ljava/lang/Class;"⟩ ∈ w_tb := List.mem_filter.mpr ⟨List.mem_append_right _ (List.mem_of_getElem? (i := 191) (by decide +kernel)), rfl⟩
theorem k_gc_nat : Cond.native ⟨"java/lang/Object", "getClass", "()Ljava/lang/Class;"⟩ ∈ w_tb := List.mem_filter.mpr ⟨List.mem_append_right _ (List.mem_of_getElem? (i := 201) (by decide +kernel)), rfl⟩
theorem k_over_Object : Cond.arrayOver (.object "java/lang/Object") ∈ w_tb := List.mem_filter.mpr ⟨List.mem_append_right _ (List.mem_of_getElem? (i := 206) (by decide +kernel)), rfl⟩
theorem k_arr_int : Cond.arrayClass (newarray.typeOf .int) ∈ w_tb := List.mem_filter.mpr ⟨List.mem_append_right _ (List.mem_of_getElem? (i := 73) (by decide +kernel)), rfl⟩
theorem k_arr_long : Cond.arrayClass (newarray.typeOf .long) ∈ w_tb := List.mem_filter.mpr ⟨List.mem_append_right _ (List.mem_of_getElem? (i := 620) (by decide +kernel)), rfl⟩
theorem k_arr_boolean : Cond.arrayClass (newarray.typeOf .boolean) ∈ w_tb := List.mem_filter.mpr ⟨List.mem_append_right _ (List.mem_of_getElem? (i := 619) (by decide +kernel)), rfl⟩
theorem k_oi_inst : Cond.instanceMethod objectInit ∈ w_tb := List.mem_filter.mpr ⟨List.mem_append_right _ (List.mem_of_getElem? (i := 26) (by decide +kernel)), rfl⟩
set_option maxRecDepth 20000 in
theorem k_oi_code : Cond.code objectInit ⟨#[0xb1]⟩ 1 none ∈ w_tb := List.mem_filter.mpr ⟨List.mem_append_right _ (List.mem_of_getElem? (i := 27) rfl), rfl⟩
theorem k_same_AL_modCount : Cond.sameField "java/util/ArrayList" "java/util/AbstractList" "modCount" "I" ∈ w_tb := List.mem_filter.mpr ⟨List.mem_append_right _ (List.mem_of_getElem? (i := 46) (by decide +kernel)), rfl⟩
theorem k_math_max_static : Cond.static Lib.Math.max.name ∈ w_tb := List.mem_filter.mpr ⟨List.mem_append_right _ (List.mem_of_getElem? (i := 181) (by decide +kernel)), rfl⟩
set_option maxRecDepth 20000 in
theorem k_math_max_code : Cond.code Lib.Math.max.name Lib.Math.max.code 2 (some .int) ∈ w_tb := List.mem_filter.mpr ⟨List.mem_append_right _ (List.mem_of_getElem? (i := 182) rfl), rfl⟩
theorem k_math_min_static : Cond.static Lib.Math.min.name ∈ w_tb := List.mem_filter.mpr ⟨List.mem_append_right _ (List.mem_of_getElem? (i := 209) (by decide +kernel)), rfl⟩
set_option maxRecDepth 20000 in
theorem k_math_min_code : Cond.code Lib.Math.min.name Lib.Math.min.code 2 (some .int) ∈ w_tb := List.mem_filter.mpr ⟨List.mem_append_right _ (List.mem_of_getElem? (i := 210) rfl), rfl⟩
theorem k_math_min_long_static : Cond.static Lib.MathLoose.min_long.x ∈ w_tb := List.mem_filter.mpr ⟨List.mem_append_right _ (List.mem_of_getElem? (i := 391) (by decide +kernel)), rfl⟩
set_option maxRecDepth 20000 in
theorem k_math_min_long_code : Cond.code Lib.MathLoose.min_long.x Lib.MathLoose.min_long.code 4 (some .long) ∈ w_tb := List.mem_filter.mpr ⟨List.mem_append_right _ (List.mem_of_getElem? (i := 392) rfl), rfl⟩
