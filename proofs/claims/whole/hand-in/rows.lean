section
-- ===== PART A: goes FIRST, ahead of the names: the tables' words, and 'selects' of the private methods out of them =====
/-- a private method of a class that the tables say can be made, by its rows of tables_1 -/
def lw_okq (q : MethodName × Nat) : Prop := (q.1.cls ≠ "java/lang/invoke/MethodHandle" ∧ q.1.cls ≠ "java/lang/invoke/VarHandle") ∧ Cond.instantiable q.1.cls q.2 ∈ tables_1 ∧ Cond.privateMethod q.1 ∈ tables_1 ∧ Cond.instanceMethod q.1 ∈ tables_1
theorem lw_p0 : lw_okq (⟨"TimerWheels", "isDue", "(I)Z"⟩, 6) := ⟨⟨by decide +kernel, by decide +kernel⟩, List.mem_of_getElem? (i := 9) (by decide +kernel), List.mem_of_getElem? (i := 44) (by decide +kernel), List.mem_of_getElem? (i := 45) (by decide +kernel)⟩
theorem lw_p1 : lw_okq (⟨"java/lang/Throwable", "fillInStackTrace", "(I)Ljava/lang/Throwable;"⟩, 6) := ⟨⟨by decide +kernel, by decide +kernel⟩, List.mem_of_getElem? (i := 96) (by decide +kernel), List.mem_of_getElem? (i := 94) (by decide +kernel), List.mem_of_getElem? (i := 95) (by decide +kernel)⟩
theorem lw_p2 : lw_okq (⟨"TimerWheels", "firstDue", "()I"⟩, 6) := ⟨⟨by decide +kernel, by decide +kernel⟩, List.mem_of_getElem? (i := 9) (by decide +kernel), List.mem_of_getElem? (i := 159) (by decide +kernel), List.mem_of_getElem? (i := 160) (by decide +kernel)⟩
theorem lw_p3 : lw_okq (⟨"TimerWheels", "comesBefore", "(II)Z"⟩, 6) := ⟨⟨by decide +kernel, by decide +kernel⟩, List.mem_of_getElem? (i := 9) (by decide +kernel), List.mem_of_getElem? (i := 163) (by decide +kernel), List.mem_of_getElem? (i := 164) (by decide +kernel)⟩
theorem lw_p4 : lw_okq (⟨"TimerWheels", "countDue", "()I"⟩, 6) := ⟨⟨by decide +kernel, by decide +kernel⟩, List.mem_of_getElem? (i := 9) (by decide +kernel), List.mem_of_getElem? (i := 178) (by decide +kernel), List.mem_of_getElem? (i := 179) (by decide +kernel)⟩
theorem lw_p5 : lw_okq (⟨"TimerWheels", "countThere", "()I"⟩, 6) := ⟨⟨by decide +kernel, by decide +kernel⟩, List.mem_of_getElem? (i := 9) (by decide +kernel), List.mem_of_getElem? (i := 207) (by decide +kernel), List.mem_of_getElem? (i := 208) (by decide +kernel)⟩
theorem lw_p6 : lw_okq (⟨"TimerWheelsModel", "fail", "(I)I"⟩, 7) := ⟨⟨by decide +kernel, by decide +kernel⟩, List.mem_of_getElem? (i := 212) (by decide +kernel), List.mem_of_getElem? (i := 249) (by decide +kernel), List.mem_of_getElem? (i := 250) (by decide +kernel)⟩
theorem lw_p7 : lw_okq (⟨"TimerWheelsModel", "due", "(I)Z"⟩, 7) := ⟨⟨by decide +kernel, by decide +kernel⟩, List.mem_of_getElem? (i := 212) (by decide +kernel), List.mem_of_getElem? (i := 261) (by decide +kernel), List.mem_of_getElem? (i := 262) (by decide +kernel)⟩
theorem lw_p8 : lw_okq (⟨"TimerWheelsModel", "dues", "()I"⟩, 7) := ⟨⟨by decide +kernel, by decide +kernel⟩, List.mem_of_getElem? (i := 212) (by decide +kernel), List.mem_of_getElem? (i := 275) (by decide +kernel), List.mem_of_getElem? (i := 276) (by decide +kernel)⟩
def lw_privs_1 : List (MethodName × Nat) := [(⟨"TimerWheels", "isDue", "(I)Z"⟩, 6), (⟨"java/lang/Throwable", "fillInStackTrace", "(I)Ljava/lang/Throwable;"⟩, 6), (⟨"TimerWheels", "firstDue", "()I"⟩, 6), (⟨"TimerWheels", "comesBefore", "(II)Z"⟩, 6), (⟨"TimerWheels", "countDue", "()I"⟩, 6), (⟨"TimerWheels", "countThere", "()I"⟩, 6), (⟨"TimerWheelsModel", "fail", "(I)I"⟩, 7), (⟨"TimerWheelsModel", "due", "(I)Z"⟩, 7), (⟨"TimerWheelsModel", "dues", "()I"⟩, 7)]
theorem lw_r1 : ∀ q ∈ lw_privs_1, lw_okq q := List.forall_mem_cons.mpr ⟨lw_p0, List.forall_mem_cons.mpr ⟨lw_p1, List.forall_mem_cons.mpr ⟨lw_p2, List.forall_mem_cons.mpr ⟨lw_p3, List.forall_mem_cons.mpr ⟨lw_p4, List.forall_mem_cons.mpr ⟨lw_p5, List.forall_mem_cons.mpr ⟨lw_p6, List.forall_mem_cons.mpr ⟨lw_p7, List.forall_mem_cons.mpr ⟨lw_p8, fun _ h => absurd h List.not_mem_nil⟩⟩⟩⟩⟩⟩⟩⟩⟩
def lw_privs : List (MethodName × Nat) := lw_privs_1
def lw_tbl : List Cond := k2_sels lw_privs ++ tables_1
theorem lw_privs_ok : ∀ q ∈ lw_privs, lw_okq q := lw_r1
/-! ONE list of words serves all our contracts: the good words of lw_tbl -/
def tw_T : List Cond := lw_tbl.filter goodWord
theorem tw_good {w : Cond} (h : w ∈ tw_T) : (w.onTables && w.keeps) = true ∨ ∃ ty, w = .arrayClass ty := good_of_word (List.mem_filter.mp h).2
theorem tw_mem {w : Cond} (i : Nat) (h : tables_1[i]? = some w) (hg : goodWord w = true) : w ∈ tw_T := List.mem_filter.mpr ⟨List.mem_append_right _ (List.mem_of_getElem? h), hg⟩
theorem tw_memP {w : Cond} (i : Nat) (h : (k2_sels lw_privs)[i]? = some w) (hg : goodWord w = true) : w ∈ tw_T := List.mem_filter.mpr ⟨List.mem_append_left _ (List.mem_of_getElem? h), hg⟩
theorem tw_gV {own C : String} {idx : Nat} {y : MethodName} {k : Cond} (h1 : Cond.methodLink own idx y ∈ tw_T) (h2 : Cond.instanceMethod y ∈ tw_T) (h3 : Cond.selects C y y ∈ tw_T) (h4 : Cond.initialized C ∈ tw_T) (h5 : k ∈ tw_T) : GoodIn tw_T (wsV own idx C y (k :: tw_T)) := by
  intro w hw
  have h : w ∈ tw_T := by
    simp only [wsV, List.cons_append, List.nil_append, List.mem_cons] at hw
    rcases hw with rfl | rfl | rfl | rfl | rfl | h
    · exact h1
    · exact h2
    · exact h3
    · exact h4
    · exact h5
    · exact h
  exact ⟨h, tw_good h⟩
theorem tw_gS {own : String} {idx : Nat} {y : MethodName} {k : Cond} (h1 : Cond.methodLink own idx y ∈ tw_T) (h2 : Cond.static y ∈ tw_T) (h3 : Cond.initialized own ∈ tw_T) (h5 : k ∈ tw_T) : GoodIn tw_T (wsS own idx y (k :: tw_T)) := by
  intro w hw
  have h : w ∈ tw_T := by
    simp only [wsS, List.cons_append, List.nil_append, List.mem_cons] at hw
    rcases hw with rfl | rfl | rfl | rfl | h
    · exact h1
    · exact h2
    · exact h3
    · exact h5
    · exact h
  exact ⟨h, tw_good h⟩
theorem tw_gI {k : Cond} (h5 : k ∈ tw_T) : GoodIn tw_T (k :: tw_T) := by
  intro w hw
  have h : w ∈ tw_T := by
    rcases List.mem_cons.mp hw with rfl | h
    · exact h5
    · exact h
  exact ⟨h, tw_good h⟩
end
section
-- names: classes, fields, methods (RX the class, RM the reference, RL the law)
abbrev RX : String := "TimerWheels"
abbrev RM : String := "TimerWheelsModel"
abbrev RL : String := "TimerWheelsLaw"
def FX : u_T := fun k => match k with
  | 0 => ("TimerWheels", "there", "[Z", true)
  | 1 => ("TimerWheels", "times", "[J", true)
  | 2 => ("TimerWheels", "priorities", "[I", true)
  | 3 => ("TimerWheels", "ages", "[I", true)
  | 4 => ("TimerWheels", "clock", "J", false)
  | _ => ("TimerWheels", "nextAge", "I", false)
def TX : Nat → FieldType := fun k => match k with
  | 0 => .array .boolean
  | 1 => .array .long
  | 2 => .array .int
  | 3 => .array .int
  | 4 => .long
  | _ => .int
theorem nX_ : ∀ a, a < 6 → ∀ b, b < 6 → a ≠ b → (FX a).2.1 ≠ (FX b).2.1 := by decide +kernel
theorem tX_ok : ∀ k, k < 6 → parseFieldDescriptor (FX k).2.2.1 = some (TX k) := by decide +kernel
def FM : u_T := fun k => match k with
  | 0 => ("TimerWheelsModel", "failed", "I", false)
  | 1 => ("TimerWheelsModel", "there", "[Z", true)
  | 2 => ("TimerWheelsModel", "times", "[J", true)
  | 3 => ("TimerWheelsModel", "priorities", "[I", true)
  | 4 => ("TimerWheelsModel", "ages", "[I", true)
  | 5 => ("TimerWheelsModel", "made", "I", false)
  | _ => ("TimerWheelsModel", "clock", "J", false)
def TM : Nat → FieldType := fun k => match k with
  | 0 => .int
  | 1 => .array .boolean
  | 2 => .array .long
  | 3 => .array .int
  | 4 => .array .int
  | 5 => .int
  | _ => .long
theorem nM_ : ∀ a, a < 7 → ∀ b, b < 7 → a ≠ b → (FM a).2.1 ≠ (FM b).2.1 := by decide +kernel
theorem tM_ok : ∀ k, k < 7 → parseFieldDescriptor (FM k).2.2.1 = some (TM k) := by decide +kernel
abbrev tw_cl : List vw_C := [(RX, FX, 6), (RM, FM, 7)]
abbrev bX_init : ByteArray := prog_1_method_1_code
def yX_init : MethodName := ⟨RX, "<init>", "()V"⟩
abbrev bX_least : ByteArray := prog_1_method_5_code
def yX_least : MethodName := ⟨RX, "least", "()J"⟩
abbrev bX_isDue : ByteArray := prog_1_method_11_code
def yX_isDue : MethodName := ⟨RX, "isDue", "(I)Z"⟩
abbrev bL_set : ByteArray := method_3_code
def yL_set : MethodName := ⟨RL, "set", "(LTimerWheels;IJI[J)I"⟩
abbrev bX_set : ByteArray := prog_1_method_2_code
def yX_set : MethodName := ⟨RX, "set", "(IJI)I"⟩
abbrev bX_requireTimerNumber : ByteArray := prog_1_method_10_code
def yX_requireTimerNumber : MethodName := ⟨RX, "requireTimerNumber", "(I)V"⟩
abbrev bL_drop : ByteArray := method_4_code
def yL_drop : MethodName := ⟨RL, "drop", "(LTimerWheels;I[J)I"⟩
abbrev bX_drop : ByteArray := prog_1_method_3_code
def yX_drop : MethodName := ⟨RX, "drop", "(I)J"⟩
abbrev bL_take : ByteArray := method_5_code
def yL_take : MethodName := ⟨RL, "take", "(LTimerWheels;[J)I"⟩
abbrev bX_take : ByteArray := prog_1_method_4_code
def yX_take : MethodName := ⟨RX, "take", "()I"⟩
abbrev bX_firstDue : ByteArray := prog_1_method_12_code
def yX_firstDue : MethodName := ⟨RX, "firstDue", "()I"⟩
abbrev bX_comesBefore : ByteArray := prog_1_method_13_code
def yX_comesBefore : MethodName := ⟨RX, "comesBefore", "(II)Z"⟩
abbrev bL_go : ByteArray := method_6_code
def yL_go : MethodName := ⟨RL, "go", "(LTimerWheels;J[J)I"⟩
abbrev bX_go : ByteArray := prog_1_method_6_code
def yX_go : MethodName := ⟨RX, "go", "(J)I"⟩
abbrev bX_countDue : ByteArray := prog_1_method_15_code
def yX_countDue : MethodName := ⟨RX, "countDue", "()I"⟩
abbrev bL_skip : ByteArray := method_7_code
def yL_skip : MethodName := ⟨RL, "skip", "(LTimerWheels;[J)I"⟩
abbrev bX_skip : ByteArray := prog_1_method_7_code
def yX_skip : MethodName := ⟨RX, "skip", "()I"⟩
abbrev bL_timer : ByteArray := method_8_code
def yL_timer : MethodName := ⟨RL, "timer", "(LTimerWheels;II[J)I"⟩
abbrev bX_timer : ByteArray := prog_1_method_8_code
def yX_timer : MethodName := ⟨RX, "timer", "(II)J"⟩
abbrev bL_count : ByteArray := method_9_code
def yL_count : MethodName := ⟨RL, "count", "(LTimerWheels;I[J)I"⟩
abbrev bX_count : ByteArray := prog_1_method_9_code
def yX_count : MethodName := ⟨RX, "count", "(I)J"⟩
abbrev bX_countThere : ByteArray := prog_1_method_14_code
def yX_countThere : MethodName := ⟨RX, "countThere", "()I"⟩
abbrev bM_init : ByteArray := prog_3_method_1_code
def yM_init : MethodName := ⟨RM, "<init>", "()V"⟩
abbrev bM_thrown : ByteArray := prog_3_method_2_code
def yM_thrown : MethodName := ⟨RM, "thrown", "()I"⟩
abbrev bM_set : ByteArray := prog_3_method_6_code
def yM_set : MethodName := ⟨RM, "set", "(IJI)I"⟩
abbrev bM_fail : ByteArray := prog_3_method_3_code
def yM_fail : MethodName := ⟨RM, "fail", "(I)I"⟩
abbrev bM_drop : ByteArray := prog_3_method_7_code
def yM_drop : MethodName := ⟨RM, "drop", "(I)J"⟩
abbrev bM_take : ByteArray := prog_3_method_8_code
def yM_take : MethodName := ⟨RM, "take", "()I"⟩
abbrev bM_due : ByteArray := prog_3_method_4_code
def yM_due : MethodName := ⟨RM, "due", "(I)Z"⟩
abbrev bM_least : ByteArray := prog_3_method_9_code
def yM_least : MethodName := ⟨RM, "least", "()J"⟩
abbrev bM_go : ByteArray := prog_3_method_10_code
def yM_go : MethodName := ⟨RM, "go", "(J)I"⟩
abbrev bM_dues : ByteArray := prog_3_method_5_code
def yM_dues : MethodName := ⟨RM, "dues", "()I"⟩
abbrev bM_skip : ByteArray := prog_3_method_11_code
def yM_skip : MethodName := ⟨RM, "skip", "()I"⟩
abbrev bM_timer : ByteArray := prog_3_method_12_code
def yM_timer : MethodName := ⟨RM, "timer", "(II)J"⟩
abbrev bM_count : ByteArray := prog_3_method_13_code
def yM_count : MethodName := ⟨RM, "count", "(I)J"⟩
abbrev bL_law : ByteArray := code
def yL_law : MethodName := ⟨RL, "law", "([I)Z"⟩
-- the words, by their places in tables_1
theorem tt_0 : Cond.initialized RL ∈ tw_T := tw_mem 0 (by decide +kernel) (by decide +kernel)
theorem tt_1 : Cond.initialized RX ∈ tw_T := tw_mem 1 (by decide +kernel) (by decide +kernel)
theorem tt_2 : Cond.initialized RM ∈ tw_T := tw_mem 2 (by decide +kernel) (by decide +kernel)
theorem tt_3 : Cond.initialized "java/lang/Throwable" ∈ tw_T := tw_mem 3 (by decide +kernel) (by decide +kernel)
theorem tt_4 : Cond.initialized "java/lang/Exception" ∈ tw_T := tw_mem 4 (by decide +kernel) (by decide +kernel)
theorem tt_5 : Cond.initialized "java/lang/RuntimeException" ∈ tw_T := tw_mem 5 (by decide +kernel) (by decide +kernel)
theorem tt_6 : Cond.initialized "java/lang/IllegalArgumentException" ∈ tw_T := tw_mem 6 (by decide +kernel) (by decide +kernel)
theorem tt_7 : Cond.initialized "java/util/NoSuchElementException" ∈ tw_T := tw_mem 7 (by decide +kernel) (by decide +kernel)
theorem tt_8 : Cond.classLink RL 8 RX ∈ tw_T := tw_mem 8 (by decide +kernel) (by decide +kernel)
theorem tt_9 : Cond.instantiable RX 6 ∈ tw_T := tw_mem 9 (by decide +kernel) (by decide +kernel)
theorem tt_10 : Cond.methodLink RL 39 yX_init ∈ tw_T := tw_mem 10 (by decide +kernel) (by decide +kernel)
theorem tt_11 : Cond.instanceMethod yX_init ∈ tw_T := tw_mem 11 (by decide +kernel) (by decide +kernel)
theorem tt_12 : Cond.code yX_init prog_1_method_1_code 1 none ∈ tw_T := tw_mem 12 (by decide +kernel) (by decide +kernel)
theorem tt_13 : Cond.methodLink RX 1 Lib.objectInit ∈ tw_T := tw_mem 13 (by decide +kernel) (by decide +kernel)
theorem tt_14 : Cond.instanceMethod Lib.objectInit ∈ tw_T := tw_mem 14 (by decide +kernel) (by decide +kernel)
theorem tt_15 : Cond.code Lib.objectInit object_method_1_code 1 none ∈ tw_T := tw_mem 15 (by decide +kernel) (by decide +kernel)
theorem tt_16 : Cond.fieldLink RX 9 RX "there" "[Z" ∈ tw_T := tw_mem 16 (by decide +kernel) (by decide +kernel)
theorem tt_17 : Cond.fieldLink RX 13 RX "times" "[J" ∈ tw_T := tw_mem 17 (by decide +kernel) (by decide +kernel)
theorem tt_18 : Cond.fieldLink RX 17 RX "priorities" "[I" ∈ tw_T := tw_mem 18 (by decide +kernel) (by decide +kernel)
theorem tt_19 : Cond.fieldLink RX 21 RX "ages" "[I" ∈ tw_T := tw_mem 19 (by decide +kernel) (by decide +kernel)
theorem tt_20 : Cond.fieldLink RX 24 RX "clock" "J" ∈ tw_T := tw_mem 20 (by decide +kernel) (by decide +kernel)
theorem tt_21 : Cond.fieldLink RX 28 RX "nextAge" "I" ∈ tw_T := tw_mem 21 (by decide +kernel) (by decide +kernel)
theorem tt_22 : Cond.laysFinal RX RX "there" "[Z" ∈ tw_T := tw_mem 22 (by decide +kernel) (by decide +kernel)
theorem tt_24 : Cond.laysFinal RX RX "times" "[J" ∈ tw_T := tw_mem 24 (by decide +kernel) (by decide +kernel)
theorem tt_26 : Cond.laysFinal RX RX "priorities" "[I" ∈ tw_T := tw_mem 26 (by decide +kernel) (by decide +kernel)
theorem tt_28 : Cond.laysFinal RX RX "ages" "[I" ∈ tw_T := tw_mem 28 (by decide +kernel) (by decide +kernel)
theorem tt_30 : Cond.lays RX RX "clock" "J" ∈ tw_T := tw_mem 30 (by decide +kernel) (by decide +kernel)
theorem tt_32 : Cond.lays RX RX "nextAge" "I" ∈ tw_T := tw_mem 32 (by decide +kernel) (by decide +kernel)
theorem tt_34 : Cond.superclass RX "java/lang/Object" ∈ tw_T := tw_mem 34 (by decide +kernel) (by decide +kernel)
theorem tt_35 : Cond.arrayClass .boolean ∈ tw_T := tw_mem 35 (by decide +kernel) (by decide +kernel)
theorem tt_36 : Cond.arrayClass .long ∈ tw_T := tw_mem 36 (by decide +kernel) (by decide +kernel)
theorem tt_37 : Cond.arrayClass .int ∈ tw_T := tw_mem 37 (by decide +kernel) (by decide +kernel)
theorem tt_38 : Cond.methodLink RL 62 yX_least ∈ tw_T := tw_mem 38 (by decide +kernel) (by decide +kernel)
theorem tt_39 : Cond.instanceMethod yX_least ∈ tw_T := tw_mem 39 (by decide +kernel) (by decide +kernel)
theorem tt_40 : Cond.selects RX yX_least yX_least ∈ tw_T := tw_mem 40 (by decide +kernel) (by decide +kernel)
theorem tt_41 : Cond.code yX_least prog_1_method_5_code 4 (some .long) ∈ tw_T := tw_mem 41 (by decide +kernel) (by decide +kernel)
theorem tt_42 : Cond.constantLong RX 56 (-1) ∈ tw_T := tw_mem 42 (by decide +kernel) (by decide +kernel)
theorem tt_43 : Cond.methodLink RX 58 yX_isDue ∈ tw_T := tw_mem 43 (by decide +kernel) (by decide +kernel)
theorem tt_45 : Cond.instanceMethod yX_isDue ∈ tw_T := tw_mem 45 (by decide +kernel) (by decide +kernel)
theorem tt_46 : Cond.code yX_isDue prog_1_method_11_code 2 (some .boolean) ∈ tw_T := tw_mem 46 (by decide +kernel) (by decide +kernel)
theorem tt_47 : Cond.methodLink RL 45 yL_set ∈ tw_T := tw_mem 47 (by decide +kernel) (by decide +kernel)
theorem tt_48 : Cond.static yL_set ∈ tw_T := tw_mem 48 (by decide +kernel) (by decide +kernel)
theorem tt_49 : Cond.codeWith yL_set method_3_code 7 (some .int) [(0, 13, 16, 13)] ∈ tw_T := tw_mem 49 (by decide +kernel) (by decide +kernel)
theorem tt_50 : Cond.classLink RL 13 "java/lang/IllegalArgumentException" ∈ tw_T := tw_mem 50 (by decide +kernel) (by decide +kernel)
theorem tt_51 : Cond.methodLink RL 7 yX_set ∈ tw_T := tw_mem 51 (by decide +kernel) (by decide +kernel)
theorem tt_52 : Cond.instanceMethod yX_set ∈ tw_T := tw_mem 52 (by decide +kernel) (by decide +kernel)
theorem tt_53 : Cond.selects RX yX_set yX_set ∈ tw_T := tw_mem 53 (by decide +kernel) (by decide +kernel)
theorem tt_54 : Cond.code yX_set prog_1_method_2_code 5 (some .int) ∈ tw_T := tw_mem 54 (by decide +kernel) (by decide +kernel)
theorem tt_55 : Cond.methodLink RX 32 yX_requireTimerNumber ∈ tw_T := tw_mem 55 (by decide +kernel) (by decide +kernel)
theorem tt_56 : Cond.static yX_requireTimerNumber ∈ tw_T := tw_mem 56 (by decide +kernel) (by decide +kernel)
theorem tt_57 : Cond.code yX_requireTimerNumber prog_1_method_10_code 1 none ∈ tw_T := tw_mem 57 (by decide +kernel) (by decide +kernel)
theorem tt_58 : Cond.classLink RX 38 "java/lang/IllegalArgumentException" ∈ tw_T := tw_mem 58 (by decide +kernel) (by decide +kernel)
theorem tt_59 : Cond.instantiable "java/lang/IllegalArgumentException" 6 ∈ tw_T := tw_mem 59 (by decide +kernel) (by decide +kernel)
theorem tt_67 : Cond.selects "java/lang/IllegalArgumentException" ⟨"java/lang/Throwable", "fillInStackTrace", "(I)Ljava/lang/Throwable;"⟩ ⟨"java/lang/Throwable", "fillInStackTrace", "(I)Ljava/lang/Throwable;"⟩ ∈ tw_T := tw_mem 67 (by decide +kernel) (by decide +kernel)
theorem tt_68 : Cond.selects "java/lang/IllegalArgumentException" ⟨"java/lang/Throwable", "fillInStackTrace", "()Ljava/lang/Throwable;"⟩ ⟨"java/lang/Throwable", "fillInStackTrace", "()Ljava/lang/Throwable;"⟩ ∈ tw_T := tw_mem 68 (by decide +kernel) (by decide +kernel)
theorem tt_69 : Cond.lays "java/lang/IllegalArgumentException" "java/lang/Throwable" "cause" "Ljava/lang/Throwable;" ∈ tw_T := tw_mem 69 (by decide +kernel) (by decide +kernel)
theorem tt_70 : Cond.lays "java/lang/Throwable" "java/lang/Throwable" "cause" "Ljava/lang/Throwable;" ∈ tw_T := tw_mem 70 (by decide +kernel) (by decide +kernel)
theorem tt_71 : Cond.lays "java/lang/IllegalArgumentException" "java/lang/Throwable" "stackTrace" "[Ljava/lang/StackTraceElement;" ∈ tw_T := tw_mem 71 (by decide +kernel) (by decide +kernel)
theorem tt_72 : Cond.lays "java/lang/Throwable" "java/lang/Throwable" "stackTrace" "[Ljava/lang/StackTraceElement;" ∈ tw_T := tw_mem 72 (by decide +kernel) (by decide +kernel)
theorem tt_73 : Cond.lays "java/lang/IllegalArgumentException" "java/lang/Throwable" "suppressedExceptions" "Ljava/util/List;" ∈ tw_T := tw_mem 73 (by decide +kernel) (by decide +kernel)
theorem tt_74 : Cond.lays "java/lang/Throwable" "java/lang/Throwable" "suppressedExceptions" "Ljava/util/List;" ∈ tw_T := tw_mem 74 (by decide +kernel) (by decide +kernel)
theorem tt_75 : Cond.lays "java/lang/IllegalArgumentException" "java/lang/Throwable" "detailMessage" "Ljava/lang/String;" ∈ tw_T := tw_mem 75 (by decide +kernel) (by decide +kernel)
theorem tt_76 : Cond.lays "java/lang/Throwable" "java/lang/Throwable" "detailMessage" "Ljava/lang/String;" ∈ tw_T := tw_mem 76 (by decide +kernel) (by decide +kernel)
theorem tt_77 : Cond.lays "java/lang/IllegalArgumentException" "java/lang/Throwable" "backtrace" "Ljava/lang/Object;" ∈ tw_T := tw_mem 77 (by decide +kernel) (by decide +kernel)
theorem tt_78 : Cond.lays "java/lang/Throwable" "java/lang/Throwable" "backtrace" "Ljava/lang/Object;" ∈ tw_T := tw_mem 78 (by decide +kernel) (by decide +kernel)
theorem tt_79 : Cond.fieldLink "java/lang/Throwable" 198 "java/lang/Throwable" "backtrace" "Ljava/lang/Object;" ∈ tw_T := tw_mem 79 (by decide +kernel) (by decide +kernel)
theorem tt_80 : Cond.superclass "java/lang/Throwable" "java/lang/Object" ∈ tw_T := tw_mem 80 (by decide +kernel) (by decide +kernel)
theorem tt_81 : Cond.instanceMethod ⟨"java/lang/Throwable", "<init>", "()V"⟩ ∈ tw_T := tw_mem 81 (by decide +kernel) (by decide +kernel)
theorem tt_82 : Cond.code ⟨"java/lang/Throwable", "<init>", "()V"⟩ prog_8_method_1_code 1 none ∈ tw_T := tw_mem 82 (by decide +kernel) (by decide +kernel)
theorem tt_83 : Cond.methodLink "java/lang/Throwable" 1 Lib.objectInit ∈ tw_T := tw_mem 83 (by decide +kernel) (by decide +kernel)
theorem tt_84 : Cond.fieldLink "java/lang/Throwable" 13 "java/lang/Throwable" "UNASSIGNED_STACK" "[Ljava/lang/StackTraceElement;" ∈ tw_T := tw_mem 84 (by decide +kernel) (by decide +kernel)
theorem tt_86 : Cond.fieldLink "java/lang/Throwable" 20 "java/lang/Throwable" "SUPPRESSED_SENTINEL" "Ljava/util/List;" ∈ tw_T := tw_mem 86 (by decide +kernel) (by decide +kernel)
theorem tt_88 : Cond.methodLink "java/lang/Throwable" 27 ⟨"java/lang/Throwable", "fillInStackTrace", "()Ljava/lang/Throwable;"⟩ ∈ tw_T := tw_mem 88 (by decide +kernel) (by decide +kernel)
theorem tt_89 : Cond.instanceMethod ⟨"java/lang/Throwable", "fillInStackTrace", "()Ljava/lang/Throwable;"⟩ ∈ tw_T := tw_mem 89 (by decide +kernel) (by decide +kernel)
theorem tt_90 : Cond.sameMethod "java/lang/Throwable" "java/lang/Throwable" "fillInStackTrace" "()Ljava/lang/Throwable;" ∈ tw_T := tw_mem 90 (by decide +kernel) (by decide +kernel)
theorem tt_91 : Cond.selects "java/util/NoSuchElementException" ⟨"java/lang/Throwable", "fillInStackTrace", "()Ljava/lang/Throwable;"⟩ ⟨"java/lang/Throwable", "fillInStackTrace", "()Ljava/lang/Throwable;"⟩ ∈ tw_T := tw_mem 91 (by decide +kernel) (by decide +kernel)
theorem tt_92 : Cond.codeSync ⟨"java/lang/Throwable", "fillInStackTrace", "()Ljava/lang/Throwable;"⟩ prog_8_method_18_code 1 (some (.object "java/lang/Throwable")) ∈ tw_T := tw_mem 92 (by decide +kernel) (by decide +kernel)
theorem tt_93 : Cond.methodLink "java/lang/Throwable" 202 ⟨"java/lang/Throwable", "fillInStackTrace", "(I)Ljava/lang/Throwable;"⟩ ∈ tw_T := tw_mem 93 (by decide +kernel) (by decide +kernel)
theorem tt_95 : Cond.instanceMethod ⟨"java/lang/Throwable", "fillInStackTrace", "(I)Ljava/lang/Throwable;"⟩ ∈ tw_T := tw_mem 95 (by decide +kernel) (by decide +kernel)
theorem tt_96 : Cond.instantiable "java/lang/Throwable" 6 ∈ tw_T := tw_mem 96 (by decide +kernel) (by decide +kernel)
theorem tt_97 : Cond.native ⟨"java/lang/Throwable", "fillInStackTrace", "(I)Ljava/lang/Throwable;"⟩ ∈ tw_T := tw_mem 97 (by decide +kernel) (by decide +kernel)
theorem tt_99 : Cond.methodLink RX 42 ⟨"java/lang/IllegalArgumentException", "<init>", "(Ljava/lang/String;)V"⟩ ∈ tw_T := tw_mem 99 (by decide +kernel) (by decide +kernel)
theorem tt_100 : Cond.instanceMethod ⟨"java/lang/IllegalArgumentException", "<init>", "(Ljava/lang/String;)V"⟩ ∈ tw_T := tw_mem 100 (by decide +kernel) (by decide +kernel)
theorem tt_101 : Cond.code ⟨"java/lang/IllegalArgumentException", "<init>", "(Ljava/lang/String;)V"⟩ prog_5_method_2_code 2 none ∈ tw_T := tw_mem 101 (by decide +kernel) (by decide +kernel)
theorem tt_102 : Cond.methodLink "java/lang/IllegalArgumentException" 7 ⟨"java/lang/RuntimeException", "<init>", "(Ljava/lang/String;)V"⟩ ∈ tw_T := tw_mem 102 (by decide +kernel) (by decide +kernel)
theorem tt_103 : Cond.instanceMethod ⟨"java/lang/RuntimeException", "<init>", "(Ljava/lang/String;)V"⟩ ∈ tw_T := tw_mem 103 (by decide +kernel) (by decide +kernel)
theorem tt_104 : Cond.code ⟨"java/lang/RuntimeException", "<init>", "(Ljava/lang/String;)V"⟩ prog_6_method_2_code 2 none ∈ tw_T := tw_mem 104 (by decide +kernel) (by decide +kernel)
theorem tt_105 : Cond.methodLink "java/lang/RuntimeException" 7 ⟨"java/lang/Exception", "<init>", "(Ljava/lang/String;)V"⟩ ∈ tw_T := tw_mem 105 (by decide +kernel) (by decide +kernel)
theorem tt_106 : Cond.instanceMethod ⟨"java/lang/Exception", "<init>", "(Ljava/lang/String;)V"⟩ ∈ tw_T := tw_mem 106 (by decide +kernel) (by decide +kernel)
theorem tt_107 : Cond.code ⟨"java/lang/Exception", "<init>", "(Ljava/lang/String;)V"⟩ prog_4_method_2_code 2 none ∈ tw_T := tw_mem 107 (by decide +kernel) (by decide +kernel)
theorem tt_108 : Cond.methodLink "java/lang/Exception" 7 ⟨"java/lang/Throwable", "<init>", "(Ljava/lang/String;)V"⟩ ∈ tw_T := tw_mem 108 (by decide +kernel) (by decide +kernel)
theorem tt_109 : Cond.instanceMethod ⟨"java/lang/Throwable", "<init>", "(Ljava/lang/String;)V"⟩ ∈ tw_T := tw_mem 109 (by decide +kernel) (by decide +kernel)
theorem tt_110 : Cond.code ⟨"java/lang/Throwable", "<init>", "(Ljava/lang/String;)V"⟩ prog_8_method_2_code 2 none ∈ tw_T := tw_mem 110 (by decide +kernel) (by decide +kernel)
theorem tt_112 : Cond.fieldLink "java/lang/Throwable" 31 "java/lang/Throwable" "detailMessage" "Ljava/lang/String;" ∈ tw_T := tw_mem 112 (by decide +kernel) (by decide +kernel)
theorem tt_113 : Cond.fieldLink "java/lang/Throwable" 7 "java/lang/Throwable" "cause" "Ljava/lang/Throwable;" ∈ tw_T := tw_mem 113 (by decide +kernel) (by decide +kernel)
theorem tt_114 : Cond.fieldLink "java/lang/Throwable" 17 "java/lang/Throwable" "stackTrace" "[Ljava/lang/StackTraceElement;" ∈ tw_T := tw_mem 114 (by decide +kernel) (by decide +kernel)
theorem tt_115 : Cond.fieldLink "java/lang/Throwable" 24 "java/lang/Throwable" "suppressedExceptions" "Ljava/util/List;" ∈ tw_T := tw_mem 115 (by decide +kernel) (by decide +kernel)
theorem tt_120 : Cond.lays "java/lang/IllegalArgumentException" "java/lang/Throwable" "depth" "I" ∈ tw_T := tw_mem 120 (by decide +kernel) (by decide +kernel)
theorem tt_123 : Cond.superclass "java/lang/IllegalArgumentException" "java/lang/RuntimeException" ∈ tw_T := tw_mem 123 (by decide +kernel) (by decide +kernel)
theorem tt_124 : Cond.arrayClass .byte ∈ tw_T := tw_mem 124 (by decide +kernel) (by decide +kernel)
theorem tt_125 : Cond.constantLong RX 36 (70368744177664) ∈ tw_T := tw_mem 125 (by decide +kernel) (by decide +kernel)
theorem tt_127 : Cond.methodLink RL 54 yL_drop ∈ tw_T := tw_mem 127 (by decide +kernel) (by decide +kernel)
theorem tt_128 : Cond.static yL_drop ∈ tw_T := tw_mem 128 (by decide +kernel) (by decide +kernel)
theorem tt_129 : Cond.codeWith yL_drop method_4_code 4 (some .int) [(0, 8, 11, 13), (0, 8, 14, 19)] ∈ tw_T := tw_mem 129 (by decide +kernel) (by decide +kernel)
theorem tt_130 : Cond.classLink RL 19 "java/util/NoSuchElementException" ∈ tw_T := tw_mem 130 (by decide +kernel) (by decide +kernel)
theorem tt_131 : Cond.methodLink RL 15 yX_drop ∈ tw_T := tw_mem 131 (by decide +kernel) (by decide +kernel)
theorem tt_132 : Cond.instanceMethod yX_drop ∈ tw_T := tw_mem 132 (by decide +kernel) (by decide +kernel)
theorem tt_133 : Cond.selects RX yX_drop yX_drop ∈ tw_T := tw_mem 133 (by decide +kernel) (by decide +kernel)
theorem tt_134 : Cond.code yX_drop prog_1_method_3_code 2 (some .long) ∈ tw_T := tw_mem 134 (by decide +kernel) (by decide +kernel)
theorem tt_135 : Cond.classLink RX 45 "java/util/NoSuchElementException" ∈ tw_T := tw_mem 135 (by decide +kernel) (by decide +kernel)
theorem tt_136 : Cond.instantiable "java/util/NoSuchElementException" 6 ∈ tw_T := tw_mem 136 (by decide +kernel) (by decide +kernel)
theorem tt_138 : Cond.selects "java/util/NoSuchElementException" ⟨"java/lang/Throwable", "fillInStackTrace", "(I)Ljava/lang/Throwable;"⟩ ⟨"java/lang/Throwable", "fillInStackTrace", "(I)Ljava/lang/Throwable;"⟩ ∈ tw_T := tw_mem 138 (by decide +kernel) (by decide +kernel)
theorem tt_139 : Cond.lays "java/util/NoSuchElementException" "java/lang/Throwable" "cause" "Ljava/lang/Throwable;" ∈ tw_T := tw_mem 139 (by decide +kernel) (by decide +kernel)
theorem tt_140 : Cond.lays "java/util/NoSuchElementException" "java/lang/Throwable" "stackTrace" "[Ljava/lang/StackTraceElement;" ∈ tw_T := tw_mem 140 (by decide +kernel) (by decide +kernel)
theorem tt_141 : Cond.lays "java/util/NoSuchElementException" "java/lang/Throwable" "suppressedExceptions" "Ljava/util/List;" ∈ tw_T := tw_mem 141 (by decide +kernel) (by decide +kernel)
theorem tt_142 : Cond.lays "java/util/NoSuchElementException" "java/lang/Throwable" "detailMessage" "Ljava/lang/String;" ∈ tw_T := tw_mem 142 (by decide +kernel) (by decide +kernel)
theorem tt_143 : Cond.lays "java/util/NoSuchElementException" "java/lang/Throwable" "backtrace" "Ljava/lang/Object;" ∈ tw_T := tw_mem 143 (by decide +kernel) (by decide +kernel)
theorem tt_145 : Cond.methodLink RX 49 ⟨"java/util/NoSuchElementException", "<init>", "(Ljava/lang/String;)V"⟩ ∈ tw_T := tw_mem 145 (by decide +kernel) (by decide +kernel)
theorem tt_146 : Cond.instanceMethod ⟨"java/util/NoSuchElementException", "<init>", "(Ljava/lang/String;)V"⟩ ∈ tw_T := tw_mem 146 (by decide +kernel) (by decide +kernel)
theorem tt_147 : Cond.code ⟨"java/util/NoSuchElementException", "<init>", "(Ljava/lang/String;)V"⟩ prog_9_method_4_code 2 none ∈ tw_T := tw_mem 147 (by decide +kernel) (by decide +kernel)
theorem tt_148 : Cond.methodLink "java/util/NoSuchElementException" 13 ⟨"java/lang/RuntimeException", "<init>", "(Ljava/lang/String;)V"⟩ ∈ tw_T := tw_mem 148 (by decide +kernel) (by decide +kernel)
theorem tt_149 : Cond.lays "java/util/NoSuchElementException" "java/lang/Throwable" "depth" "I" ∈ tw_T := tw_mem 149 (by decide +kernel) (by decide +kernel)
theorem tt_150 : Cond.superclass "java/util/NoSuchElementException" "java/lang/RuntimeException" ∈ tw_T := tw_mem 150 (by decide +kernel) (by decide +kernel)
theorem tt_151 : Cond.methodLink RL 58 yL_take ∈ tw_T := tw_mem 151 (by decide +kernel) (by decide +kernel)
theorem tt_152 : Cond.static yL_take ∈ tw_T := tw_mem 152 (by decide +kernel) (by decide +kernel)
theorem tt_153 : Cond.codeWith yL_take method_5_code 3 (some .int) [(0, 8, 11, 19)] ∈ tw_T := tw_mem 153 (by decide +kernel) (by decide +kernel)
theorem tt_154 : Cond.methodLink RL 21 yX_take ∈ tw_T := tw_mem 154 (by decide +kernel) (by decide +kernel)
theorem tt_155 : Cond.instanceMethod yX_take ∈ tw_T := tw_mem 155 (by decide +kernel) (by decide +kernel)
theorem tt_156 : Cond.selects RX yX_take yX_take ∈ tw_T := tw_mem 156 (by decide +kernel) (by decide +kernel)
theorem tt_157 : Cond.code yX_take prog_1_method_4_code 2 (some .int) ∈ tw_T := tw_mem 157 (by decide +kernel) (by decide +kernel)
theorem tt_158 : Cond.methodLink RX 50 yX_firstDue ∈ tw_T := tw_mem 158 (by decide +kernel) (by decide +kernel)
theorem tt_160 : Cond.instanceMethod yX_firstDue ∈ tw_T := tw_mem 160 (by decide +kernel) (by decide +kernel)
theorem tt_161 : Cond.code yX_firstDue prog_1_method_12_code 3 (some .int) ∈ tw_T := tw_mem 161 (by decide +kernel) (by decide +kernel)
theorem tt_162 : Cond.methodLink RX 88 yX_comesBefore ∈ tw_T := tw_mem 162 (by decide +kernel) (by decide +kernel)
theorem tt_164 : Cond.instanceMethod yX_comesBefore ∈ tw_T := tw_mem 164 (by decide +kernel) (by decide +kernel)
theorem tt_165 : Cond.code yX_comesBefore prog_1_method_13_code 3 (some .boolean) ∈ tw_T := tw_mem 165 (by decide +kernel) (by decide +kernel)
theorem tt_167 : Cond.methodLink RL 67 yL_go ∈ tw_T := tw_mem 167 (by decide +kernel) (by decide +kernel)
theorem tt_168 : Cond.static yL_go ∈ tw_T := tw_mem 168 (by decide +kernel) (by decide +kernel)
theorem tt_169 : Cond.codeWith yL_go method_6_code 5 (some .int) [(0, 9, 12, 13)] ∈ tw_T := tw_mem 169 (by decide +kernel) (by decide +kernel)
theorem tt_170 : Cond.methodLink RL 25 yX_go ∈ tw_T := tw_mem 170 (by decide +kernel) (by decide +kernel)
theorem tt_171 : Cond.instanceMethod yX_go ∈ tw_T := tw_mem 171 (by decide +kernel) (by decide +kernel)
theorem tt_172 : Cond.selects RX yX_go yX_go ∈ tw_T := tw_mem 172 (by decide +kernel) (by decide +kernel)
theorem tt_173 : Cond.code yX_go prog_1_method_6_code 3 (some .int) ∈ tw_T := tw_mem 173 (by decide +kernel) (by decide +kernel)
theorem tt_174 : Cond.constantLong RX 62 (17592186044416) ∈ tw_T := tw_mem 174 (by decide +kernel) (by decide +kernel)
theorem tt_177 : Cond.methodLink RX 68 yX_countDue ∈ tw_T := tw_mem 177 (by decide +kernel) (by decide +kernel)
theorem tt_179 : Cond.instanceMethod yX_countDue ∈ tw_T := tw_mem 179 (by decide +kernel) (by decide +kernel)
theorem tt_180 : Cond.code yX_countDue prog_1_method_15_code 3 (some .int) ∈ tw_T := tw_mem 180 (by decide +kernel) (by decide +kernel)
theorem tt_181 : Cond.methodLink RL 71 yL_skip ∈ tw_T := tw_mem 181 (by decide +kernel) (by decide +kernel)
theorem tt_182 : Cond.static yL_skip ∈ tw_T := tw_mem 182 (by decide +kernel) (by decide +kernel)
theorem tt_183 : Cond.codeWith yL_skip method_7_code 3 (some .int) [(0, 8, 11, 19)] ∈ tw_T := tw_mem 183 (by decide +kernel) (by decide +kernel)
theorem tt_184 : Cond.methodLink RL 29 yX_skip ∈ tw_T := tw_mem 184 (by decide +kernel) (by decide +kernel)
theorem tt_185 : Cond.instanceMethod yX_skip ∈ tw_T := tw_mem 185 (by decide +kernel) (by decide +kernel)
theorem tt_186 : Cond.selects RX yX_skip yX_skip ∈ tw_T := tw_mem 186 (by decide +kernel) (by decide +kernel)
theorem tt_187 : Cond.code yX_skip prog_1_method_7_code 3 (some .int) ∈ tw_T := tw_mem 187 (by decide +kernel) (by decide +kernel)
theorem tt_188 : Cond.methodLink RX 71 yX_least ∈ tw_T := tw_mem 188 (by decide +kernel) (by decide +kernel)
theorem tt_190 : Cond.methodLink RL 74 yL_timer ∈ tw_T := tw_mem 190 (by decide +kernel) (by decide +kernel)
theorem tt_191 : Cond.static yL_timer ∈ tw_T := tw_mem 191 (by decide +kernel) (by decide +kernel)
theorem tt_192 : Cond.codeWith yL_timer method_8_code 5 (some .int) [(0, 9, 12, 13)] ∈ tw_T := tw_mem 192 (by decide +kernel) (by decide +kernel)
theorem tt_193 : Cond.methodLink RL 32 yX_timer ∈ tw_T := tw_mem 193 (by decide +kernel) (by decide +kernel)
theorem tt_194 : Cond.instanceMethod yX_timer ∈ tw_T := tw_mem 194 (by decide +kernel) (by decide +kernel)
theorem tt_195 : Cond.selects RX yX_timer yX_timer ∈ tw_T := tw_mem 195 (by decide +kernel) (by decide +kernel)
theorem tt_196 : Cond.code yX_timer prog_1_method_8_code 3 (some .long) ∈ tw_T := tw_mem 196 (by decide +kernel) (by decide +kernel)
theorem tt_198 : Cond.constantLong RX 79 (2) ∈ tw_T := tw_mem 198 (by decide +kernel) (by decide +kernel)
theorem tt_199 : Cond.methodLink RL 78 yL_count ∈ tw_T := tw_mem 199 (by decide +kernel) (by decide +kernel)
theorem tt_200 : Cond.static yL_count ∈ tw_T := tw_mem 200 (by decide +kernel) (by decide +kernel)
theorem tt_201 : Cond.codeWith yL_count method_9_code 4 (some .int) [(0, 8, 11, 13)] ∈ tw_T := tw_mem 201 (by decide +kernel) (by decide +kernel)
theorem tt_202 : Cond.methodLink RL 36 yX_count ∈ tw_T := tw_mem 202 (by decide +kernel) (by decide +kernel)
theorem tt_203 : Cond.instanceMethod yX_count ∈ tw_T := tw_mem 203 (by decide +kernel) (by decide +kernel)
theorem tt_204 : Cond.selects RX yX_count yX_count ∈ tw_T := tw_mem 204 (by decide +kernel) (by decide +kernel)
theorem tt_205 : Cond.code yX_count prog_1_method_9_code 2 (some .long) ∈ tw_T := tw_mem 205 (by decide +kernel) (by decide +kernel)
theorem tt_206 : Cond.methodLink RX 81 yX_countThere ∈ tw_T := tw_mem 206 (by decide +kernel) (by decide +kernel)
theorem tt_208 : Cond.instanceMethod yX_countThere ∈ tw_T := tw_mem 208 (by decide +kernel) (by decide +kernel)
theorem tt_209 : Cond.code yX_countThere prog_1_method_14_code 3 (some .int) ∈ tw_T := tw_mem 209 (by decide +kernel) (by decide +kernel)
theorem tt_211 : Cond.classLink RL 40 RM ∈ tw_T := tw_mem 211 (by decide +kernel) (by decide +kernel)
theorem tt_212 : Cond.instantiable RM 7 ∈ tw_T := tw_mem 212 (by decide +kernel) (by decide +kernel)
theorem tt_213 : Cond.methodLink RL 42 yM_init ∈ tw_T := tw_mem 213 (by decide +kernel) (by decide +kernel)
theorem tt_214 : Cond.instanceMethod yM_init ∈ tw_T := tw_mem 214 (by decide +kernel) (by decide +kernel)
theorem tt_215 : Cond.code yM_init prog_3_method_1_code 1 none ∈ tw_T := tw_mem 215 (by decide +kernel) (by decide +kernel)
theorem tt_216 : Cond.methodLink RM 1 Lib.objectInit ∈ tw_T := tw_mem 216 (by decide +kernel) (by decide +kernel)
theorem tt_217 : Cond.fieldLink RM 24 RM "failed" "I" ∈ tw_T := tw_mem 217 (by decide +kernel) (by decide +kernel)
theorem tt_218 : Cond.fieldLink RM 7 RM "there" "[Z" ∈ tw_T := tw_mem 218 (by decide +kernel) (by decide +kernel)
theorem tt_219 : Cond.fieldLink RM 13 RM "times" "[J" ∈ tw_T := tw_mem 219 (by decide +kernel) (by decide +kernel)
theorem tt_220 : Cond.fieldLink RM 17 RM "priorities" "[I" ∈ tw_T := tw_mem 220 (by decide +kernel) (by decide +kernel)
theorem tt_221 : Cond.fieldLink RM 21 RM "ages" "[I" ∈ tw_T := tw_mem 221 (by decide +kernel) (by decide +kernel)
theorem tt_222 : Cond.fieldLink RM 42 RM "made" "I" ∈ tw_T := tw_mem 222 (by decide +kernel) (by decide +kernel)
theorem tt_223 : Cond.fieldLink RM 28 RM "clock" "J" ∈ tw_T := tw_mem 223 (by decide +kernel) (by decide +kernel)
theorem tt_224 : Cond.lays RM RM "failed" "I" ∈ tw_T := tw_mem 224 (by decide +kernel) (by decide +kernel)
theorem tt_226 : Cond.laysFinal RM RM "there" "[Z" ∈ tw_T := tw_mem 226 (by decide +kernel) (by decide +kernel)
theorem tt_228 : Cond.laysFinal RM RM "times" "[J" ∈ tw_T := tw_mem 228 (by decide +kernel) (by decide +kernel)
theorem tt_230 : Cond.laysFinal RM RM "priorities" "[I" ∈ tw_T := tw_mem 230 (by decide +kernel) (by decide +kernel)
theorem tt_232 : Cond.laysFinal RM RM "ages" "[I" ∈ tw_T := tw_mem 232 (by decide +kernel) (by decide +kernel)
theorem tt_234 : Cond.lays RM RM "made" "I" ∈ tw_T := tw_mem 234 (by decide +kernel) (by decide +kernel)
theorem tt_236 : Cond.lays RM RM "clock" "J" ∈ tw_T := tw_mem 236 (by decide +kernel) (by decide +kernel)
theorem tt_238 : Cond.superclass RM "java/lang/Object" ∈ tw_T := tw_mem 238 (by decide +kernel) (by decide +kernel)
theorem tt_239 : Cond.methodLink RL 51 yM_thrown ∈ tw_T := tw_mem 239 (by decide +kernel) (by decide +kernel)
theorem tt_240 : Cond.instanceMethod yM_thrown ∈ tw_T := tw_mem 240 (by decide +kernel) (by decide +kernel)
theorem tt_241 : Cond.selects RM yM_thrown yM_thrown ∈ tw_T := tw_mem 241 (by decide +kernel) (by decide +kernel)
theorem tt_242 : Cond.code yM_thrown prog_3_method_2_code 1 (some .int) ∈ tw_T := tw_mem 242 (by decide +kernel) (by decide +kernel)
theorem tt_243 : Cond.methodLink RL 50 yM_set ∈ tw_T := tw_mem 243 (by decide +kernel) (by decide +kernel)
theorem tt_244 : Cond.instanceMethod yM_set ∈ tw_T := tw_mem 244 (by decide +kernel) (by decide +kernel)
theorem tt_245 : Cond.selects RM yM_set yM_set ∈ tw_T := tw_mem 245 (by decide +kernel) (by decide +kernel)
theorem tt_246 : Cond.code yM_set prog_3_method_6_code 5 (some .int) ∈ tw_T := tw_mem 246 (by decide +kernel) (by decide +kernel)
theorem tt_247 : Cond.constantLong RM 36 (70368744177664) ∈ tw_T := tw_mem 247 (by decide +kernel) (by decide +kernel)
theorem tt_248 : Cond.methodLink RM 38 yM_fail ∈ tw_T := tw_mem 248 (by decide +kernel) (by decide +kernel)
theorem tt_250 : Cond.instanceMethod yM_fail ∈ tw_T := tw_mem 250 (by decide +kernel) (by decide +kernel)
theorem tt_251 : Cond.code yM_fail prog_3_method_3_code 2 (some .int) ∈ tw_T := tw_mem 251 (by decide +kernel) (by decide +kernel)
theorem tt_252 : Cond.methodLink RL 57 yM_drop ∈ tw_T := tw_mem 252 (by decide +kernel) (by decide +kernel)
theorem tt_253 : Cond.instanceMethod yM_drop ∈ tw_T := tw_mem 253 (by decide +kernel) (by decide +kernel)
theorem tt_254 : Cond.selects RM yM_drop yM_drop ∈ tw_T := tw_mem 254 (by decide +kernel) (by decide +kernel)
theorem tt_255 : Cond.code yM_drop prog_3_method_7_code 2 (some .long) ∈ tw_T := tw_mem 255 (by decide +kernel) (by decide +kernel)
theorem tt_256 : Cond.methodLink RL 61 yM_take ∈ tw_T := tw_mem 256 (by decide +kernel) (by decide +kernel)
theorem tt_257 : Cond.instanceMethod yM_take ∈ tw_T := tw_mem 257 (by decide +kernel) (by decide +kernel)
theorem tt_258 : Cond.selects RM yM_take yM_take ∈ tw_T := tw_mem 258 (by decide +kernel) (by decide +kernel)
theorem tt_259 : Cond.code yM_take prog_3_method_8_code 3 (some .int) ∈ tw_T := tw_mem 259 (by decide +kernel) (by decide +kernel)
theorem tt_260 : Cond.methodLink RM 32 yM_due ∈ tw_T := tw_mem 260 (by decide +kernel) (by decide +kernel)
theorem tt_262 : Cond.instanceMethod yM_due ∈ tw_T := tw_mem 262 (by decide +kernel) (by decide +kernel)
theorem tt_263 : Cond.code yM_due prog_3_method_4_code 2 (some .boolean) ∈ tw_T := tw_mem 263 (by decide +kernel) (by decide +kernel)
theorem tt_264 : Cond.methodLink RL 66 yM_least ∈ tw_T := tw_mem 264 (by decide +kernel) (by decide +kernel)
theorem tt_265 : Cond.instanceMethod yM_least ∈ tw_T := tw_mem 265 (by decide +kernel) (by decide +kernel)
theorem tt_266 : Cond.selects RM yM_least yM_least ∈ tw_T := tw_mem 266 (by decide +kernel) (by decide +kernel)
theorem tt_267 : Cond.code yM_least prog_3_method_9_code 4 (some .long) ∈ tw_T := tw_mem 267 (by decide +kernel) (by decide +kernel)
theorem tt_268 : Cond.constantLong RM 45 (-1) ∈ tw_T := tw_mem 268 (by decide +kernel) (by decide +kernel)
theorem tt_269 : Cond.methodLink RL 70 yM_go ∈ tw_T := tw_mem 269 (by decide +kernel) (by decide +kernel)
theorem tt_270 : Cond.instanceMethod yM_go ∈ tw_T := tw_mem 270 (by decide +kernel) (by decide +kernel)
theorem tt_271 : Cond.selects RM yM_go yM_go ∈ tw_T := tw_mem 271 (by decide +kernel) (by decide +kernel)
theorem tt_272 : Cond.code yM_go prog_3_method_10_code 3 (some .int) ∈ tw_T := tw_mem 272 (by decide +kernel) (by decide +kernel)
theorem tt_273 : Cond.constantLong RM 47 (17592186044416) ∈ tw_T := tw_mem 273 (by decide +kernel) (by decide +kernel)
theorem tt_274 : Cond.methodLink RM 49 yM_dues ∈ tw_T := tw_mem 274 (by decide +kernel) (by decide +kernel)
theorem tt_276 : Cond.instanceMethod yM_dues ∈ tw_T := tw_mem 276 (by decide +kernel) (by decide +kernel)
theorem tt_277 : Cond.code yM_dues prog_3_method_5_code 3 (some .int) ∈ tw_T := tw_mem 277 (by decide +kernel) (by decide +kernel)
theorem tt_278 : Cond.methodLink RL 73 yM_skip ∈ tw_T := tw_mem 278 (by decide +kernel) (by decide +kernel)
theorem tt_279 : Cond.instanceMethod yM_skip ∈ tw_T := tw_mem 279 (by decide +kernel) (by decide +kernel)
theorem tt_280 : Cond.selects RM yM_skip yM_skip ∈ tw_T := tw_mem 280 (by decide +kernel) (by decide +kernel)
theorem tt_281 : Cond.code yM_skip prog_3_method_11_code 3 (some .int) ∈ tw_T := tw_mem 281 (by decide +kernel) (by decide +kernel)
theorem tt_282 : Cond.methodLink RM 53 yM_least ∈ tw_T := tw_mem 282 (by decide +kernel) (by decide +kernel)
theorem tt_283 : Cond.methodLink RL 77 yM_timer ∈ tw_T := tw_mem 283 (by decide +kernel) (by decide +kernel)
theorem tt_284 : Cond.instanceMethod yM_timer ∈ tw_T := tw_mem 284 (by decide +kernel) (by decide +kernel)
theorem tt_285 : Cond.selects RM yM_timer yM_timer ∈ tw_T := tw_mem 285 (by decide +kernel) (by decide +kernel)
theorem tt_286 : Cond.code yM_timer prog_3_method_12_code 3 (some .long) ∈ tw_T := tw_mem 286 (by decide +kernel) (by decide +kernel)
theorem tt_287 : Cond.constantLong RM 57 (2) ∈ tw_T := tw_mem 287 (by decide +kernel) (by decide +kernel)
theorem tt_288 : Cond.methodLink RL 80 yM_count ∈ tw_T := tw_mem 288 (by decide +kernel) (by decide +kernel)
theorem tt_289 : Cond.instanceMethod yM_count ∈ tw_T := tw_mem 289 (by decide +kernel) (by decide +kernel)
theorem tt_290 : Cond.selects RM yM_count yM_count ∈ tw_T := tw_mem 290 (by decide +kernel) (by decide +kernel)
theorem tt_291 : Cond.code yM_count prog_3_method_13_code 4 (some .long) ∈ tw_T := tw_mem 291 (by decide +kernel) (by decide +kernel)
theorem tt_292 : Cond.constantLong RL 43 (4294967295) ∈ tw_T := tw_mem 292 (by decide +kernel) (by decide +kernel)
theorem tt_293 : Cond.sameMethod "java/lang/Throwable" "java/lang/Throwable" "fillInStackTrace" "(I)Ljava/lang/Throwable;" ∈ tw_T := tw_mem 293 (by decide +kernel) (by decide +kernel)
theorem tp_X_isDue : Cond.selects RX yX_isDue yX_isDue ∈ tw_T := tw_memP 0 (by decide +kernel) (by decide +kernel)
theorem tp_X_firstDue : Cond.selects RX yX_firstDue yX_firstDue ∈ tw_T := tw_memP 2 (by decide +kernel) (by decide +kernel)
theorem tp_X_comesBefore : Cond.selects RX yX_comesBefore yX_comesBefore ∈ tw_T := tw_memP 3 (by decide +kernel) (by decide +kernel)
theorem tp_X_countDue : Cond.selects RX yX_countDue yX_countDue ∈ tw_T := tw_memP 4 (by decide +kernel) (by decide +kernel)
theorem tp_X_countThere : Cond.selects RX yX_countThere yX_countThere ∈ tw_T := tw_memP 5 (by decide +kernel) (by decide +kernel)
theorem tp_M_fail : Cond.selects RM yM_fail yM_fail ∈ tw_T := tw_memP 6 (by decide +kernel) (by decide +kernel)
theorem tp_M_due : Cond.selects RM yM_due yM_due ∈ tw_T := tw_memP 7 (by decide +kernel) (by decide +kernel)
theorem tp_M_dues : Cond.selects RM yM_dues yM_dues ∈ tw_T := tw_memP 8 (by decide +kernel) (by decide +kernel)
theorem in_X : ∀ w ∈ u_ws RX FX 6, w ∈ tw_T := by
  intro w hw
  obtain ⟨k, hk, rfl⟩ := List.mem_map.mp hw
  have hk := List.mem_range.mp hk
  rcases (show k = 0 ∨ k = 1 ∨ k = 2 ∨ k = 3 ∨ k = 4 ∨ k = 5 by omega) with rfl | rfl | rfl | rfl | rfl | rfl
  · exact tt_22
  · exact tt_24
  · exact tt_26
  · exact tt_28
  · exact tt_30
  · exact tt_32
theorem in_M : ∀ w ∈ u_ws RM FM 7, w ∈ tw_T := by
  intro w hw
  obtain ⟨k, hk, rfl⟩ := List.mem_map.mp hw
  have hk := List.mem_range.mp hk
  rcases (show k = 0 ∨ k = 1 ∨ k = 2 ∨ k = 3 ∨ k = 4 ∨ k = 5 ∨ k = 6 by omega) with rfl | rfl | rfl | rfl | rfl | rfl | rfl
  · exact tt_224
  · exact tt_226
  · exact tt_228
  · exact tt_230
  · exact tt_232
  · exact tt_234
  · exact tt_236
end
section
-- what stands at each place of the code
theorem dX_init_0 : decode bX_init 0 = .ok (.aload_n 0, 1) := by decide +kernel
theorem dX_init_1 : decode bX_init 1 = .ok (.invokespecial 1, 3) := by decide +kernel
theorem dX_init_4 : decode bX_init 4 = .ok (.aload_n 0, 1) := by decide +kernel
theorem dX_init_5 : decode bX_init 5 = .ok (.bipush 100, 2) := by decide +kernel
theorem dX_init_7 : decode bX_init 7 = .ok (.newarray .boolean, 2) := by decide +kernel
theorem dX_init_9 : decode bX_init 9 = .ok (.putfield 9, 3) := by decide +kernel
theorem dX_init_12 : decode bX_init 12 = .ok (.aload_n 0, 1) := by decide +kernel
theorem dX_init_13 : decode bX_init 13 = .ok (.bipush 100, 2) := by decide +kernel
theorem dX_init_15 : decode bX_init 15 = .ok (.newarray .long, 2) := by decide +kernel
theorem dX_init_17 : decode bX_init 17 = .ok (.putfield 13, 3) := by decide +kernel
theorem dX_init_20 : decode bX_init 20 = .ok (.aload_n 0, 1) := by decide +kernel
theorem dX_init_21 : decode bX_init 21 = .ok (.bipush 100, 2) := by decide +kernel
theorem dX_init_23 : decode bX_init 23 = .ok (.newarray .int, 2) := by decide +kernel
theorem dX_init_25 : decode bX_init 25 = .ok (.putfield 17, 3) := by decide +kernel
theorem dX_init_28 : decode bX_init 28 = .ok (.aload_n 0, 1) := by decide +kernel
theorem dX_init_29 : decode bX_init 29 = .ok (.bipush 100, 2) := by decide +kernel
theorem dX_init_31 : decode bX_init 31 = .ok (.newarray .int, 2) := by decide +kernel
theorem dX_init_33 : decode bX_init 33 = .ok (.putfield 21, 3) := by decide +kernel
theorem dX_init_36 : decode bX_init 36 = .ok (.aload_n 0, 1) := by decide +kernel
theorem dX_init_37 : decode bX_init 37 = .ok (.lconst 0, 1) := by decide +kernel
theorem dX_init_38 : decode bX_init 38 = .ok (.putfield 24, 3) := by decide +kernel
theorem dX_init_41 : decode bX_init 41 = .ok (.aload_n 0, 1) := by decide +kernel
theorem dX_init_42 : decode bX_init 42 = .ok (.iconst 0, 1) := by decide +kernel
theorem dX_init_43 : decode bX_init 43 = .ok (.putfield 28, 3) := by decide +kernel
theorem dX_init_46 : decode bX_init 46 = .ok (.return_, 1) := by decide +kernel
theorem dX_least_0 : decode bX_least 0 = .ok (.ldc2_w 56, 3) := by decide +kernel
theorem dX_least_3 : decode bX_least 3 = .ok (.lstore_n 1, 1) := by decide +kernel
theorem dX_least_4 : decode bX_least 4 = .ok (.iconst 0, 1) := by decide +kernel
theorem dX_least_5 : decode bX_least 5 = .ok (.istore_n 3, 1) := by decide +kernel
theorem dX_least_6 : decode bX_least 6 = .ok (.iload_n 3, 1) := by decide +kernel
theorem dX_least_7 : decode bX_least 7 = .ok (.bipush 100, 2) := by decide +kernel
theorem dX_least_9 : decode bX_least 9 = .ok (.if_icmp .ge 52, 3) := by decide +kernel
theorem dX_least_12 : decode bX_least 12 = .ok (.aload_n 0, 1) := by decide +kernel
theorem dX_least_13 : decode bX_least 13 = .ok (.getfield 9, 3) := by decide +kernel
theorem dX_least_16 : decode bX_least 16 = .ok (.iload_n 3, 1) := by decide +kernel
theorem dX_least_17 : decode bX_least 17 = .ok (.baload, 1) := by decide +kernel
theorem dX_least_18 : decode bX_least 18 = .ok (.ifCond .eq 37, 3) := by decide +kernel
theorem dX_least_21 : decode bX_least 21 = .ok (.aload_n 0, 1) := by decide +kernel
theorem dX_least_22 : decode bX_least 22 = .ok (.iload_n 3, 1) := by decide +kernel
theorem dX_least_23 : decode bX_least 23 = .ok (.invokevirtual 58, 3) := by decide +kernel
theorem dX_least_26 : decode bX_least 26 = .ok (.ifCond .ne 29, 3) := by decide +kernel
theorem dX_least_29 : decode bX_least 29 = .ok (.lload_n 1, 1) := by decide +kernel
theorem dX_least_30 : decode bX_least 30 = .ok (.ldc2_w 56, 3) := by decide +kernel
theorem dX_least_33 : decode bX_least 33 = .ok (.lcmp, 1) := by decide +kernel
theorem dX_least_34 : decode bX_least 34 = .ok (.ifCond .eq 14, 3) := by decide +kernel
theorem dX_least_37 : decode bX_least 37 = .ok (.aload_n 0, 1) := by decide +kernel
theorem dX_least_38 : decode bX_least 38 = .ok (.getfield 13, 3) := by decide +kernel
theorem dX_least_41 : decode bX_least 41 = .ok (.iload_n 3, 1) := by decide +kernel
theorem dX_least_42 : decode bX_least 42 = .ok (.laload, 1) := by decide +kernel
theorem dX_least_43 : decode bX_least 43 = .ok (.lload_n 1, 1) := by decide +kernel
theorem dX_least_44 : decode bX_least 44 = .ok (.lcmp, 1) := by decide +kernel
theorem dX_least_45 : decode bX_least 45 = .ok (.ifCond .ge 10, 3) := by decide +kernel
theorem dX_least_48 : decode bX_least 48 = .ok (.aload_n 0, 1) := by decide +kernel
theorem dX_least_49 : decode bX_least 49 = .ok (.getfield 13, 3) := by decide +kernel
theorem dX_least_52 : decode bX_least 52 = .ok (.iload_n 3, 1) := by decide +kernel
theorem dX_least_53 : decode bX_least 53 = .ok (.laload, 1) := by decide +kernel
theorem dX_least_54 : decode bX_least 54 = .ok (.lstore_n 1, 1) := by decide +kernel
theorem dX_least_55 : decode bX_least 55 = .ok (.iinc 3 1, 3) := by decide +kernel
theorem dX_least_58 : decode bX_least 58 = .ok (.goto (-52), 3) := by decide +kernel
theorem dX_least_61 : decode bX_least 61 = .ok (.lload_n 1, 1) := by decide +kernel
theorem dX_least_62 : decode bX_least 62 = .ok (.lreturn, 1) := by decide +kernel
theorem dX_isDue_0 : decode bX_isDue 0 = .ok (.aload_n 0, 1) := by decide +kernel
theorem dX_isDue_1 : decode bX_isDue 1 = .ok (.getfield 9, 3) := by decide +kernel
theorem dX_isDue_4 : decode bX_isDue 4 = .ok (.iload_n 1, 1) := by decide +kernel
theorem dX_isDue_5 : decode bX_isDue 5 = .ok (.baload, 1) := by decide +kernel
theorem dX_isDue_6 : decode bX_isDue 6 = .ok (.ifCond .eq 21, 3) := by decide +kernel
theorem dX_isDue_9 : decode bX_isDue 9 = .ok (.aload_n 0, 1) := by decide +kernel
theorem dX_isDue_10 : decode bX_isDue 10 = .ok (.getfield 13, 3) := by decide +kernel
theorem dX_isDue_13 : decode bX_isDue 13 = .ok (.iload_n 1, 1) := by decide +kernel
theorem dX_isDue_14 : decode bX_isDue 14 = .ok (.laload, 1) := by decide +kernel
theorem dX_isDue_15 : decode bX_isDue 15 = .ok (.aload_n 0, 1) := by decide +kernel
theorem dX_isDue_16 : decode bX_isDue 16 = .ok (.getfield 24, 3) := by decide +kernel
theorem dX_isDue_19 : decode bX_isDue 19 = .ok (.lcmp, 1) := by decide +kernel
theorem dX_isDue_20 : decode bX_isDue 20 = .ok (.ifCond .gt 7, 3) := by decide +kernel
theorem dX_isDue_23 : decode bX_isDue 23 = .ok (.iconst 1, 1) := by decide +kernel
theorem dX_isDue_24 : decode bX_isDue 24 = .ok (.goto 4, 3) := by decide +kernel
theorem dX_isDue_27 : decode bX_isDue 27 = .ok (.iconst 0, 1) := by decide +kernel
theorem dX_isDue_28 : decode bX_isDue 28 = .ok (.ireturn, 1) := by decide +kernel
theorem dX_set_0 : decode bX_set 0 = .ok (.iload_n 1, 1) := by decide +kernel
theorem dX_set_1 : decode bX_set 1 = .ok (.invokestatic 32, 3) := by decide +kernel
theorem dX_set_4 : decode bX_set 4 = .ok (.lload_n 2, 1) := by decide +kernel
theorem dX_set_5 : decode bX_set 5 = .ok (.lconst 0, 1) := by decide +kernel
theorem dX_set_6 : decode bX_set 6 = .ok (.lcmp, 1) := by decide +kernel
theorem dX_set_7 : decode bX_set 7 = .ok (.ifCond .lt 11, 3) := by decide +kernel
theorem dX_set_10 : decode bX_set 10 = .ok (.lload_n 2, 1) := by decide +kernel
theorem dX_set_11 : decode bX_set 11 = .ok (.ldc2_w 36, 3) := by decide +kernel
theorem dX_set_14 : decode bX_set 14 = .ok (.lcmp, 1) := by decide +kernel
theorem dX_set_15 : decode bX_set 15 = .ok (.ifCond .le 13, 3) := by decide +kernel
theorem dX_set_18 : decode bX_set 18 = .ok (.new 38, 3) := by decide +kernel
theorem dX_set_21 : decode bX_set 21 = .ok (.dup, 1) := by decide +kernel
theorem dX_set_22 : decode bX_set 22 = .ok (.ldc 40, 2) := by decide +kernel
theorem dX_set_24 : decode bX_set 24 = .ok (.invokespecial 42, 3) := by decide +kernel
theorem dX_set_27 : decode bX_set 27 = .ok (.athrow, 1) := by decide +kernel
theorem dX_set_28 : decode bX_set 28 = .ok (.aload_n 0, 1) := by decide +kernel
theorem dX_set_29 : decode bX_set 29 = .ok (.getfield 9, 3) := by decide +kernel
theorem dX_set_32 : decode bX_set 32 = .ok (.iload_n 1, 1) := by decide +kernel
theorem dX_set_33 : decode bX_set 33 = .ok (.iconst 1, 1) := by decide +kernel
theorem dX_set_34 : decode bX_set 34 = .ok (.bastore, 1) := by decide +kernel
theorem dX_set_35 : decode bX_set 35 = .ok (.aload_n 0, 1) := by decide +kernel
theorem dX_set_36 : decode bX_set 36 = .ok (.getfield 13, 3) := by decide +kernel
theorem dX_set_39 : decode bX_set 39 = .ok (.iload_n 1, 1) := by decide +kernel
theorem dX_set_40 : decode bX_set 40 = .ok (.lload_n 2, 1) := by decide +kernel
theorem dX_set_41 : decode bX_set 41 = .ok (.lastore, 1) := by decide +kernel
theorem dX_set_42 : decode bX_set 42 = .ok (.aload_n 0, 1) := by decide +kernel
theorem dX_set_43 : decode bX_set 43 = .ok (.getfield 17, 3) := by decide +kernel
theorem dX_set_46 : decode bX_set 46 = .ok (.iload_n 1, 1) := by decide +kernel
theorem dX_set_47 : decode bX_set 47 = .ok (.iload 4, 2) := by decide +kernel
theorem dX_set_49 : decode bX_set 49 = .ok (.iastore, 1) := by decide +kernel
theorem dX_set_50 : decode bX_set 50 = .ok (.aload_n 0, 1) := by decide +kernel
theorem dX_set_51 : decode bX_set 51 = .ok (.getfield 21, 3) := by decide +kernel
theorem dX_set_54 : decode bX_set 54 = .ok (.iload_n 1, 1) := by decide +kernel
theorem dX_set_55 : decode bX_set 55 = .ok (.aload_n 0, 1) := by decide +kernel
theorem dX_set_56 : decode bX_set 56 = .ok (.getfield 28, 3) := by decide +kernel
theorem dX_set_59 : decode bX_set 59 = .ok (.iastore, 1) := by decide +kernel
theorem dX_set_60 : decode bX_set 60 = .ok (.aload_n 0, 1) := by decide +kernel
theorem dX_set_61 : decode bX_set 61 = .ok (.dup, 1) := by decide +kernel
theorem dX_set_62 : decode bX_set 62 = .ok (.getfield 28, 3) := by decide +kernel
theorem dX_set_65 : decode bX_set 65 = .ok (.iconst 1, 1) := by decide +kernel
theorem dX_set_66 : decode bX_set 66 = .ok (.iadd, 1) := by decide +kernel
theorem dX_set_67 : decode bX_set 67 = .ok (.putfield 28, 3) := by decide +kernel
theorem dX_set_70 : decode bX_set 70 = .ok (.aload_n 0, 1) := by decide +kernel
theorem dX_set_71 : decode bX_set 71 = .ok (.getfield 21, 3) := by decide +kernel
theorem dX_set_74 : decode bX_set 74 = .ok (.iload_n 1, 1) := by decide +kernel
theorem dX_set_75 : decode bX_set 75 = .ok (.iaload, 1) := by decide +kernel
theorem dX_set_76 : decode bX_set 76 = .ok (.ireturn, 1) := by decide +kernel
theorem dX_requireTimerNumber_0 : decode bX_requireTimerNumber 0 = .ok (.iload_n 0, 1) := by decide +kernel
theorem dX_requireTimerNumber_1 : decode bX_requireTimerNumber 1 = .ok (.ifCond .lt 9, 3) := by decide +kernel
theorem dX_requireTimerNumber_4 : decode bX_requireTimerNumber 4 = .ok (.iload_n 0, 1) := by decide +kernel
theorem dX_requireTimerNumber_5 : decode bX_requireTimerNumber 5 = .ok (.bipush 100, 2) := by decide +kernel
theorem dX_requireTimerNumber_7 : decode bX_requireTimerNumber 7 = .ok (.if_icmp .lt 13, 3) := by decide +kernel
theorem dX_requireTimerNumber_10 : decode bX_requireTimerNumber 10 = .ok (.new 38, 3) := by decide +kernel
theorem dX_requireTimerNumber_13 : decode bX_requireTimerNumber 13 = .ok (.dup, 1) := by decide +kernel
theorem dX_requireTimerNumber_14 : decode bX_requireTimerNumber 14 = .ok (.ldc 86, 2) := by decide +kernel
theorem dX_requireTimerNumber_16 : decode bX_requireTimerNumber 16 = .ok (.invokespecial 42, 3) := by decide +kernel
theorem dX_requireTimerNumber_19 : decode bX_requireTimerNumber 19 = .ok (.athrow, 1) := by decide +kernel
theorem dX_requireTimerNumber_20 : decode bX_requireTimerNumber 20 = .ok (.return_, 1) := by decide +kernel
theorem dX_drop_0 : decode bX_drop 0 = .ok (.iload_n 1, 1) := by decide +kernel
theorem dX_drop_1 : decode bX_drop 1 = .ok (.invokestatic 32, 3) := by decide +kernel
theorem dX_drop_4 : decode bX_drop 4 = .ok (.aload_n 0, 1) := by decide +kernel
theorem dX_drop_5 : decode bX_drop 5 = .ok (.getfield 9, 3) := by decide +kernel
theorem dX_drop_8 : decode bX_drop 8 = .ok (.iload_n 1, 1) := by decide +kernel
theorem dX_drop_9 : decode bX_drop 9 = .ok (.baload, 1) := by decide +kernel
theorem dX_drop_10 : decode bX_drop 10 = .ok (.ifCond .ne 13, 3) := by decide +kernel
theorem dX_drop_13 : decode bX_drop 13 = .ok (.new 45, 3) := by decide +kernel
theorem dX_drop_16 : decode bX_drop 16 = .ok (.dup, 1) := by decide +kernel
theorem dX_drop_17 : decode bX_drop 17 = .ok (.ldc 47, 2) := by decide +kernel
theorem dX_drop_19 : decode bX_drop 19 = .ok (.invokespecial 49, 3) := by decide +kernel
theorem dX_drop_22 : decode bX_drop 22 = .ok (.athrow, 1) := by decide +kernel
theorem dX_drop_23 : decode bX_drop 23 = .ok (.aload_n 0, 1) := by decide +kernel
theorem dX_drop_24 : decode bX_drop 24 = .ok (.getfield 9, 3) := by decide +kernel
theorem dX_drop_27 : decode bX_drop 27 = .ok (.iload_n 1, 1) := by decide +kernel
theorem dX_drop_28 : decode bX_drop 28 = .ok (.iconst 0, 1) := by decide +kernel
theorem dX_drop_29 : decode bX_drop 29 = .ok (.bastore, 1) := by decide +kernel
theorem dX_drop_30 : decode bX_drop 30 = .ok (.aload_n 0, 1) := by decide +kernel
theorem dX_drop_31 : decode bX_drop 31 = .ok (.getfield 13, 3) := by decide +kernel
theorem dX_drop_34 : decode bX_drop 34 = .ok (.iload_n 1, 1) := by decide +kernel
theorem dX_drop_35 : decode bX_drop 35 = .ok (.laload, 1) := by decide +kernel
theorem dX_drop_36 : decode bX_drop 36 = .ok (.lreturn, 1) := by decide +kernel
theorem dX_take_0 : decode bX_take 0 = .ok (.aload_n 0, 1) := by decide +kernel
theorem dX_take_1 : decode bX_take 1 = .ok (.invokevirtual 50, 3) := by decide +kernel
theorem dX_take_4 : decode bX_take 4 = .ok (.istore_n 1, 1) := by decide +kernel
theorem dX_take_5 : decode bX_take 5 = .ok (.iload_n 1, 1) := by decide +kernel
theorem dX_take_6 : decode bX_take 6 = .ok (.iconst (-1), 1) := by decide +kernel
theorem dX_take_7 : decode bX_take 7 = .ok (.if_icmp .ne 13, 3) := by decide +kernel
theorem dX_take_10 : decode bX_take 10 = .ok (.new 45, 3) := by decide +kernel
theorem dX_take_13 : decode bX_take 13 = .ok (.dup, 1) := by decide +kernel
theorem dX_take_14 : decode bX_take 14 = .ok (.ldc 54, 2) := by decide +kernel
theorem dX_take_16 : decode bX_take 16 = .ok (.invokespecial 49, 3) := by decide +kernel
theorem dX_take_19 : decode bX_take 19 = .ok (.athrow, 1) := by decide +kernel
theorem dX_take_20 : decode bX_take 20 = .ok (.aload_n 0, 1) := by decide +kernel
theorem dX_take_21 : decode bX_take 21 = .ok (.getfield 9, 3) := by decide +kernel
theorem dX_take_24 : decode bX_take 24 = .ok (.iload_n 1, 1) := by decide +kernel
theorem dX_take_25 : decode bX_take 25 = .ok (.iconst 0, 1) := by decide +kernel
theorem dX_take_26 : decode bX_take 26 = .ok (.bastore, 1) := by decide +kernel
theorem dX_take_27 : decode bX_take 27 = .ok (.iload_n 1, 1) := by decide +kernel
theorem dX_take_28 : decode bX_take 28 = .ok (.ireturn, 1) := by decide +kernel
theorem dX_firstDue_0 : decode bX_firstDue 0 = .ok (.iconst (-1), 1) := by decide +kernel
theorem dX_firstDue_1 : decode bX_firstDue 1 = .ok (.istore_n 1, 1) := by decide +kernel
theorem dX_firstDue_2 : decode bX_firstDue 2 = .ok (.iconst 0, 1) := by decide +kernel
theorem dX_firstDue_3 : decode bX_firstDue 3 = .ok (.istore_n 2, 1) := by decide +kernel
theorem dX_firstDue_4 : decode bX_firstDue 4 = .ok (.iload_n 2, 1) := by decide +kernel
theorem dX_firstDue_5 : decode bX_firstDue 5 = .ok (.bipush 100, 2) := by decide +kernel
theorem dX_firstDue_7 : decode bX_firstDue 7 = .ok (.if_icmp .ge 33, 3) := by decide +kernel
theorem dX_firstDue_10 : decode bX_firstDue 10 = .ok (.aload_n 0, 1) := by decide +kernel
theorem dX_firstDue_11 : decode bX_firstDue 11 = .ok (.iload_n 2, 1) := by decide +kernel
theorem dX_firstDue_12 : decode bX_firstDue 12 = .ok (.invokevirtual 58, 3) := by decide +kernel
theorem dX_firstDue_15 : decode bX_firstDue 15 = .ok (.ifCond .eq 19, 3) := by decide +kernel
theorem dX_firstDue_18 : decode bX_firstDue 18 = .ok (.iload_n 1, 1) := by decide +kernel
theorem dX_firstDue_19 : decode bX_firstDue 19 = .ok (.iconst (-1), 1) := by decide +kernel
theorem dX_firstDue_20 : decode bX_firstDue 20 = .ok (.if_icmp .eq 12, 3) := by decide +kernel
theorem dX_firstDue_23 : decode bX_firstDue 23 = .ok (.aload_n 0, 1) := by decide +kernel
theorem dX_firstDue_24 : decode bX_firstDue 24 = .ok (.iload_n 2, 1) := by decide +kernel
theorem dX_firstDue_25 : decode bX_firstDue 25 = .ok (.iload_n 1, 1) := by decide +kernel
theorem dX_firstDue_26 : decode bX_firstDue 26 = .ok (.invokevirtual 88, 3) := by decide +kernel
theorem dX_firstDue_29 : decode bX_firstDue 29 = .ok (.ifCond .eq 5, 3) := by decide +kernel
theorem dX_firstDue_32 : decode bX_firstDue 32 = .ok (.iload_n 2, 1) := by decide +kernel
theorem dX_firstDue_33 : decode bX_firstDue 33 = .ok (.istore_n 1, 1) := by decide +kernel
theorem dX_firstDue_34 : decode bX_firstDue 34 = .ok (.iinc 2 1, 3) := by decide +kernel
theorem dX_firstDue_37 : decode bX_firstDue 37 = .ok (.goto (-33), 3) := by decide +kernel
theorem dX_firstDue_40 : decode bX_firstDue 40 = .ok (.iload_n 1, 1) := by decide +kernel
theorem dX_firstDue_41 : decode bX_firstDue 41 = .ok (.ireturn, 1) := by decide +kernel
theorem dX_comesBefore_0 : decode bX_comesBefore 0 = .ok (.aload_n 0, 1) := by decide +kernel
theorem dX_comesBefore_1 : decode bX_comesBefore 1 = .ok (.getfield 13, 3) := by decide +kernel
theorem dX_comesBefore_4 : decode bX_comesBefore 4 = .ok (.iload_n 1, 1) := by decide +kernel
theorem dX_comesBefore_5 : decode bX_comesBefore 5 = .ok (.laload, 1) := by decide +kernel
theorem dX_comesBefore_6 : decode bX_comesBefore 6 = .ok (.aload_n 0, 1) := by decide +kernel
theorem dX_comesBefore_7 : decode bX_comesBefore 7 = .ok (.getfield 13, 3) := by decide +kernel
theorem dX_comesBefore_10 : decode bX_comesBefore 10 = .ok (.iload_n 2, 1) := by decide +kernel
theorem dX_comesBefore_11 : decode bX_comesBefore 11 = .ok (.laload, 1) := by decide +kernel
theorem dX_comesBefore_12 : decode bX_comesBefore 12 = .ok (.lcmp, 1) := by decide +kernel
theorem dX_comesBefore_13 : decode bX_comesBefore 13 = .ok (.ifCond .eq 25, 3) := by decide +kernel
theorem dX_comesBefore_16 : decode bX_comesBefore 16 = .ok (.aload_n 0, 1) := by decide +kernel
theorem dX_comesBefore_17 : decode bX_comesBefore 17 = .ok (.getfield 13, 3) := by decide +kernel
theorem dX_comesBefore_20 : decode bX_comesBefore 20 = .ok (.iload_n 1, 1) := by decide +kernel
theorem dX_comesBefore_21 : decode bX_comesBefore 21 = .ok (.laload, 1) := by decide +kernel
theorem dX_comesBefore_22 : decode bX_comesBefore 22 = .ok (.aload_n 0, 1) := by decide +kernel
theorem dX_comesBefore_23 : decode bX_comesBefore 23 = .ok (.getfield 13, 3) := by decide +kernel
theorem dX_comesBefore_26 : decode bX_comesBefore 26 = .ok (.iload_n 2, 1) := by decide +kernel
theorem dX_comesBefore_27 : decode bX_comesBefore 27 = .ok (.laload, 1) := by decide +kernel
theorem dX_comesBefore_28 : decode bX_comesBefore 28 = .ok (.lcmp, 1) := by decide +kernel
theorem dX_comesBefore_29 : decode bX_comesBefore 29 = .ok (.ifCond .ge 7, 3) := by decide +kernel
theorem dX_comesBefore_32 : decode bX_comesBefore 32 = .ok (.iconst 1, 1) := by decide +kernel
theorem dX_comesBefore_33 : decode bX_comesBefore 33 = .ok (.goto 4, 3) := by decide +kernel
theorem dX_comesBefore_36 : decode bX_comesBefore 36 = .ok (.iconst 0, 1) := by decide +kernel
theorem dX_comesBefore_37 : decode bX_comesBefore 37 = .ok (.ireturn, 1) := by decide +kernel
theorem dX_comesBefore_38 : decode bX_comesBefore 38 = .ok (.aload_n 0, 1) := by decide +kernel
theorem dX_comesBefore_39 : decode bX_comesBefore 39 = .ok (.getfield 17, 3) := by decide +kernel
theorem dX_comesBefore_42 : decode bX_comesBefore 42 = .ok (.iload_n 1, 1) := by decide +kernel
theorem dX_comesBefore_43 : decode bX_comesBefore 43 = .ok (.iaload, 1) := by decide +kernel
theorem dX_comesBefore_44 : decode bX_comesBefore 44 = .ok (.aload_n 0, 1) := by decide +kernel
theorem dX_comesBefore_45 : decode bX_comesBefore 45 = .ok (.getfield 17, 3) := by decide +kernel
theorem dX_comesBefore_48 : decode bX_comesBefore 48 = .ok (.iload_n 2, 1) := by decide +kernel
theorem dX_comesBefore_49 : decode bX_comesBefore 49 = .ok (.iaload, 1) := by decide +kernel
theorem dX_comesBefore_50 : decode bX_comesBefore 50 = .ok (.if_icmp .eq 24, 3) := by decide +kernel
theorem dX_comesBefore_53 : decode bX_comesBefore 53 = .ok (.aload_n 0, 1) := by decide +kernel
theorem dX_comesBefore_54 : decode bX_comesBefore 54 = .ok (.getfield 17, 3) := by decide +kernel
theorem dX_comesBefore_57 : decode bX_comesBefore 57 = .ok (.iload_n 1, 1) := by decide +kernel
theorem dX_comesBefore_58 : decode bX_comesBefore 58 = .ok (.iaload, 1) := by decide +kernel
theorem dX_comesBefore_59 : decode bX_comesBefore 59 = .ok (.aload_n 0, 1) := by decide +kernel
theorem dX_comesBefore_60 : decode bX_comesBefore 60 = .ok (.getfield 17, 3) := by decide +kernel
theorem dX_comesBefore_63 : decode bX_comesBefore 63 = .ok (.iload_n 2, 1) := by decide +kernel
theorem dX_comesBefore_64 : decode bX_comesBefore 64 = .ok (.iaload, 1) := by decide +kernel
theorem dX_comesBefore_65 : decode bX_comesBefore 65 = .ok (.if_icmp .le 7, 3) := by decide +kernel
theorem dX_comesBefore_68 : decode bX_comesBefore 68 = .ok (.iconst 1, 1) := by decide +kernel
theorem dX_comesBefore_69 : decode bX_comesBefore 69 = .ok (.goto 4, 3) := by decide +kernel
theorem dX_comesBefore_72 : decode bX_comesBefore 72 = .ok (.iconst 0, 1) := by decide +kernel
theorem dX_comesBefore_73 : decode bX_comesBefore 73 = .ok (.ireturn, 1) := by decide +kernel
theorem dX_comesBefore_74 : decode bX_comesBefore 74 = .ok (.aload_n 0, 1) := by decide +kernel
theorem dX_comesBefore_75 : decode bX_comesBefore 75 = .ok (.getfield 21, 3) := by decide +kernel
theorem dX_comesBefore_78 : decode bX_comesBefore 78 = .ok (.iload_n 1, 1) := by decide +kernel
theorem dX_comesBefore_79 : decode bX_comesBefore 79 = .ok (.iaload, 1) := by decide +kernel
theorem dX_comesBefore_80 : decode bX_comesBefore 80 = .ok (.aload_n 0, 1) := by decide +kernel
theorem dX_comesBefore_81 : decode bX_comesBefore 81 = .ok (.getfield 21, 3) := by decide +kernel
theorem dX_comesBefore_84 : decode bX_comesBefore 84 = .ok (.iload_n 2, 1) := by decide +kernel
theorem dX_comesBefore_85 : decode bX_comesBefore 85 = .ok (.iaload, 1) := by decide +kernel
theorem dX_comesBefore_86 : decode bX_comesBefore 86 = .ok (.if_icmp .ge 7, 3) := by decide +kernel
theorem dX_comesBefore_89 : decode bX_comesBefore 89 = .ok (.iconst 1, 1) := by decide +kernel
theorem dX_comesBefore_90 : decode bX_comesBefore 90 = .ok (.goto 4, 3) := by decide +kernel
theorem dX_comesBefore_93 : decode bX_comesBefore 93 = .ok (.iconst 0, 1) := by decide +kernel
theorem dX_comesBefore_94 : decode bX_comesBefore 94 = .ok (.ireturn, 1) := by decide +kernel
theorem dX_go_0 : decode bX_go 0 = .ok (.lload_n 1, 1) := by decide +kernel
theorem dX_go_1 : decode bX_go 1 = .ok (.lconst 0, 1) := by decide +kernel
theorem dX_go_2 : decode bX_go 2 = .ok (.lcmp, 1) := by decide +kernel
theorem dX_go_3 : decode bX_go 3 = .ok (.ifCond .lt 11, 3) := by decide +kernel
theorem dX_go_6 : decode bX_go 6 = .ok (.lload_n 1, 1) := by decide +kernel
theorem dX_go_7 : decode bX_go 7 = .ok (.ldc2_w 62, 3) := by decide +kernel
theorem dX_go_10 : decode bX_go 10 = .ok (.lcmp, 1) := by decide +kernel
theorem dX_go_11 : decode bX_go 11 = .ok (.ifCond .le 13, 3) := by decide +kernel
theorem dX_go_14 : decode bX_go 14 = .ok (.new 38, 3) := by decide +kernel
theorem dX_go_17 : decode bX_go 17 = .ok (.dup, 1) := by decide +kernel
theorem dX_go_18 : decode bX_go 18 = .ok (.ldc 64, 2) := by decide +kernel
theorem dX_go_20 : decode bX_go 20 = .ok (.invokespecial 42, 3) := by decide +kernel
theorem dX_go_23 : decode bX_go 23 = .ok (.athrow, 1) := by decide +kernel
theorem dX_go_24 : decode bX_go 24 = .ok (.lload_n 1, 1) := by decide +kernel
theorem dX_go_25 : decode bX_go 25 = .ok (.ldc2_w 36, 3) := by decide +kernel
theorem dX_go_28 : decode bX_go 28 = .ok (.aload_n 0, 1) := by decide +kernel
theorem dX_go_29 : decode bX_go 29 = .ok (.getfield 24, 3) := by decide +kernel
theorem dX_go_32 : decode bX_go 32 = .ok (.lsub, 1) := by decide +kernel
theorem dX_go_33 : decode bX_go 33 = .ok (.lcmp, 1) := by decide +kernel
theorem dX_go_34 : decode bX_go 34 = .ok (.ifCond .le 13, 3) := by decide +kernel
theorem dX_go_37 : decode bX_go 37 = .ok (.new 38, 3) := by decide +kernel
theorem dX_go_40 : decode bX_go 40 = .ok (.dup, 1) := by decide +kernel
theorem dX_go_41 : decode bX_go 41 = .ok (.ldc 66, 2) := by decide +kernel
theorem dX_go_43 : decode bX_go 43 = .ok (.invokespecial 42, 3) := by decide +kernel
theorem dX_go_46 : decode bX_go 46 = .ok (.athrow, 1) := by decide +kernel
theorem dX_go_47 : decode bX_go 47 = .ok (.aload_n 0, 1) := by decide +kernel
theorem dX_go_48 : decode bX_go 48 = .ok (.dup, 1) := by decide +kernel
theorem dX_go_49 : decode bX_go 49 = .ok (.getfield 24, 3) := by decide +kernel
theorem dX_go_52 : decode bX_go 52 = .ok (.lload_n 1, 1) := by decide +kernel
theorem dX_go_53 : decode bX_go 53 = .ok (.ladd, 1) := by decide +kernel
theorem dX_go_54 : decode bX_go 54 = .ok (.putfield 24, 3) := by decide +kernel
theorem dX_go_57 : decode bX_go 57 = .ok (.aload_n 0, 1) := by decide +kernel
theorem dX_go_58 : decode bX_go 58 = .ok (.invokevirtual 68, 3) := by decide +kernel
theorem dX_go_61 : decode bX_go 61 = .ok (.ireturn, 1) := by decide +kernel
theorem dX_countDue_0 : decode bX_countDue 0 = .ok (.iconst 0, 1) := by decide +kernel
theorem dX_countDue_1 : decode bX_countDue 1 = .ok (.istore_n 1, 1) := by decide +kernel
theorem dX_countDue_2 : decode bX_countDue 2 = .ok (.iconst 0, 1) := by decide +kernel
theorem dX_countDue_3 : decode bX_countDue 3 = .ok (.istore_n 2, 1) := by decide +kernel
theorem dX_countDue_4 : decode bX_countDue 4 = .ok (.iload_n 2, 1) := by decide +kernel
theorem dX_countDue_5 : decode bX_countDue 5 = .ok (.bipush 100, 2) := by decide +kernel
theorem dX_countDue_7 : decode bX_countDue 7 = .ok (.if_icmp .ge 20, 3) := by decide +kernel
theorem dX_countDue_10 : decode bX_countDue 10 = .ok (.aload_n 0, 1) := by decide +kernel
theorem dX_countDue_11 : decode bX_countDue 11 = .ok (.iload_n 2, 1) := by decide +kernel
theorem dX_countDue_12 : decode bX_countDue 12 = .ok (.invokevirtual 58, 3) := by decide +kernel
theorem dX_countDue_15 : decode bX_countDue 15 = .ok (.ifCond .eq 6, 3) := by decide +kernel
theorem dX_countDue_18 : decode bX_countDue 18 = .ok (.iinc 1 1, 3) := by decide +kernel
theorem dX_countDue_21 : decode bX_countDue 21 = .ok (.iinc 2 1, 3) := by decide +kernel
theorem dX_countDue_24 : decode bX_countDue 24 = .ok (.goto (-20), 3) := by decide +kernel
theorem dX_countDue_27 : decode bX_countDue 27 = .ok (.iload_n 1, 1) := by decide +kernel
theorem dX_countDue_28 : decode bX_countDue 28 = .ok (.ireturn, 1) := by decide +kernel
theorem dX_skip_0 : decode bX_skip 0 = .ok (.aload_n 0, 1) := by decide +kernel
theorem dX_skip_1 : decode bX_skip 1 = .ok (.invokevirtual 71, 3) := by decide +kernel
theorem dX_skip_4 : decode bX_skip 4 = .ok (.lstore_n 1, 1) := by decide +kernel
theorem dX_skip_5 : decode bX_skip 5 = .ok (.lload_n 1, 1) := by decide +kernel
theorem dX_skip_6 : decode bX_skip 6 = .ok (.ldc2_w 56, 3) := by decide +kernel
theorem dX_skip_9 : decode bX_skip 9 = .ok (.lcmp, 1) := by decide +kernel
theorem dX_skip_10 : decode bX_skip 10 = .ok (.ifCond .ne 13, 3) := by decide +kernel
theorem dX_skip_13 : decode bX_skip 13 = .ok (.new 45, 3) := by decide +kernel
theorem dX_skip_16 : decode bX_skip 16 = .ok (.dup, 1) := by decide +kernel
theorem dX_skip_17 : decode bX_skip 17 = .ok (.ldc 75, 2) := by decide +kernel
theorem dX_skip_19 : decode bX_skip 19 = .ok (.invokespecial 49, 3) := by decide +kernel
theorem dX_skip_22 : decode bX_skip 22 = .ok (.athrow, 1) := by decide +kernel
theorem dX_skip_23 : decode bX_skip 23 = .ok (.aload_n 0, 1) := by decide +kernel
theorem dX_skip_24 : decode bX_skip 24 = .ok (.lload_n 1, 1) := by decide +kernel
theorem dX_skip_25 : decode bX_skip 25 = .ok (.putfield 24, 3) := by decide +kernel
theorem dX_skip_28 : decode bX_skip 28 = .ok (.aload_n 0, 1) := by decide +kernel
theorem dX_skip_29 : decode bX_skip 29 = .ok (.invokevirtual 68, 3) := by decide +kernel
theorem dX_skip_32 : decode bX_skip 32 = .ok (.ireturn, 1) := by decide +kernel
theorem dX_timer_0 : decode bX_timer 0 = .ok (.iload_n 1, 1) := by decide +kernel
theorem dX_timer_1 : decode bX_timer 1 = .ok (.invokestatic 32, 3) := by decide +kernel
theorem dX_timer_4 : decode bX_timer 4 = .ok (.iload_n 2, 1) := by decide +kernel
theorem dX_timer_5 : decode bX_timer 5 = .ok (.ifCond .lt 8, 3) := by decide +kernel
theorem dX_timer_8 : decode bX_timer 8 = .ok (.iload_n 2, 1) := by decide +kernel
theorem dX_timer_9 : decode bX_timer 9 = .ok (.iconst 3, 1) := by decide +kernel
theorem dX_timer_10 : decode bX_timer 10 = .ok (.if_icmp .le 13, 3) := by decide +kernel
theorem dX_timer_13 : decode bX_timer 13 = .ok (.new 38, 3) := by decide +kernel
theorem dX_timer_16 : decode bX_timer 16 = .ok (.dup, 1) := by decide +kernel
theorem dX_timer_17 : decode bX_timer 17 = .ok (.ldc 77, 2) := by decide +kernel
theorem dX_timer_19 : decode bX_timer 19 = .ok (.invokespecial 42, 3) := by decide +kernel
theorem dX_timer_22 : decode bX_timer 22 = .ok (.athrow, 1) := by decide +kernel
theorem dX_timer_23 : decode bX_timer 23 = .ok (.aload_n 0, 1) := by decide +kernel
theorem dX_timer_24 : decode bX_timer 24 = .ok (.getfield 9, 3) := by decide +kernel
theorem dX_timer_27 : decode bX_timer 27 = .ok (.iload_n 1, 1) := by decide +kernel
theorem dX_timer_28 : decode bX_timer 28 = .ok (.baload, 1) := by decide +kernel
theorem dX_timer_29 : decode bX_timer 29 = .ok (.ifCond .ne 5, 3) := by decide +kernel
theorem dX_timer_32 : decode bX_timer 32 = .ok (.lconst 0, 1) := by decide +kernel
theorem dX_timer_33 : decode bX_timer 33 = .ok (.lreturn, 1) := by decide +kernel
theorem dX_timer_34 : decode bX_timer 34 = .ok (.iload_n 2, 1) := by decide +kernel
theorem dX_timer_35 : decode bX_timer 35 = .ok (.tableswitch 56 0 2 #[25, 41, 48], 25) := by decide +kernel
theorem dX_timer_60 : decode bX_timer 60 = .ok (.aload_n 0, 1) := by decide +kernel
theorem dX_timer_61 : decode bX_timer 61 = .ok (.iload_n 1, 1) := by decide +kernel
theorem dX_timer_62 : decode bX_timer 62 = .ok (.invokevirtual 58, 3) := by decide +kernel
theorem dX_timer_65 : decode bX_timer 65 = .ok (.ifCond .eq 9, 3) := by decide +kernel
theorem dX_timer_68 : decode bX_timer 68 = .ok (.ldc2_w 79, 3) := by decide +kernel
theorem dX_timer_71 : decode bX_timer 71 = .ok (.goto 4, 3) := by decide +kernel
theorem dX_timer_74 : decode bX_timer 74 = .ok (.lconst 1, 1) := by decide +kernel
theorem dX_timer_75 : decode bX_timer 75 = .ok (.lreturn, 1) := by decide +kernel
theorem dX_timer_76 : decode bX_timer 76 = .ok (.aload_n 0, 1) := by decide +kernel
theorem dX_timer_77 : decode bX_timer 77 = .ok (.getfield 13, 3) := by decide +kernel
theorem dX_timer_80 : decode bX_timer 80 = .ok (.iload_n 1, 1) := by decide +kernel
theorem dX_timer_81 : decode bX_timer 81 = .ok (.laload, 1) := by decide +kernel
theorem dX_timer_82 : decode bX_timer 82 = .ok (.lreturn, 1) := by decide +kernel
theorem dX_timer_83 : decode bX_timer 83 = .ok (.aload_n 0, 1) := by decide +kernel
theorem dX_timer_84 : decode bX_timer 84 = .ok (.getfield 17, 3) := by decide +kernel
theorem dX_timer_87 : decode bX_timer 87 = .ok (.iload_n 1, 1) := by decide +kernel
theorem dX_timer_88 : decode bX_timer 88 = .ok (.iaload, 1) := by decide +kernel
theorem dX_timer_89 : decode bX_timer 89 = .ok (.i2l, 1) := by decide +kernel
theorem dX_timer_90 : decode bX_timer 90 = .ok (.lreturn, 1) := by decide +kernel
theorem dX_timer_91 : decode bX_timer 91 = .ok (.aload_n 0, 1) := by decide +kernel
theorem dX_timer_92 : decode bX_timer 92 = .ok (.getfield 21, 3) := by decide +kernel
theorem dX_timer_95 : decode bX_timer 95 = .ok (.iload_n 1, 1) := by decide +kernel
theorem dX_timer_96 : decode bX_timer 96 = .ok (.iaload, 1) := by decide +kernel
theorem dX_timer_97 : decode bX_timer 97 = .ok (.i2l, 1) := by decide +kernel
theorem dX_timer_98 : decode bX_timer 98 = .ok (.lreturn, 1) := by decide +kernel
theorem dX_count_0 : decode bX_count 0 = .ok (.iload_n 1, 1) := by decide +kernel
theorem dX_count_1 : decode bX_count 1 = .ok (.tableswitch 44 0 2 #[27, 32, 38], 27) := by decide +kernel
theorem dX_count_28 : decode bX_count 28 = .ok (.aload_n 0, 1) := by decide +kernel
theorem dX_count_29 : decode bX_count 29 = .ok (.getfield 24, 3) := by decide +kernel
theorem dX_count_32 : decode bX_count 32 = .ok (.lreturn, 1) := by decide +kernel
theorem dX_count_33 : decode bX_count 33 = .ok (.aload_n 0, 1) := by decide +kernel
theorem dX_count_34 : decode bX_count 34 = .ok (.invokevirtual 81, 3) := by decide +kernel
theorem dX_count_37 : decode bX_count 37 = .ok (.i2l, 1) := by decide +kernel
theorem dX_count_38 : decode bX_count 38 = .ok (.lreturn, 1) := by decide +kernel
theorem dX_count_39 : decode bX_count 39 = .ok (.aload_n 0, 1) := by decide +kernel
theorem dX_count_40 : decode bX_count 40 = .ok (.invokevirtual 68, 3) := by decide +kernel
theorem dX_count_43 : decode bX_count 43 = .ok (.i2l, 1) := by decide +kernel
theorem dX_count_44 : decode bX_count 44 = .ok (.lreturn, 1) := by decide +kernel
theorem dX_count_45 : decode bX_count 45 = .ok (.new 38, 3) := by decide +kernel
theorem dX_count_48 : decode bX_count 48 = .ok (.dup, 1) := by decide +kernel
theorem dX_count_49 : decode bX_count 49 = .ok (.ldc 84, 2) := by decide +kernel
theorem dX_count_51 : decode bX_count 51 = .ok (.invokespecial 42, 3) := by decide +kernel
theorem dX_count_54 : decode bX_count 54 = .ok (.athrow, 1) := by decide +kernel
theorem dX_countThere_0 : decode bX_countThere 0 = .ok (.iconst 0, 1) := by decide +kernel
theorem dX_countThere_1 : decode bX_countThere 1 = .ok (.istore_n 1, 1) := by decide +kernel
theorem dX_countThere_2 : decode bX_countThere 2 = .ok (.iconst 0, 1) := by decide +kernel
theorem dX_countThere_3 : decode bX_countThere 3 = .ok (.istore_n 2, 1) := by decide +kernel
theorem dX_countThere_4 : decode bX_countThere 4 = .ok (.iload_n 2, 1) := by decide +kernel
theorem dX_countThere_5 : decode bX_countThere 5 = .ok (.bipush 100, 2) := by decide +kernel
theorem dX_countThere_7 : decode bX_countThere 7 = .ok (.if_icmp .ge 21, 3) := by decide +kernel
theorem dX_countThere_10 : decode bX_countThere 10 = .ok (.aload_n 0, 1) := by decide +kernel
theorem dX_countThere_11 : decode bX_countThere 11 = .ok (.getfield 9, 3) := by decide +kernel
theorem dX_countThere_14 : decode bX_countThere 14 = .ok (.iload_n 2, 1) := by decide +kernel
theorem dX_countThere_15 : decode bX_countThere 15 = .ok (.baload, 1) := by decide +kernel
theorem dX_countThere_16 : decode bX_countThere 16 = .ok (.ifCond .eq 6, 3) := by decide +kernel
theorem dX_countThere_19 : decode bX_countThere 19 = .ok (.iinc 1 1, 3) := by decide +kernel
theorem dX_countThere_22 : decode bX_countThere 22 = .ok (.iinc 2 1, 3) := by decide +kernel
theorem dX_countThere_25 : decode bX_countThere 25 = .ok (.goto (-21), 3) := by decide +kernel
theorem dX_countThere_28 : decode bX_countThere 28 = .ok (.iload_n 1, 1) := by decide +kernel
theorem dX_countThere_29 : decode bX_countThere 29 = .ok (.ireturn, 1) := by decide +kernel
end
section
-- what stands at each place of the code
theorem dM_init_0 : decode bM_init 0 = .ok (.aload_n 0, 1) := by decide +kernel
theorem dM_init_1 : decode bM_init 1 = .ok (.invokespecial 1, 3) := by decide +kernel
theorem dM_init_4 : decode bM_init 4 = .ok (.aload_n 0, 1) := by decide +kernel
theorem dM_init_5 : decode bM_init 5 = .ok (.bipush 100, 2) := by decide +kernel
theorem dM_init_7 : decode bM_init 7 = .ok (.newarray .boolean, 2) := by decide +kernel
theorem dM_init_9 : decode bM_init 9 = .ok (.putfield 7, 3) := by decide +kernel
theorem dM_init_12 : decode bM_init 12 = .ok (.aload_n 0, 1) := by decide +kernel
theorem dM_init_13 : decode bM_init 13 = .ok (.bipush 100, 2) := by decide +kernel
theorem dM_init_15 : decode bM_init 15 = .ok (.newarray .long, 2) := by decide +kernel
theorem dM_init_17 : decode bM_init 17 = .ok (.putfield 13, 3) := by decide +kernel
theorem dM_init_20 : decode bM_init 20 = .ok (.aload_n 0, 1) := by decide +kernel
theorem dM_init_21 : decode bM_init 21 = .ok (.bipush 100, 2) := by decide +kernel
theorem dM_init_23 : decode bM_init 23 = .ok (.newarray .int, 2) := by decide +kernel
theorem dM_init_25 : decode bM_init 25 = .ok (.putfield 17, 3) := by decide +kernel
theorem dM_init_28 : decode bM_init 28 = .ok (.aload_n 0, 1) := by decide +kernel
theorem dM_init_29 : decode bM_init 29 = .ok (.bipush 100, 2) := by decide +kernel
theorem dM_init_31 : decode bM_init 31 = .ok (.newarray .int, 2) := by decide +kernel
theorem dM_init_33 : decode bM_init 33 = .ok (.putfield 21, 3) := by decide +kernel
theorem dM_init_36 : decode bM_init 36 = .ok (.return_, 1) := by decide +kernel
theorem dM_thrown_0 : decode bM_thrown 0 = .ok (.aload_n 0, 1) := by decide +kernel
theorem dM_thrown_1 : decode bM_thrown 1 = .ok (.getfield 24, 3) := by decide +kernel
theorem dM_thrown_4 : decode bM_thrown 4 = .ok (.ireturn, 1) := by decide +kernel
theorem dM_set_0 : decode bM_set 0 = .ok (.aload_n 0, 1) := by decide +kernel
theorem dM_set_1 : decode bM_set 1 = .ok (.iconst 0, 1) := by decide +kernel
theorem dM_set_2 : decode bM_set 2 = .ok (.putfield 24, 3) := by decide +kernel
theorem dM_set_5 : decode bM_set 5 = .ok (.iload_n 1, 1) := by decide +kernel
theorem dM_set_6 : decode bM_set 6 = .ok (.ifCond .lt 23, 3) := by decide +kernel
theorem dM_set_9 : decode bM_set 9 = .ok (.iload_n 1, 1) := by decide +kernel
theorem dM_set_10 : decode bM_set 10 = .ok (.bipush 99, 2) := by decide +kernel
theorem dM_set_12 : decode bM_set 12 = .ok (.if_icmp .gt 17, 3) := by decide +kernel
theorem dM_set_15 : decode bM_set 15 = .ok (.lload_n 2, 1) := by decide +kernel
theorem dM_set_16 : decode bM_set 16 = .ok (.lconst 0, 1) := by decide +kernel
theorem dM_set_17 : decode bM_set 17 = .ok (.lcmp, 1) := by decide +kernel
theorem dM_set_18 : decode bM_set 18 = .ok (.ifCond .lt 11, 3) := by decide +kernel
theorem dM_set_21 : decode bM_set 21 = .ok (.lload_n 2, 1) := by decide +kernel
theorem dM_set_22 : decode bM_set 22 = .ok (.ldc2_w 36, 3) := by decide +kernel
theorem dM_set_25 : decode bM_set 25 = .ok (.lcmp, 1) := by decide +kernel
theorem dM_set_26 : decode bM_set 26 = .ok (.ifCond .le 9, 3) := by decide +kernel
theorem dM_set_29 : decode bM_set 29 = .ok (.aload_n 0, 1) := by decide +kernel
theorem dM_set_30 : decode bM_set 30 = .ok (.iconst 1, 1) := by decide +kernel
theorem dM_set_31 : decode bM_set 31 = .ok (.invokevirtual 38, 3) := by decide +kernel
theorem dM_set_34 : decode bM_set 34 = .ok (.ireturn, 1) := by decide +kernel
theorem dM_set_35 : decode bM_set 35 = .ok (.aload_n 0, 1) := by decide +kernel
theorem dM_set_36 : decode bM_set 36 = .ok (.getfield 7, 3) := by decide +kernel
theorem dM_set_39 : decode bM_set 39 = .ok (.iload_n 1, 1) := by decide +kernel
theorem dM_set_40 : decode bM_set 40 = .ok (.iconst 1, 1) := by decide +kernel
theorem dM_set_41 : decode bM_set 41 = .ok (.bastore, 1) := by decide +kernel
theorem dM_set_42 : decode bM_set 42 = .ok (.aload_n 0, 1) := by decide +kernel
theorem dM_set_43 : decode bM_set 43 = .ok (.getfield 13, 3) := by decide +kernel
theorem dM_set_46 : decode bM_set 46 = .ok (.iload_n 1, 1) := by decide +kernel
theorem dM_set_47 : decode bM_set 47 = .ok (.lload_n 2, 1) := by decide +kernel
theorem dM_set_48 : decode bM_set 48 = .ok (.lastore, 1) := by decide +kernel
theorem dM_set_49 : decode bM_set 49 = .ok (.aload_n 0, 1) := by decide +kernel
theorem dM_set_50 : decode bM_set 50 = .ok (.getfield 17, 3) := by decide +kernel
theorem dM_set_53 : decode bM_set 53 = .ok (.iload_n 1, 1) := by decide +kernel
theorem dM_set_54 : decode bM_set 54 = .ok (.iload 4, 2) := by decide +kernel
theorem dM_set_56 : decode bM_set 56 = .ok (.iastore, 1) := by decide +kernel
theorem dM_set_57 : decode bM_set 57 = .ok (.aload_n 0, 1) := by decide +kernel
theorem dM_set_58 : decode bM_set 58 = .ok (.getfield 21, 3) := by decide +kernel
theorem dM_set_61 : decode bM_set 61 = .ok (.iload_n 1, 1) := by decide +kernel
theorem dM_set_62 : decode bM_set 62 = .ok (.aload_n 0, 1) := by decide +kernel
theorem dM_set_63 : decode bM_set 63 = .ok (.getfield 42, 3) := by decide +kernel
theorem dM_set_66 : decode bM_set 66 = .ok (.iastore, 1) := by decide +kernel
theorem dM_set_67 : decode bM_set 67 = .ok (.aload_n 0, 1) := by decide +kernel
theorem dM_set_68 : decode bM_set 68 = .ok (.dup, 1) := by decide +kernel
theorem dM_set_69 : decode bM_set 69 = .ok (.getfield 42, 3) := by decide +kernel
theorem dM_set_72 : decode bM_set 72 = .ok (.iconst 1, 1) := by decide +kernel
theorem dM_set_73 : decode bM_set 73 = .ok (.iadd, 1) := by decide +kernel
theorem dM_set_74 : decode bM_set 74 = .ok (.putfield 42, 3) := by decide +kernel
theorem dM_set_77 : decode bM_set 77 = .ok (.aload_n 0, 1) := by decide +kernel
theorem dM_set_78 : decode bM_set 78 = .ok (.getfield 21, 3) := by decide +kernel
theorem dM_set_81 : decode bM_set 81 = .ok (.iload_n 1, 1) := by decide +kernel
theorem dM_set_82 : decode bM_set 82 = .ok (.iaload, 1) := by decide +kernel
theorem dM_set_83 : decode bM_set 83 = .ok (.ireturn, 1) := by decide +kernel
theorem dM_fail_0 : decode bM_fail 0 = .ok (.aload_n 0, 1) := by decide +kernel
theorem dM_fail_1 : decode bM_fail 1 = .ok (.iload_n 1, 1) := by decide +kernel
theorem dM_fail_2 : decode bM_fail 2 = .ok (.putfield 24, 3) := by decide +kernel
theorem dM_fail_5 : decode bM_fail 5 = .ok (.iconst 0, 1) := by decide +kernel
theorem dM_fail_6 : decode bM_fail 6 = .ok (.ireturn, 1) := by decide +kernel
theorem dM_drop_0 : decode bM_drop 0 = .ok (.aload_n 0, 1) := by decide +kernel
theorem dM_drop_1 : decode bM_drop 1 = .ok (.iconst 0, 1) := by decide +kernel
theorem dM_drop_2 : decode bM_drop 2 = .ok (.putfield 24, 3) := by decide +kernel
theorem dM_drop_5 : decode bM_drop 5 = .ok (.iload_n 1, 1) := by decide +kernel
theorem dM_drop_6 : decode bM_drop 6 = .ok (.ifCond .lt 9, 3) := by decide +kernel
theorem dM_drop_9 : decode bM_drop 9 = .ok (.iload_n 1, 1) := by decide +kernel
theorem dM_drop_10 : decode bM_drop 10 = .ok (.bipush 99, 2) := by decide +kernel
theorem dM_drop_12 : decode bM_drop 12 = .ok (.if_icmp .le 10, 3) := by decide +kernel
theorem dM_drop_15 : decode bM_drop 15 = .ok (.aload_n 0, 1) := by decide +kernel
theorem dM_drop_16 : decode bM_drop 16 = .ok (.iconst 1, 1) := by decide +kernel
theorem dM_drop_17 : decode bM_drop 17 = .ok (.invokevirtual 38, 3) := by decide +kernel
theorem dM_drop_20 : decode bM_drop 20 = .ok (.i2l, 1) := by decide +kernel
theorem dM_drop_21 : decode bM_drop 21 = .ok (.lreturn, 1) := by decide +kernel
theorem dM_drop_22 : decode bM_drop 22 = .ok (.aload_n 0, 1) := by decide +kernel
theorem dM_drop_23 : decode bM_drop 23 = .ok (.getfield 7, 3) := by decide +kernel
theorem dM_drop_26 : decode bM_drop 26 = .ok (.iload_n 1, 1) := by decide +kernel
theorem dM_drop_27 : decode bM_drop 27 = .ok (.baload, 1) := by decide +kernel
theorem dM_drop_28 : decode bM_drop 28 = .ok (.ifCond .ne 10, 3) := by decide +kernel
theorem dM_drop_31 : decode bM_drop 31 = .ok (.aload_n 0, 1) := by decide +kernel
theorem dM_drop_32 : decode bM_drop 32 = .ok (.iconst 2, 1) := by decide +kernel
theorem dM_drop_33 : decode bM_drop 33 = .ok (.invokevirtual 38, 3) := by decide +kernel
theorem dM_drop_36 : decode bM_drop 36 = .ok (.i2l, 1) := by decide +kernel
theorem dM_drop_37 : decode bM_drop 37 = .ok (.lreturn, 1) := by decide +kernel
theorem dM_drop_38 : decode bM_drop 38 = .ok (.aload_n 0, 1) := by decide +kernel
theorem dM_drop_39 : decode bM_drop 39 = .ok (.getfield 7, 3) := by decide +kernel
theorem dM_drop_42 : decode bM_drop 42 = .ok (.iload_n 1, 1) := by decide +kernel
theorem dM_drop_43 : decode bM_drop 43 = .ok (.iconst 0, 1) := by decide +kernel
theorem dM_drop_44 : decode bM_drop 44 = .ok (.bastore, 1) := by decide +kernel
theorem dM_drop_45 : decode bM_drop 45 = .ok (.aload_n 0, 1) := by decide +kernel
theorem dM_drop_46 : decode bM_drop 46 = .ok (.getfield 13, 3) := by decide +kernel
theorem dM_drop_49 : decode bM_drop 49 = .ok (.iload_n 1, 1) := by decide +kernel
theorem dM_drop_50 : decode bM_drop 50 = .ok (.laload, 1) := by decide +kernel
theorem dM_drop_51 : decode bM_drop 51 = .ok (.lreturn, 1) := by decide +kernel
theorem dM_take_0 : decode bM_take 0 = .ok (.aload_n 0, 1) := by decide +kernel
theorem dM_take_1 : decode bM_take 1 = .ok (.iconst 0, 1) := by decide +kernel
theorem dM_take_2 : decode bM_take 2 = .ok (.putfield 24, 3) := by decide +kernel
theorem dM_take_5 : decode bM_take 5 = .ok (.iconst (-1), 1) := by decide +kernel
theorem dM_take_6 : decode bM_take 6 = .ok (.istore_n 1, 1) := by decide +kernel
theorem dM_take_7 : decode bM_take 7 = .ok (.iconst 0, 1) := by decide +kernel
theorem dM_take_8 : decode bM_take 8 = .ok (.istore_n 2, 1) := by decide +kernel
theorem dM_take_9 : decode bM_take 9 = .ok (.iload_n 2, 1) := by decide +kernel
theorem dM_take_10 : decode bM_take 10 = .ok (.bipush 100, 2) := by decide +kernel
theorem dM_take_12 : decode bM_take 12 = .ok (.if_icmp .ge 103, 3) := by decide +kernel
theorem dM_take_15 : decode bM_take 15 = .ok (.aload_n 0, 1) := by decide +kernel
theorem dM_take_16 : decode bM_take 16 = .ok (.iload_n 2, 1) := by decide +kernel
theorem dM_take_17 : decode bM_take 17 = .ok (.invokevirtual 32, 3) := by decide +kernel
theorem dM_take_20 : decode bM_take 20 = .ok (.ifCond .ne 6, 3) := by decide +kernel
theorem dM_take_23 : decode bM_take 23 = .ok (.goto 86, 3) := by decide +kernel
theorem dM_take_26 : decode bM_take 26 = .ok (.iload_n 1, 1) := by decide +kernel
theorem dM_take_27 : decode bM_take 27 = .ok (.ifCond .lt 80, 3) := by decide +kernel
theorem dM_take_30 : decode bM_take 30 = .ok (.aload_n 0, 1) := by decide +kernel
theorem dM_take_31 : decode bM_take 31 = .ok (.getfield 13, 3) := by decide +kernel
theorem dM_take_34 : decode bM_take 34 = .ok (.iload_n 2, 1) := by decide +kernel
theorem dM_take_35 : decode bM_take 35 = .ok (.laload, 1) := by decide +kernel
theorem dM_take_36 : decode bM_take 36 = .ok (.aload_n 0, 1) := by decide +kernel
theorem dM_take_37 : decode bM_take 37 = .ok (.getfield 13, 3) := by decide +kernel
theorem dM_take_40 : decode bM_take 40 = .ok (.iload_n 1, 1) := by decide +kernel
theorem dM_take_41 : decode bM_take 41 = .ok (.laload, 1) := by decide +kernel
theorem dM_take_42 : decode bM_take 42 = .ok (.lcmp, 1) := by decide +kernel
theorem dM_take_43 : decode bM_take 43 = .ok (.ifCond .lt 64, 3) := by decide +kernel
theorem dM_take_46 : decode bM_take 46 = .ok (.aload_n 0, 1) := by decide +kernel
theorem dM_take_47 : decode bM_take 47 = .ok (.getfield 13, 3) := by decide +kernel
theorem dM_take_50 : decode bM_take 50 = .ok (.iload_n 2, 1) := by decide +kernel
theorem dM_take_51 : decode bM_take 51 = .ok (.laload, 1) := by decide +kernel
theorem dM_take_52 : decode bM_take 52 = .ok (.aload_n 0, 1) := by decide +kernel
theorem dM_take_53 : decode bM_take 53 = .ok (.getfield 13, 3) := by decide +kernel
theorem dM_take_56 : decode bM_take 56 = .ok (.iload_n 1, 1) := by decide +kernel
theorem dM_take_57 : decode bM_take 57 = .ok (.laload, 1) := by decide +kernel
theorem dM_take_58 : decode bM_take 58 = .ok (.lcmp, 1) := by decide +kernel
theorem dM_take_59 : decode bM_take 59 = .ok (.ifCond .ne 50, 3) := by decide +kernel
theorem dM_take_62 : decode bM_take 62 = .ok (.aload_n 0, 1) := by decide +kernel
theorem dM_take_63 : decode bM_take 63 = .ok (.getfield 17, 3) := by decide +kernel
theorem dM_take_66 : decode bM_take 66 = .ok (.iload_n 2, 1) := by decide +kernel
theorem dM_take_67 : decode bM_take 67 = .ok (.iaload, 1) := by decide +kernel
theorem dM_take_68 : decode bM_take 68 = .ok (.aload_n 0, 1) := by decide +kernel
theorem dM_take_69 : decode bM_take 69 = .ok (.getfield 17, 3) := by decide +kernel
theorem dM_take_72 : decode bM_take 72 = .ok (.iload_n 1, 1) := by decide +kernel
theorem dM_take_73 : decode bM_take 73 = .ok (.iaload, 1) := by decide +kernel
theorem dM_take_74 : decode bM_take 74 = .ok (.if_icmp .gt 33, 3) := by decide +kernel
theorem dM_take_77 : decode bM_take 77 = .ok (.aload_n 0, 1) := by decide +kernel
theorem dM_take_78 : decode bM_take 78 = .ok (.getfield 17, 3) := by decide +kernel
theorem dM_take_81 : decode bM_take 81 = .ok (.iload_n 2, 1) := by decide +kernel
theorem dM_take_82 : decode bM_take 82 = .ok (.iaload, 1) := by decide +kernel
theorem dM_take_83 : decode bM_take 83 = .ok (.aload_n 0, 1) := by decide +kernel
theorem dM_take_84 : decode bM_take 84 = .ok (.getfield 17, 3) := by decide +kernel
theorem dM_take_87 : decode bM_take 87 = .ok (.iload_n 1, 1) := by decide +kernel
theorem dM_take_88 : decode bM_take 88 = .ok (.iaload, 1) := by decide +kernel
theorem dM_take_89 : decode bM_take 89 = .ok (.if_icmp .ne 20, 3) := by decide +kernel
theorem dM_take_92 : decode bM_take 92 = .ok (.aload_n 0, 1) := by decide +kernel
theorem dM_take_93 : decode bM_take 93 = .ok (.getfield 21, 3) := by decide +kernel
theorem dM_take_96 : decode bM_take 96 = .ok (.iload_n 2, 1) := by decide +kernel
theorem dM_take_97 : decode bM_take 97 = .ok (.iaload, 1) := by decide +kernel
theorem dM_take_98 : decode bM_take 98 = .ok (.aload_n 0, 1) := by decide +kernel
theorem dM_take_99 : decode bM_take 99 = .ok (.getfield 21, 3) := by decide +kernel
theorem dM_take_102 : decode bM_take 102 = .ok (.iload_n 1, 1) := by decide +kernel
theorem dM_take_103 : decode bM_take 103 = .ok (.iaload, 1) := by decide +kernel
theorem dM_take_104 : decode bM_take 104 = .ok (.if_icmp .ge 5, 3) := by decide +kernel
theorem dM_take_107 : decode bM_take 107 = .ok (.iload_n 2, 1) := by decide +kernel
theorem dM_take_108 : decode bM_take 108 = .ok (.istore_n 1, 1) := by decide +kernel
theorem dM_take_109 : decode bM_take 109 = .ok (.iinc 2 1, 3) := by decide +kernel
theorem dM_take_112 : decode bM_take 112 = .ok (.goto (-103), 3) := by decide +kernel
theorem dM_take_115 : decode bM_take 115 = .ok (.iload_n 1, 1) := by decide +kernel
theorem dM_take_116 : decode bM_take 116 = .ok (.ifCond .ge 9, 3) := by decide +kernel
theorem dM_take_119 : decode bM_take 119 = .ok (.aload_n 0, 1) := by decide +kernel
theorem dM_take_120 : decode bM_take 120 = .ok (.iconst 1, 1) := by decide +kernel
theorem dM_take_121 : decode bM_take 121 = .ok (.invokevirtual 38, 3) := by decide +kernel
theorem dM_take_124 : decode bM_take 124 = .ok (.ireturn, 1) := by decide +kernel
theorem dM_take_125 : decode bM_take 125 = .ok (.aload_n 0, 1) := by decide +kernel
theorem dM_take_126 : decode bM_take 126 = .ok (.getfield 7, 3) := by decide +kernel
theorem dM_take_129 : decode bM_take 129 = .ok (.iload_n 1, 1) := by decide +kernel
theorem dM_take_130 : decode bM_take 130 = .ok (.iconst 0, 1) := by decide +kernel
theorem dM_take_131 : decode bM_take 131 = .ok (.bastore, 1) := by decide +kernel
theorem dM_take_132 : decode bM_take 132 = .ok (.iload_n 1, 1) := by decide +kernel
theorem dM_take_133 : decode bM_take 133 = .ok (.ireturn, 1) := by decide +kernel
theorem dM_due_0 : decode bM_due 0 = .ok (.aload_n 0, 1) := by decide +kernel
theorem dM_due_1 : decode bM_due 1 = .ok (.getfield 7, 3) := by decide +kernel
theorem dM_due_4 : decode bM_due 4 = .ok (.iload_n 1, 1) := by decide +kernel
theorem dM_due_5 : decode bM_due 5 = .ok (.baload, 1) := by decide +kernel
theorem dM_due_6 : decode bM_due 6 = .ok (.ifCond .eq 21, 3) := by decide +kernel
theorem dM_due_9 : decode bM_due 9 = .ok (.aload_n 0, 1) := by decide +kernel
theorem dM_due_10 : decode bM_due 10 = .ok (.getfield 13, 3) := by decide +kernel
theorem dM_due_13 : decode bM_due 13 = .ok (.iload_n 1, 1) := by decide +kernel
theorem dM_due_14 : decode bM_due 14 = .ok (.laload, 1) := by decide +kernel
theorem dM_due_15 : decode bM_due 15 = .ok (.aload_n 0, 1) := by decide +kernel
theorem dM_due_16 : decode bM_due 16 = .ok (.getfield 28, 3) := by decide +kernel
theorem dM_due_19 : decode bM_due 19 = .ok (.lcmp, 1) := by decide +kernel
theorem dM_due_20 : decode bM_due 20 = .ok (.ifCond .gt 7, 3) := by decide +kernel
theorem dM_due_23 : decode bM_due 23 = .ok (.iconst 1, 1) := by decide +kernel
theorem dM_due_24 : decode bM_due 24 = .ok (.goto 4, 3) := by decide +kernel
theorem dM_due_27 : decode bM_due 27 = .ok (.iconst 0, 1) := by decide +kernel
theorem dM_due_28 : decode bM_due 28 = .ok (.ireturn, 1) := by decide +kernel
theorem dM_least_0 : decode bM_least 0 = .ok (.aload_n 0, 1) := by decide +kernel
theorem dM_least_1 : decode bM_least 1 = .ok (.iconst 0, 1) := by decide +kernel
theorem dM_least_2 : decode bM_least 2 = .ok (.putfield 24, 3) := by decide +kernel
theorem dM_least_5 : decode bM_least 5 = .ok (.ldc2_w 45, 3) := by decide +kernel
theorem dM_least_8 : decode bM_least 8 = .ok (.lstore_n 1, 1) := by decide +kernel
theorem dM_least_9 : decode bM_least 9 = .ok (.iconst 0, 1) := by decide +kernel
theorem dM_least_10 : decode bM_least 10 = .ok (.istore_n 3, 1) := by decide +kernel
theorem dM_least_11 : decode bM_least 11 = .ok (.iload_n 3, 1) := by decide +kernel
theorem dM_least_12 : decode bM_least 12 = .ok (.bipush 100, 2) := by decide +kernel
theorem dM_least_14 : decode bM_least 14 = .ok (.if_icmp .ge 56, 3) := by decide +kernel
theorem dM_least_17 : decode bM_least 17 = .ok (.aload_n 0, 1) := by decide +kernel
theorem dM_least_18 : decode bM_least 18 = .ok (.getfield 7, 3) := by decide +kernel
theorem dM_least_21 : decode bM_least 21 = .ok (.iload_n 3, 1) := by decide +kernel
theorem dM_least_22 : decode bM_least 22 = .ok (.baload, 1) := by decide +kernel
theorem dM_least_23 : decode bM_least 23 = .ok (.ifCond .eq 41, 3) := by decide +kernel
theorem dM_least_26 : decode bM_least 26 = .ok (.aload_n 0, 1) := by decide +kernel
theorem dM_least_27 : decode bM_least 27 = .ok (.getfield 13, 3) := by decide +kernel
theorem dM_least_30 : decode bM_least 30 = .ok (.iload_n 3, 1) := by decide +kernel
theorem dM_least_31 : decode bM_least 31 = .ok (.laload, 1) := by decide +kernel
theorem dM_least_32 : decode bM_least 32 = .ok (.aload_n 0, 1) := by decide +kernel
theorem dM_least_33 : decode bM_least 33 = .ok (.getfield 28, 3) := by decide +kernel
theorem dM_least_36 : decode bM_least 36 = .ok (.lcmp, 1) := by decide +kernel
theorem dM_least_37 : decode bM_least 37 = .ok (.ifCond .le 27, 3) := by decide +kernel
theorem dM_least_40 : decode bM_least 40 = .ok (.lload_n 1, 1) := by decide +kernel
theorem dM_least_41 : decode bM_least 41 = .ok (.lconst 0, 1) := by decide +kernel
theorem dM_least_42 : decode bM_least 42 = .ok (.lcmp, 1) := by decide +kernel
theorem dM_least_43 : decode bM_least 43 = .ok (.ifCond .lt 14, 3) := by decide +kernel
theorem dM_least_46 : decode bM_least 46 = .ok (.aload_n 0, 1) := by decide +kernel
theorem dM_least_47 : decode bM_least 47 = .ok (.getfield 13, 3) := by decide +kernel
theorem dM_least_50 : decode bM_least 50 = .ok (.iload_n 3, 1) := by decide +kernel
theorem dM_least_51 : decode bM_least 51 = .ok (.laload, 1) := by decide +kernel
theorem dM_least_52 : decode bM_least 52 = .ok (.lload_n 1, 1) := by decide +kernel
theorem dM_least_53 : decode bM_least 53 = .ok (.lcmp, 1) := by decide +kernel
theorem dM_least_54 : decode bM_least 54 = .ok (.ifCond .ge 10, 3) := by decide +kernel
theorem dM_least_57 : decode bM_least 57 = .ok (.aload_n 0, 1) := by decide +kernel
theorem dM_least_58 : decode bM_least 58 = .ok (.getfield 13, 3) := by decide +kernel
theorem dM_least_61 : decode bM_least 61 = .ok (.iload_n 3, 1) := by decide +kernel
theorem dM_least_62 : decode bM_least 62 = .ok (.laload, 1) := by decide +kernel
theorem dM_least_63 : decode bM_least 63 = .ok (.lstore_n 1, 1) := by decide +kernel
theorem dM_least_64 : decode bM_least 64 = .ok (.iinc 3 1, 3) := by decide +kernel
theorem dM_least_67 : decode bM_least 67 = .ok (.goto (-56), 3) := by decide +kernel
theorem dM_least_70 : decode bM_least 70 = .ok (.lload_n 1, 1) := by decide +kernel
theorem dM_least_71 : decode bM_least 71 = .ok (.lreturn, 1) := by decide +kernel
theorem dM_go_0 : decode bM_go 0 = .ok (.aload_n 0, 1) := by decide +kernel
theorem dM_go_1 : decode bM_go 1 = .ok (.iconst 0, 1) := by decide +kernel
theorem dM_go_2 : decode bM_go 2 = .ok (.putfield 24, 3) := by decide +kernel
theorem dM_go_5 : decode bM_go 5 = .ok (.lload_n 1, 1) := by decide +kernel
theorem dM_go_6 : decode bM_go 6 = .ok (.lconst 0, 1) := by decide +kernel
theorem dM_go_7 : decode bM_go 7 = .ok (.lcmp, 1) := by decide +kernel
theorem dM_go_8 : decode bM_go 8 = .ok (.ifCond .lt 24, 3) := by decide +kernel
theorem dM_go_11 : decode bM_go 11 = .ok (.lload_n 1, 1) := by decide +kernel
theorem dM_go_12 : decode bM_go 12 = .ok (.ldc2_w 47, 3) := by decide +kernel
theorem dM_go_15 : decode bM_go 15 = .ok (.lcmp, 1) := by decide +kernel
theorem dM_go_16 : decode bM_go 16 = .ok (.ifCond .gt 16, 3) := by decide +kernel
theorem dM_go_19 : decode bM_go 19 = .ok (.aload_n 0, 1) := by decide +kernel
theorem dM_go_20 : decode bM_go 20 = .ok (.getfield 28, 3) := by decide +kernel
theorem dM_go_23 : decode bM_go 23 = .ok (.lload_n 1, 1) := by decide +kernel
theorem dM_go_24 : decode bM_go 24 = .ok (.ladd, 1) := by decide +kernel
theorem dM_go_25 : decode bM_go 25 = .ok (.ldc2_w 36, 3) := by decide +kernel
theorem dM_go_28 : decode bM_go 28 = .ok (.lcmp, 1) := by decide +kernel
theorem dM_go_29 : decode bM_go 29 = .ok (.ifCond .le 9, 3) := by decide +kernel
theorem dM_go_32 : decode bM_go 32 = .ok (.aload_n 0, 1) := by decide +kernel
theorem dM_go_33 : decode bM_go 33 = .ok (.iconst 1, 1) := by decide +kernel
theorem dM_go_34 : decode bM_go 34 = .ok (.invokevirtual 38, 3) := by decide +kernel
theorem dM_go_37 : decode bM_go 37 = .ok (.ireturn, 1) := by decide +kernel
theorem dM_go_38 : decode bM_go 38 = .ok (.aload_n 0, 1) := by decide +kernel
theorem dM_go_39 : decode bM_go 39 = .ok (.dup, 1) := by decide +kernel
theorem dM_go_40 : decode bM_go 40 = .ok (.getfield 28, 3) := by decide +kernel
theorem dM_go_43 : decode bM_go 43 = .ok (.lload_n 1, 1) := by decide +kernel
theorem dM_go_44 : decode bM_go 44 = .ok (.ladd, 1) := by decide +kernel
theorem dM_go_45 : decode bM_go 45 = .ok (.putfield 28, 3) := by decide +kernel
theorem dM_go_48 : decode bM_go 48 = .ok (.aload_n 0, 1) := by decide +kernel
theorem dM_go_49 : decode bM_go 49 = .ok (.invokevirtual 49, 3) := by decide +kernel
theorem dM_go_52 : decode bM_go 52 = .ok (.ireturn, 1) := by decide +kernel
theorem dM_dues_0 : decode bM_dues 0 = .ok (.iconst 0, 1) := by decide +kernel
theorem dM_dues_1 : decode bM_dues 1 = .ok (.istore_n 1, 1) := by decide +kernel
theorem dM_dues_2 : decode bM_dues 2 = .ok (.iconst 0, 1) := by decide +kernel
theorem dM_dues_3 : decode bM_dues 3 = .ok (.istore_n 2, 1) := by decide +kernel
theorem dM_dues_4 : decode bM_dues 4 = .ok (.iload_n 2, 1) := by decide +kernel
theorem dM_dues_5 : decode bM_dues 5 = .ok (.bipush 100, 2) := by decide +kernel
theorem dM_dues_7 : decode bM_dues 7 = .ok (.if_icmp .ge 25, 3) := by decide +kernel
theorem dM_dues_10 : decode bM_dues 10 = .ok (.iload_n 1, 1) := by decide +kernel
theorem dM_dues_11 : decode bM_dues 11 = .ok (.aload_n 0, 1) := by decide +kernel
theorem dM_dues_12 : decode bM_dues 12 = .ok (.iload_n 2, 1) := by decide +kernel
theorem dM_dues_13 : decode bM_dues 13 = .ok (.invokevirtual 32, 3) := by decide +kernel
theorem dM_dues_16 : decode bM_dues 16 = .ok (.ifCond .eq 7, 3) := by decide +kernel
theorem dM_dues_19 : decode bM_dues 19 = .ok (.iconst 1, 1) := by decide +kernel
theorem dM_dues_20 : decode bM_dues 20 = .ok (.goto 4, 3) := by decide +kernel
theorem dM_dues_23 : decode bM_dues 23 = .ok (.iconst 0, 1) := by decide +kernel
theorem dM_dues_24 : decode bM_dues 24 = .ok (.iadd, 1) := by decide +kernel
theorem dM_dues_25 : decode bM_dues 25 = .ok (.istore_n 1, 1) := by decide +kernel
theorem dM_dues_26 : decode bM_dues 26 = .ok (.iinc 2 1, 3) := by decide +kernel
theorem dM_dues_29 : decode bM_dues 29 = .ok (.goto (-25), 3) := by decide +kernel
theorem dM_dues_32 : decode bM_dues 32 = .ok (.iload_n 1, 1) := by decide +kernel
theorem dM_dues_33 : decode bM_dues 33 = .ok (.ireturn, 1) := by decide +kernel
theorem dM_skip_0 : decode bM_skip 0 = .ok (.aload_n 0, 1) := by decide +kernel
theorem dM_skip_1 : decode bM_skip 1 = .ok (.invokevirtual 53, 3) := by decide +kernel
theorem dM_skip_4 : decode bM_skip 4 = .ok (.lstore_n 1, 1) := by decide +kernel
theorem dM_skip_5 : decode bM_skip 5 = .ok (.lload_n 1, 1) := by decide +kernel
theorem dM_skip_6 : decode bM_skip 6 = .ok (.lconst 0, 1) := by decide +kernel
theorem dM_skip_7 : decode bM_skip 7 = .ok (.lcmp, 1) := by decide +kernel
theorem dM_skip_8 : decode bM_skip 8 = .ok (.ifCond .ge 9, 3) := by decide +kernel
theorem dM_skip_11 : decode bM_skip 11 = .ok (.aload_n 0, 1) := by decide +kernel
theorem dM_skip_12 : decode bM_skip 12 = .ok (.iconst 1, 1) := by decide +kernel
theorem dM_skip_13 : decode bM_skip 13 = .ok (.invokevirtual 38, 3) := by decide +kernel
theorem dM_skip_16 : decode bM_skip 16 = .ok (.ireturn, 1) := by decide +kernel
theorem dM_skip_17 : decode bM_skip 17 = .ok (.aload_n 0, 1) := by decide +kernel
theorem dM_skip_18 : decode bM_skip 18 = .ok (.lload_n 1, 1) := by decide +kernel
theorem dM_skip_19 : decode bM_skip 19 = .ok (.putfield 28, 3) := by decide +kernel
theorem dM_skip_22 : decode bM_skip 22 = .ok (.aload_n 0, 1) := by decide +kernel
theorem dM_skip_23 : decode bM_skip 23 = .ok (.invokevirtual 49, 3) := by decide +kernel
theorem dM_skip_26 : decode bM_skip 26 = .ok (.ireturn, 1) := by decide +kernel
theorem dM_timer_0 : decode bM_timer 0 = .ok (.aload_n 0, 1) := by decide +kernel
theorem dM_timer_1 : decode bM_timer 1 = .ok (.iconst 0, 1) := by decide +kernel
theorem dM_timer_2 : decode bM_timer 2 = .ok (.putfield 24, 3) := by decide +kernel
theorem dM_timer_5 : decode bM_timer 5 = .ok (.iload_n 1, 1) := by decide +kernel
theorem dM_timer_6 : decode bM_timer 6 = .ok (.ifCond .lt 18, 3) := by decide +kernel
theorem dM_timer_9 : decode bM_timer 9 = .ok (.iload_n 1, 1) := by decide +kernel
theorem dM_timer_10 : decode bM_timer 10 = .ok (.bipush 99, 2) := by decide +kernel
theorem dM_timer_12 : decode bM_timer 12 = .ok (.if_icmp .gt 12, 3) := by decide +kernel
theorem dM_timer_15 : decode bM_timer 15 = .ok (.iload_n 2, 1) := by decide +kernel
theorem dM_timer_16 : decode bM_timer 16 = .ok (.ifCond .lt 8, 3) := by decide +kernel
theorem dM_timer_19 : decode bM_timer 19 = .ok (.iload_n 2, 1) := by decide +kernel
theorem dM_timer_20 : decode bM_timer 20 = .ok (.iconst 3, 1) := by decide +kernel
theorem dM_timer_21 : decode bM_timer 21 = .ok (.if_icmp .le 10, 3) := by decide +kernel
theorem dM_timer_24 : decode bM_timer 24 = .ok (.aload_n 0, 1) := by decide +kernel
theorem dM_timer_25 : decode bM_timer 25 = .ok (.iconst 1, 1) := by decide +kernel
theorem dM_timer_26 : decode bM_timer 26 = .ok (.invokevirtual 38, 3) := by decide +kernel
theorem dM_timer_29 : decode bM_timer 29 = .ok (.i2l, 1) := by decide +kernel
theorem dM_timer_30 : decode bM_timer 30 = .ok (.lreturn, 1) := by decide +kernel
theorem dM_timer_31 : decode bM_timer 31 = .ok (.aload_n 0, 1) := by decide +kernel
theorem dM_timer_32 : decode bM_timer 32 = .ok (.getfield 7, 3) := by decide +kernel
theorem dM_timer_35 : decode bM_timer 35 = .ok (.iload_n 1, 1) := by decide +kernel
theorem dM_timer_36 : decode bM_timer 36 = .ok (.baload, 1) := by decide +kernel
theorem dM_timer_37 : decode bM_timer 37 = .ok (.ifCond .ne 5, 3) := by decide +kernel
theorem dM_timer_40 : decode bM_timer 40 = .ok (.lconst 0, 1) := by decide +kernel
theorem dM_timer_41 : decode bM_timer 41 = .ok (.lreturn, 1) := by decide +kernel
theorem dM_timer_42 : decode bM_timer 42 = .ok (.iload_n 2, 1) := by decide +kernel
theorem dM_timer_43 : decode bM_timer 43 = .ok (.ifCond .ne 21, 3) := by decide +kernel
theorem dM_timer_46 : decode bM_timer 46 = .ok (.aload_n 0, 1) := by decide +kernel
theorem dM_timer_47 : decode bM_timer 47 = .ok (.iload_n 1, 1) := by decide +kernel
theorem dM_timer_48 : decode bM_timer 48 = .ok (.invokevirtual 32, 3) := by decide +kernel
theorem dM_timer_51 : decode bM_timer 51 = .ok (.ifCond .eq 9, 3) := by decide +kernel
theorem dM_timer_54 : decode bM_timer 54 = .ok (.ldc2_w 57, 3) := by decide +kernel
theorem dM_timer_57 : decode bM_timer 57 = .ok (.goto 43, 3) := by decide +kernel
theorem dM_timer_60 : decode bM_timer 60 = .ok (.lconst 1, 1) := by decide +kernel
theorem dM_timer_61 : decode bM_timer 61 = .ok (.goto 39, 3) := by decide +kernel
theorem dM_timer_64 : decode bM_timer 64 = .ok (.iload_n 2, 1) := by decide +kernel
theorem dM_timer_65 : decode bM_timer 65 = .ok (.iconst 1, 1) := by decide +kernel
theorem dM_timer_66 : decode bM_timer 66 = .ok (.if_icmp .ne 12, 3) := by decide +kernel
theorem dM_timer_69 : decode bM_timer 69 = .ok (.aload_n 0, 1) := by decide +kernel
theorem dM_timer_70 : decode bM_timer 70 = .ok (.getfield 13, 3) := by decide +kernel
theorem dM_timer_73 : decode bM_timer 73 = .ok (.iload_n 1, 1) := by decide +kernel
theorem dM_timer_74 : decode bM_timer 74 = .ok (.laload, 1) := by decide +kernel
theorem dM_timer_75 : decode bM_timer 75 = .ok (.goto 25, 3) := by decide +kernel
theorem dM_timer_78 : decode bM_timer 78 = .ok (.iload_n 2, 1) := by decide +kernel
theorem dM_timer_79 : decode bM_timer 79 = .ok (.iconst 2, 1) := by decide +kernel
theorem dM_timer_80 : decode bM_timer 80 = .ok (.if_icmp .ne 13, 3) := by decide +kernel
theorem dM_timer_83 : decode bM_timer 83 = .ok (.aload_n 0, 1) := by decide +kernel
theorem dM_timer_84 : decode bM_timer 84 = .ok (.getfield 17, 3) := by decide +kernel
theorem dM_timer_87 : decode bM_timer 87 = .ok (.iload_n 1, 1) := by decide +kernel
theorem dM_timer_88 : decode bM_timer 88 = .ok (.iaload, 1) := by decide +kernel
theorem dM_timer_89 : decode bM_timer 89 = .ok (.i2l, 1) := by decide +kernel
theorem dM_timer_90 : decode bM_timer 90 = .ok (.goto 10, 3) := by decide +kernel
theorem dM_timer_93 : decode bM_timer 93 = .ok (.aload_n 0, 1) := by decide +kernel
theorem dM_timer_94 : decode bM_timer 94 = .ok (.getfield 21, 3) := by decide +kernel
theorem dM_timer_97 : decode bM_timer 97 = .ok (.iload_n 1, 1) := by decide +kernel
theorem dM_timer_98 : decode bM_timer 98 = .ok (.iaload, 1) := by decide +kernel
theorem dM_timer_99 : decode bM_timer 99 = .ok (.i2l, 1) := by decide +kernel
theorem dM_timer_100 : decode bM_timer 100 = .ok (.lreturn, 1) := by decide +kernel
theorem dM_count_0 : decode bM_count 0 = .ok (.aload_n 0, 1) := by decide +kernel
theorem dM_count_1 : decode bM_count 1 = .ok (.iconst 0, 1) := by decide +kernel
theorem dM_count_2 : decode bM_count 2 = .ok (.putfield 24, 3) := by decide +kernel
theorem dM_count_5 : decode bM_count 5 = .ok (.iload_n 1, 1) := by decide +kernel
theorem dM_count_6 : decode bM_count 6 = .ok (.ifCond .lt 8, 3) := by decide +kernel
theorem dM_count_9 : decode bM_count 9 = .ok (.iload_n 1, 1) := by decide +kernel
theorem dM_count_10 : decode bM_count 10 = .ok (.iconst 2, 1) := by decide +kernel
theorem dM_count_11 : decode bM_count 11 = .ok (.if_icmp .le 10, 3) := by decide +kernel
theorem dM_count_14 : decode bM_count 14 = .ok (.aload_n 0, 1) := by decide +kernel
theorem dM_count_15 : decode bM_count 15 = .ok (.iconst 1, 1) := by decide +kernel
theorem dM_count_16 : decode bM_count 16 = .ok (.invokevirtual 38, 3) := by decide +kernel
theorem dM_count_19 : decode bM_count 19 = .ok (.i2l, 1) := by decide +kernel
theorem dM_count_20 : decode bM_count 20 = .ok (.lreturn, 1) := by decide +kernel
theorem dM_count_21 : decode bM_count 21 = .ok (.iconst 0, 1) := by decide +kernel
theorem dM_count_22 : decode bM_count 22 = .ok (.istore_n 2, 1) := by decide +kernel
theorem dM_count_23 : decode bM_count 23 = .ok (.iconst 0, 1) := by decide +kernel
theorem dM_count_24 : decode bM_count 24 = .ok (.istore_n 3, 1) := by decide +kernel
theorem dM_count_25 : decode bM_count 25 = .ok (.iload_n 3, 1) := by decide +kernel
theorem dM_count_26 : decode bM_count 26 = .ok (.bipush 100, 2) := by decide +kernel
theorem dM_count_28 : decode bM_count 28 = .ok (.if_icmp .ge 26, 3) := by decide +kernel
theorem dM_count_31 : decode bM_count 31 = .ok (.iload_n 2, 1) := by decide +kernel
theorem dM_count_32 : decode bM_count 32 = .ok (.aload_n 0, 1) := by decide +kernel
theorem dM_count_33 : decode bM_count 33 = .ok (.getfield 7, 3) := by decide +kernel
theorem dM_count_36 : decode bM_count 36 = .ok (.iload_n 3, 1) := by decide +kernel
theorem dM_count_37 : decode bM_count 37 = .ok (.baload, 1) := by decide +kernel
theorem dM_count_38 : decode bM_count 38 = .ok (.ifCond .eq 7, 3) := by decide +kernel
theorem dM_count_41 : decode bM_count 41 = .ok (.iconst 1, 1) := by decide +kernel
theorem dM_count_42 : decode bM_count 42 = .ok (.goto 4, 3) := by decide +kernel
theorem dM_count_45 : decode bM_count 45 = .ok (.iconst 0, 1) := by decide +kernel
theorem dM_count_46 : decode bM_count 46 = .ok (.iadd, 1) := by decide +kernel
theorem dM_count_47 : decode bM_count 47 = .ok (.istore_n 2, 1) := by decide +kernel
theorem dM_count_48 : decode bM_count 48 = .ok (.iinc 3 1, 3) := by decide +kernel
theorem dM_count_51 : decode bM_count 51 = .ok (.goto (-26), 3) := by decide +kernel
theorem dM_count_54 : decode bM_count 54 = .ok (.iload_n 1, 1) := by decide +kernel
theorem dM_count_55 : decode bM_count 55 = .ok (.ifCond .ne 10, 3) := by decide +kernel
theorem dM_count_58 : decode bM_count 58 = .ok (.aload_n 0, 1) := by decide +kernel
theorem dM_count_59 : decode bM_count 59 = .ok (.getfield 28, 3) := by decide +kernel
theorem dM_count_62 : decode bM_count 62 = .ok (.goto 18, 3) := by decide +kernel
theorem dM_count_65 : decode bM_count 65 = .ok (.iload_n 1, 1) := by decide +kernel
theorem dM_count_66 : decode bM_count 66 = .ok (.iconst 1, 1) := by decide +kernel
theorem dM_count_67 : decode bM_count 67 = .ok (.if_icmp .ne 8, 3) := by decide +kernel
theorem dM_count_70 : decode bM_count 70 = .ok (.iload_n 2, 1) := by decide +kernel
theorem dM_count_71 : decode bM_count 71 = .ok (.i2l, 1) := by decide +kernel
theorem dM_count_72 : decode bM_count 72 = .ok (.goto 8, 3) := by decide +kernel
theorem dM_count_75 : decode bM_count 75 = .ok (.aload_n 0, 1) := by decide +kernel
theorem dM_count_76 : decode bM_count 76 = .ok (.invokevirtual 49, 3) := by decide +kernel
theorem dM_count_79 : decode bM_count 79 = .ok (.i2l, 1) := by decide +kernel
theorem dM_count_80 : decode bM_count 80 = .ok (.lreturn, 1) := by decide +kernel
end
section
-- what stands at each place of the code
theorem dL_set_0 : decode bL_set 0 = .ok (.aload 5, 2) := by decide +kernel
theorem dL_set_2 : decode bL_set 2 = .ok (.iconst 0, 1) := by decide +kernel
theorem dL_set_3 : decode bL_set 3 = .ok (.aload_n 0, 1) := by decide +kernel
theorem dL_set_4 : decode bL_set 4 = .ok (.iload_n 1, 1) := by decide +kernel
theorem dL_set_5 : decode bL_set 5 = .ok (.lload_n 2, 1) := by decide +kernel
theorem dL_set_6 : decode bL_set 6 = .ok (.iload 4, 2) := by decide +kernel
theorem dL_set_8 : decode bL_set 8 = .ok (.invokevirtual 7, 3) := by decide +kernel
theorem dL_set_11 : decode bL_set 11 = .ok (.i2l, 1) := by decide +kernel
theorem dL_set_12 : decode bL_set 12 = .ok (.lastore, 1) := by decide +kernel
theorem dL_set_13 : decode bL_set 13 = .ok (.goto 7, 3) := by decide +kernel
theorem dL_set_16 : decode bL_set 16 = .ok (.astore 6, 2) := by decide +kernel
theorem dL_set_18 : decode bL_set 18 = .ok (.iconst 1, 1) := by decide +kernel
theorem dL_set_19 : decode bL_set 19 = .ok (.ireturn, 1) := by decide +kernel
theorem dL_set_20 : decode bL_set 20 = .ok (.iconst 0, 1) := by decide +kernel
theorem dL_set_21 : decode bL_set 21 = .ok (.ireturn, 1) := by decide +kernel
theorem dL_drop_0 : decode bL_drop 0 = .ok (.aload_n 2, 1) := by decide +kernel
theorem dL_drop_1 : decode bL_drop 1 = .ok (.iconst 0, 1) := by decide +kernel
theorem dL_drop_2 : decode bL_drop 2 = .ok (.aload_n 0, 1) := by decide +kernel
theorem dL_drop_3 : decode bL_drop 3 = .ok (.iload_n 1, 1) := by decide +kernel
theorem dL_drop_4 : decode bL_drop 4 = .ok (.invokevirtual 15, 3) := by decide +kernel
theorem dL_drop_7 : decode bL_drop 7 = .ok (.lastore, 1) := by decide +kernel
theorem dL_drop_8 : decode bL_drop 8 = .ok (.goto 9, 3) := by decide +kernel
theorem dL_drop_11 : decode bL_drop 11 = .ok (.astore_n 3, 1) := by decide +kernel
theorem dL_drop_12 : decode bL_drop 12 = .ok (.iconst 1, 1) := by decide +kernel
theorem dL_drop_13 : decode bL_drop 13 = .ok (.ireturn, 1) := by decide +kernel
theorem dL_drop_14 : decode bL_drop 14 = .ok (.astore_n 3, 1) := by decide +kernel
theorem dL_drop_15 : decode bL_drop 15 = .ok (.iconst 2, 1) := by decide +kernel
theorem dL_drop_16 : decode bL_drop 16 = .ok (.ireturn, 1) := by decide +kernel
theorem dL_drop_17 : decode bL_drop 17 = .ok (.iconst 0, 1) := by decide +kernel
theorem dL_drop_18 : decode bL_drop 18 = .ok (.ireturn, 1) := by decide +kernel
theorem dL_take_0 : decode bL_take 0 = .ok (.aload_n 1, 1) := by decide +kernel
theorem dL_take_1 : decode bL_take 1 = .ok (.iconst 0, 1) := by decide +kernel
theorem dL_take_2 : decode bL_take 2 = .ok (.aload_n 0, 1) := by decide +kernel
theorem dL_take_3 : decode bL_take 3 = .ok (.invokevirtual 21, 3) := by decide +kernel
theorem dL_take_6 : decode bL_take 6 = .ok (.i2l, 1) := by decide +kernel
theorem dL_take_7 : decode bL_take 7 = .ok (.lastore, 1) := by decide +kernel
theorem dL_take_8 : decode bL_take 8 = .ok (.goto 6, 3) := by decide +kernel
theorem dL_take_11 : decode bL_take 11 = .ok (.astore_n 2, 1) := by decide +kernel
theorem dL_take_12 : decode bL_take 12 = .ok (.iconst 1, 1) := by decide +kernel
theorem dL_take_13 : decode bL_take 13 = .ok (.ireturn, 1) := by decide +kernel
theorem dL_take_14 : decode bL_take 14 = .ok (.iconst 0, 1) := by decide +kernel
theorem dL_take_15 : decode bL_take 15 = .ok (.ireturn, 1) := by decide +kernel
theorem dL_go_0 : decode bL_go 0 = .ok (.aload_n 3, 1) := by decide +kernel
theorem dL_go_1 : decode bL_go 1 = .ok (.iconst 0, 1) := by decide +kernel
theorem dL_go_2 : decode bL_go 2 = .ok (.aload_n 0, 1) := by decide +kernel
theorem dL_go_3 : decode bL_go 3 = .ok (.lload_n 1, 1) := by decide +kernel
theorem dL_go_4 : decode bL_go 4 = .ok (.invokevirtual 25, 3) := by decide +kernel
theorem dL_go_7 : decode bL_go 7 = .ok (.i2l, 1) := by decide +kernel
theorem dL_go_8 : decode bL_go 8 = .ok (.lastore, 1) := by decide +kernel
theorem dL_go_9 : decode bL_go 9 = .ok (.goto 7, 3) := by decide +kernel
theorem dL_go_12 : decode bL_go 12 = .ok (.astore 4, 2) := by decide +kernel
theorem dL_go_14 : decode bL_go 14 = .ok (.iconst 1, 1) := by decide +kernel
theorem dL_go_15 : decode bL_go 15 = .ok (.ireturn, 1) := by decide +kernel
theorem dL_go_16 : decode bL_go 16 = .ok (.iconst 0, 1) := by decide +kernel
theorem dL_go_17 : decode bL_go 17 = .ok (.ireturn, 1) := by decide +kernel
theorem dL_skip_0 : decode bL_skip 0 = .ok (.aload_n 1, 1) := by decide +kernel
theorem dL_skip_1 : decode bL_skip 1 = .ok (.iconst 0, 1) := by decide +kernel
theorem dL_skip_2 : decode bL_skip 2 = .ok (.aload_n 0, 1) := by decide +kernel
theorem dL_skip_3 : decode bL_skip 3 = .ok (.invokevirtual 29, 3) := by decide +kernel
theorem dL_skip_6 : decode bL_skip 6 = .ok (.i2l, 1) := by decide +kernel
theorem dL_skip_7 : decode bL_skip 7 = .ok (.lastore, 1) := by decide +kernel
theorem dL_skip_8 : decode bL_skip 8 = .ok (.goto 6, 3) := by decide +kernel
theorem dL_skip_11 : decode bL_skip 11 = .ok (.astore_n 2, 1) := by decide +kernel
theorem dL_skip_12 : decode bL_skip 12 = .ok (.iconst 1, 1) := by decide +kernel
theorem dL_skip_13 : decode bL_skip 13 = .ok (.ireturn, 1) := by decide +kernel
theorem dL_skip_14 : decode bL_skip 14 = .ok (.iconst 0, 1) := by decide +kernel
theorem dL_skip_15 : decode bL_skip 15 = .ok (.ireturn, 1) := by decide +kernel
theorem dL_timer_0 : decode bL_timer 0 = .ok (.aload_n 3, 1) := by decide +kernel
theorem dL_timer_1 : decode bL_timer 1 = .ok (.iconst 0, 1) := by decide +kernel
theorem dL_timer_2 : decode bL_timer 2 = .ok (.aload_n 0, 1) := by decide +kernel
theorem dL_timer_3 : decode bL_timer 3 = .ok (.iload_n 1, 1) := by decide +kernel
theorem dL_timer_4 : decode bL_timer 4 = .ok (.iload_n 2, 1) := by decide +kernel
theorem dL_timer_5 : decode bL_timer 5 = .ok (.invokevirtual 32, 3) := by decide +kernel
theorem dL_timer_8 : decode bL_timer 8 = .ok (.lastore, 1) := by decide +kernel
theorem dL_timer_9 : decode bL_timer 9 = .ok (.goto 7, 3) := by decide +kernel
theorem dL_timer_12 : decode bL_timer 12 = .ok (.astore 4, 2) := by decide +kernel
theorem dL_timer_14 : decode bL_timer 14 = .ok (.iconst 1, 1) := by decide +kernel
theorem dL_timer_15 : decode bL_timer 15 = .ok (.ireturn, 1) := by decide +kernel
theorem dL_timer_16 : decode bL_timer 16 = .ok (.iconst 0, 1) := by decide +kernel
theorem dL_timer_17 : decode bL_timer 17 = .ok (.ireturn, 1) := by decide +kernel
theorem dL_count_0 : decode bL_count 0 = .ok (.aload_n 2, 1) := by decide +kernel
theorem dL_count_1 : decode bL_count 1 = .ok (.iconst 0, 1) := by decide +kernel
theorem dL_count_2 : decode bL_count 2 = .ok (.aload_n 0, 1) := by decide +kernel
theorem dL_count_3 : decode bL_count 3 = .ok (.iload_n 1, 1) := by decide +kernel
theorem dL_count_4 : decode bL_count 4 = .ok (.invokevirtual 36, 3) := by decide +kernel
theorem dL_count_7 : decode bL_count 7 = .ok (.lastore, 1) := by decide +kernel
theorem dL_count_8 : decode bL_count 8 = .ok (.goto 6, 3) := by decide +kernel
theorem dL_count_11 : decode bL_count 11 = .ok (.astore_n 3, 1) := by decide +kernel
theorem dL_count_12 : decode bL_count 12 = .ok (.iconst 1, 1) := by decide +kernel
theorem dL_count_13 : decode bL_count 13 = .ok (.ireturn, 1) := by decide +kernel
theorem dL_count_14 : decode bL_count 14 = .ok (.iconst 0, 1) := by decide +kernel
theorem dL_count_15 : decode bL_count 15 = .ok (.ireturn, 1) := by decide +kernel
theorem dL_law_0 : decode bL_law 0 = .ok (.new 8, 3) := by decide +kernel
theorem dL_law_3 : decode bL_law 3 = .ok (.dup, 1) := by decide +kernel
theorem dL_law_4 : decode bL_law 4 = .ok (.invokespecial 39, 3) := by decide +kernel
theorem dL_law_7 : decode bL_law 7 = .ok (.astore_n 1, 1) := by decide +kernel
theorem dL_law_8 : decode bL_law 8 = .ok (.new 40, 3) := by decide +kernel
theorem dL_law_11 : decode bL_law 11 = .ok (.dup, 1) := by decide +kernel
theorem dL_law_12 : decode bL_law 12 = .ok (.invokespecial 42, 3) := by decide +kernel
theorem dL_law_15 : decode bL_law 15 = .ok (.astore_n 2, 1) := by decide +kernel
theorem dL_law_16 : decode bL_law 16 = .ok (.iconst 1, 1) := by decide +kernel
theorem dL_law_17 : decode bL_law 17 = .ok (.newarray .long, 2) := by decide +kernel
theorem dL_law_19 : decode bL_law 19 = .ok (.astore_n 3, 1) := by decide +kernel
theorem dL_law_20 : decode bL_law 20 = .ok (.iconst 0, 1) := by decide +kernel
theorem dL_law_21 : decode bL_law 21 = .ok (.istore 4, 2) := by decide +kernel
theorem dL_law_23 : decode bL_law 23 = .ok (.iload 4, 2) := by decide +kernel
theorem dL_law_25 : decode bL_law 25 = .ok (.aload_n 0, 1) := by decide +kernel
theorem dL_law_26 : decode bL_law 26 = .ok (.arraylength, 1) := by decide +kernel
theorem dL_law_27 : decode bL_law 27 = .ok (.iconst 5, 1) := by decide +kernel
theorem dL_law_28 : decode bL_law 28 = .ok (.isub, 1) := by decide +kernel
theorem dL_law_29 : decode bL_law 29 = .ok (.if_icmp .gt 540, 3) := by decide +kernel
theorem dL_law_32 : decode bL_law 32 = .ok (.aload_n 0, 1) := by decide +kernel
theorem dL_law_33 : decode bL_law 33 = .ok (.iload 4, 2) := by decide +kernel
theorem dL_law_35 : decode bL_law 35 = .ok (.iaload, 1) := by decide +kernel
theorem dL_law_36 : decode bL_law 36 = .ok (.bipush 7, 2) := by decide +kernel
theorem dL_law_38 : decode bL_law 38 = .ok (.iand, 1) := by decide +kernel
theorem dL_law_39 : decode bL_law 39 = .ok (.tableswitch 524 0 7 #[45, 157, 212, 256, 270, 358, 402, 469], 45) := by decide +kernel
theorem dL_law_84 : decode bL_law 84 = .ok (.aload_n 1, 1) := by decide +kernel
theorem dL_law_85 : decode bL_law 85 = .ok (.aload_n 0, 1) := by decide +kernel
theorem dL_law_86 : decode bL_law 86 = .ok (.iload 4, 2) := by decide +kernel
theorem dL_law_88 : decode bL_law 88 = .ok (.iconst 1, 1) := by decide +kernel
theorem dL_law_89 : decode bL_law 89 = .ok (.iadd, 1) := by decide +kernel
theorem dL_law_90 : decode bL_law 90 = .ok (.iaload, 1) := by decide +kernel
theorem dL_law_91 : decode bL_law 91 = .ok (.aload_n 0, 1) := by decide +kernel
theorem dL_law_92 : decode bL_law 92 = .ok (.iload 4, 2) := by decide +kernel
theorem dL_law_94 : decode bL_law 94 = .ok (.iconst 2, 1) := by decide +kernel
theorem dL_law_95 : decode bL_law 95 = .ok (.iadd, 1) := by decide +kernel
theorem dL_law_96 : decode bL_law 96 = .ok (.iaload, 1) := by decide +kernel
theorem dL_law_97 : decode bL_law 97 = .ok (.i2l, 1) := by decide +kernel
theorem dL_law_98 : decode bL_law 98 = .ok (.bipush 32, 2) := by decide +kernel
theorem dL_law_100 : decode bL_law 100 = .ok (.lshl, 1) := by decide +kernel
theorem dL_law_101 : decode bL_law 101 = .ok (.aload_n 0, 1) := by decide +kernel
theorem dL_law_102 : decode bL_law 102 = .ok (.iload 4, 2) := by decide +kernel
theorem dL_law_104 : decode bL_law 104 = .ok (.iconst 3, 1) := by decide +kernel
theorem dL_law_105 : decode bL_law 105 = .ok (.iadd, 1) := by decide +kernel
theorem dL_law_106 : decode bL_law 106 = .ok (.iaload, 1) := by decide +kernel
theorem dL_law_107 : decode bL_law 107 = .ok (.i2l, 1) := by decide +kernel
theorem dL_law_108 : decode bL_law 108 = .ok (.ldc2_w 43, 3) := by decide +kernel
theorem dL_law_111 : decode bL_law 111 = .ok (.land, 1) := by decide +kernel
theorem dL_law_112 : decode bL_law 112 = .ok (.lor, 1) := by decide +kernel
theorem dL_law_113 : decode bL_law 113 = .ok (.aload_n 0, 1) := by decide +kernel
theorem dL_law_114 : decode bL_law 114 = .ok (.iload 4, 2) := by decide +kernel
theorem dL_law_116 : decode bL_law 116 = .ok (.iconst 4, 1) := by decide +kernel
theorem dL_law_117 : decode bL_law 117 = .ok (.iadd, 1) := by decide +kernel
theorem dL_law_118 : decode bL_law 118 = .ok (.iaload, 1) := by decide +kernel
theorem dL_law_119 : decode bL_law 119 = .ok (.aload_n 3, 1) := by decide +kernel
theorem dL_law_120 : decode bL_law 120 = .ok (.invokestatic 45, 3) := by decide +kernel
theorem dL_law_123 : decode bL_law 123 = .ok (.istore 5, 2) := by decide +kernel
theorem dL_law_125 : decode bL_law 125 = .ok (.aload_n 2, 1) := by decide +kernel
theorem dL_law_126 : decode bL_law 126 = .ok (.aload_n 0, 1) := by decide +kernel
theorem dL_law_127 : decode bL_law 127 = .ok (.iload 4, 2) := by decide +kernel
theorem dL_law_129 : decode bL_law 129 = .ok (.iconst 1, 1) := by decide +kernel
theorem dL_law_130 : decode bL_law 130 = .ok (.iadd, 1) := by decide +kernel
theorem dL_law_131 : decode bL_law 131 = .ok (.iaload, 1) := by decide +kernel
theorem dL_law_132 : decode bL_law 132 = .ok (.aload_n 0, 1) := by decide +kernel
theorem dL_law_133 : decode bL_law 133 = .ok (.iload 4, 2) := by decide +kernel
theorem dL_law_135 : decode bL_law 135 = .ok (.iconst 2, 1) := by decide +kernel
theorem dL_law_136 : decode bL_law 136 = .ok (.iadd, 1) := by decide +kernel
theorem dL_law_137 : decode bL_law 137 = .ok (.iaload, 1) := by decide +kernel
theorem dL_law_138 : decode bL_law 138 = .ok (.i2l, 1) := by decide +kernel
theorem dL_law_139 : decode bL_law 139 = .ok (.bipush 32, 2) := by decide +kernel
theorem dL_law_141 : decode bL_law 141 = .ok (.lshl, 1) := by decide +kernel
theorem dL_law_142 : decode bL_law 142 = .ok (.aload_n 0, 1) := by decide +kernel
theorem dL_law_143 : decode bL_law 143 = .ok (.iload 4, 2) := by decide +kernel
theorem dL_law_145 : decode bL_law 145 = .ok (.iconst 3, 1) := by decide +kernel
theorem dL_law_146 : decode bL_law 146 = .ok (.iadd, 1) := by decide +kernel
theorem dL_law_147 : decode bL_law 147 = .ok (.iaload, 1) := by decide +kernel
theorem dL_law_148 : decode bL_law 148 = .ok (.i2l, 1) := by decide +kernel
theorem dL_law_149 : decode bL_law 149 = .ok (.ldc2_w 43, 3) := by decide +kernel
theorem dL_law_152 : decode bL_law 152 = .ok (.land, 1) := by decide +kernel
theorem dL_law_153 : decode bL_law 153 = .ok (.lor, 1) := by decide +kernel
theorem dL_law_154 : decode bL_law 154 = .ok (.aload_n 0, 1) := by decide +kernel
theorem dL_law_155 : decode bL_law 155 = .ok (.iload 4, 2) := by decide +kernel
theorem dL_law_157 : decode bL_law 157 = .ok (.iconst 4, 1) := by decide +kernel
theorem dL_law_158 : decode bL_law 158 = .ok (.iadd, 1) := by decide +kernel
theorem dL_law_159 : decode bL_law 159 = .ok (.iaload, 1) := by decide +kernel
theorem dL_law_160 : decode bL_law 160 = .ok (.invokevirtual 50, 3) := by decide +kernel
theorem dL_law_163 : decode bL_law 163 = .ok (.istore 6, 2) := by decide +kernel
theorem dL_law_165 : decode bL_law 165 = .ok (.aload_n 2, 1) := by decide +kernel
theorem dL_law_166 : decode bL_law 166 = .ok (.invokevirtual 51, 3) := by decide +kernel
theorem dL_law_169 : decode bL_law 169 = .ok (.iload 5, 2) := by decide +kernel
theorem dL_law_171 : decode bL_law 171 = .ok (.if_icmp .eq 5, 3) := by decide +kernel
theorem dL_law_174 : decode bL_law 174 = .ok (.iconst 0, 1) := by decide +kernel
theorem dL_law_175 : decode bL_law 175 = .ok (.ireturn, 1) := by decide +kernel
theorem dL_law_176 : decode bL_law 176 = .ok (.iload 5, 2) := by decide +kernel
theorem dL_law_178 : decode bL_law 178 = .ok (.ifCond .ne 15, 3) := by decide +kernel
theorem dL_law_181 : decode bL_law 181 = .ok (.aload_n 3, 1) := by decide +kernel
theorem dL_law_182 : decode bL_law 182 = .ok (.iconst 0, 1) := by decide +kernel
theorem dL_law_183 : decode bL_law 183 = .ok (.laload, 1) := by decide +kernel
theorem dL_law_184 : decode bL_law 184 = .ok (.iload 6, 2) := by decide +kernel
theorem dL_law_186 : decode bL_law 186 = .ok (.i2l, 1) := by decide +kernel
theorem dL_law_187 : decode bL_law 187 = .ok (.lcmp, 1) := by decide +kernel
theorem dL_law_188 : decode bL_law 188 = .ok (.ifCond .eq 5, 3) := by decide +kernel
theorem dL_law_191 : decode bL_law 191 = .ok (.iconst 0, 1) := by decide +kernel
theorem dL_law_192 : decode bL_law 192 = .ok (.ireturn, 1) := by decide +kernel
theorem dL_law_193 : decode bL_law 193 = .ok (.goto 370, 3) := by decide +kernel
theorem dL_law_196 : decode bL_law 196 = .ok (.aload_n 1, 1) := by decide +kernel
theorem dL_law_197 : decode bL_law 197 = .ok (.aload_n 0, 1) := by decide +kernel
theorem dL_law_198 : decode bL_law 198 = .ok (.iload 4, 2) := by decide +kernel
theorem dL_law_200 : decode bL_law 200 = .ok (.iconst 1, 1) := by decide +kernel
theorem dL_law_201 : decode bL_law 201 = .ok (.iadd, 1) := by decide +kernel
theorem dL_law_202 : decode bL_law 202 = .ok (.iaload, 1) := by decide +kernel
theorem dL_law_203 : decode bL_law 203 = .ok (.aload_n 3, 1) := by decide +kernel
theorem dL_law_204 : decode bL_law 204 = .ok (.invokestatic 54, 3) := by decide +kernel
theorem dL_law_207 : decode bL_law 207 = .ok (.istore 5, 2) := by decide +kernel
theorem dL_law_209 : decode bL_law 209 = .ok (.aload_n 2, 1) := by decide +kernel
theorem dL_law_210 : decode bL_law 210 = .ok (.aload_n 0, 1) := by decide +kernel
theorem dL_law_211 : decode bL_law 211 = .ok (.iload 4, 2) := by decide +kernel
theorem dL_law_213 : decode bL_law 213 = .ok (.iconst 1, 1) := by decide +kernel
theorem dL_law_214 : decode bL_law 214 = .ok (.iadd, 1) := by decide +kernel
theorem dL_law_215 : decode bL_law 215 = .ok (.iaload, 1) := by decide +kernel
theorem dL_law_216 : decode bL_law 216 = .ok (.invokevirtual 57, 3) := by decide +kernel
theorem dL_law_219 : decode bL_law 219 = .ok (.lstore 6, 2) := by decide +kernel
theorem dL_law_221 : decode bL_law 221 = .ok (.aload_n 2, 1) := by decide +kernel
theorem dL_law_222 : decode bL_law 222 = .ok (.invokevirtual 51, 3) := by decide +kernel
theorem dL_law_225 : decode bL_law 225 = .ok (.iload 5, 2) := by decide +kernel
theorem dL_law_227 : decode bL_law 227 = .ok (.if_icmp .eq 5, 3) := by decide +kernel
theorem dL_law_230 : decode bL_law 230 = .ok (.iconst 0, 1) := by decide +kernel
theorem dL_law_231 : decode bL_law 231 = .ok (.ireturn, 1) := by decide +kernel
theorem dL_law_232 : decode bL_law 232 = .ok (.iload 5, 2) := by decide +kernel
theorem dL_law_234 : decode bL_law 234 = .ok (.ifCond .ne 14, 3) := by decide +kernel
theorem dL_law_237 : decode bL_law 237 = .ok (.aload_n 3, 1) := by decide +kernel
theorem dL_law_238 : decode bL_law 238 = .ok (.iconst 0, 1) := by decide +kernel
theorem dL_law_239 : decode bL_law 239 = .ok (.laload, 1) := by decide +kernel
theorem dL_law_240 : decode bL_law 240 = .ok (.lload 6, 2) := by decide +kernel
theorem dL_law_242 : decode bL_law 242 = .ok (.lcmp, 1) := by decide +kernel
theorem dL_law_243 : decode bL_law 243 = .ok (.ifCond .eq 5, 3) := by decide +kernel
theorem dL_law_246 : decode bL_law 246 = .ok (.iconst 0, 1) := by decide +kernel
theorem dL_law_247 : decode bL_law 247 = .ok (.ireturn, 1) := by decide +kernel
theorem dL_law_248 : decode bL_law 248 = .ok (.goto 315, 3) := by decide +kernel
theorem dL_law_251 : decode bL_law 251 = .ok (.aload_n 1, 1) := by decide +kernel
theorem dL_law_252 : decode bL_law 252 = .ok (.aload_n 3, 1) := by decide +kernel
theorem dL_law_253 : decode bL_law 253 = .ok (.invokestatic 58, 3) := by decide +kernel
theorem dL_law_256 : decode bL_law 256 = .ok (.istore 5, 2) := by decide +kernel
theorem dL_law_258 : decode bL_law 258 = .ok (.aload_n 2, 1) := by decide +kernel
theorem dL_law_259 : decode bL_law 259 = .ok (.invokevirtual 61, 3) := by decide +kernel
theorem dL_law_262 : decode bL_law 262 = .ok (.istore 6, 2) := by decide +kernel
theorem dL_law_264 : decode bL_law 264 = .ok (.aload_n 2, 1) := by decide +kernel
theorem dL_law_265 : decode bL_law 265 = .ok (.invokevirtual 51, 3) := by decide +kernel
theorem dL_law_268 : decode bL_law 268 = .ok (.iload 5, 2) := by decide +kernel
theorem dL_law_270 : decode bL_law 270 = .ok (.if_icmp .eq 5, 3) := by decide +kernel
theorem dL_law_273 : decode bL_law 273 = .ok (.iconst 0, 1) := by decide +kernel
theorem dL_law_274 : decode bL_law 274 = .ok (.ireturn, 1) := by decide +kernel
theorem dL_law_275 : decode bL_law 275 = .ok (.iload 5, 2) := by decide +kernel
theorem dL_law_277 : decode bL_law 277 = .ok (.ifCond .ne 15, 3) := by decide +kernel
theorem dL_law_280 : decode bL_law 280 = .ok (.aload_n 3, 1) := by decide +kernel
theorem dL_law_281 : decode bL_law 281 = .ok (.iconst 0, 1) := by decide +kernel
theorem dL_law_282 : decode bL_law 282 = .ok (.laload, 1) := by decide +kernel
theorem dL_law_283 : decode bL_law 283 = .ok (.iload 6, 2) := by decide +kernel
theorem dL_law_285 : decode bL_law 285 = .ok (.i2l, 1) := by decide +kernel
theorem dL_law_286 : decode bL_law 286 = .ok (.lcmp, 1) := by decide +kernel
theorem dL_law_287 : decode bL_law 287 = .ok (.ifCond .eq 5, 3) := by decide +kernel
theorem dL_law_290 : decode bL_law 290 = .ok (.iconst 0, 1) := by decide +kernel
theorem dL_law_291 : decode bL_law 291 = .ok (.ireturn, 1) := by decide +kernel
theorem dL_law_292 : decode bL_law 292 = .ok (.goto 271, 3) := by decide +kernel
theorem dL_law_295 : decode bL_law 295 = .ok (.aload_n 1, 1) := by decide +kernel
theorem dL_law_296 : decode bL_law 296 = .ok (.invokevirtual 62, 3) := by decide +kernel
theorem dL_law_299 : decode bL_law 299 = .ok (.aload_n 2, 1) := by decide +kernel
theorem dL_law_300 : decode bL_law 300 = .ok (.invokevirtual 66, 3) := by decide +kernel
theorem dL_law_303 : decode bL_law 303 = .ok (.lcmp, 1) := by decide +kernel
theorem dL_law_304 : decode bL_law 304 = .ok (.ifCond .eq 259, 3) := by decide +kernel
theorem dL_law_307 : decode bL_law 307 = .ok (.iconst 0, 1) := by decide +kernel
theorem dL_law_308 : decode bL_law 308 = .ok (.ireturn, 1) := by decide +kernel
theorem dL_law_309 : decode bL_law 309 = .ok (.aload_n 1, 1) := by decide +kernel
theorem dL_law_310 : decode bL_law 310 = .ok (.aload_n 0, 1) := by decide +kernel
theorem dL_law_311 : decode bL_law 311 = .ok (.iload 4, 2) := by decide +kernel
theorem dL_law_313 : decode bL_law 313 = .ok (.iconst 1, 1) := by decide +kernel
theorem dL_law_314 : decode bL_law 314 = .ok (.iadd, 1) := by decide +kernel
theorem dL_law_315 : decode bL_law 315 = .ok (.iaload, 1) := by decide +kernel
theorem dL_law_316 : decode bL_law 316 = .ok (.i2l, 1) := by decide +kernel
theorem dL_law_317 : decode bL_law 317 = .ok (.bipush 32, 2) := by decide +kernel
theorem dL_law_319 : decode bL_law 319 = .ok (.lshl, 1) := by decide +kernel
theorem dL_law_320 : decode bL_law 320 = .ok (.aload_n 0, 1) := by decide +kernel
theorem dL_law_321 : decode bL_law 321 = .ok (.iload 4, 2) := by decide +kernel
theorem dL_law_323 : decode bL_law 323 = .ok (.iconst 2, 1) := by decide +kernel
theorem dL_law_324 : decode bL_law 324 = .ok (.iadd, 1) := by decide +kernel
theorem dL_law_325 : decode bL_law 325 = .ok (.iaload, 1) := by decide +kernel
theorem dL_law_326 : decode bL_law 326 = .ok (.i2l, 1) := by decide +kernel
theorem dL_law_327 : decode bL_law 327 = .ok (.ldc2_w 43, 3) := by decide +kernel
theorem dL_law_330 : decode bL_law 330 = .ok (.land, 1) := by decide +kernel
theorem dL_law_331 : decode bL_law 331 = .ok (.lor, 1) := by decide +kernel
theorem dL_law_332 : decode bL_law 332 = .ok (.aload_n 3, 1) := by decide +kernel
theorem dL_law_333 : decode bL_law 333 = .ok (.invokestatic 67, 3) := by decide +kernel
theorem dL_law_336 : decode bL_law 336 = .ok (.istore 5, 2) := by decide +kernel
theorem dL_law_338 : decode bL_law 338 = .ok (.aload_n 2, 1) := by decide +kernel
theorem dL_law_339 : decode bL_law 339 = .ok (.aload_n 0, 1) := by decide +kernel
theorem dL_law_340 : decode bL_law 340 = .ok (.iload 4, 2) := by decide +kernel
theorem dL_law_342 : decode bL_law 342 = .ok (.iconst 1, 1) := by decide +kernel
theorem dL_law_343 : decode bL_law 343 = .ok (.iadd, 1) := by decide +kernel
theorem dL_law_344 : decode bL_law 344 = .ok (.iaload, 1) := by decide +kernel
theorem dL_law_345 : decode bL_law 345 = .ok (.i2l, 1) := by decide +kernel
theorem dL_law_346 : decode bL_law 346 = .ok (.bipush 32, 2) := by decide +kernel
theorem dL_law_348 : decode bL_law 348 = .ok (.lshl, 1) := by decide +kernel
theorem dL_law_349 : decode bL_law 349 = .ok (.aload_n 0, 1) := by decide +kernel
theorem dL_law_350 : decode bL_law 350 = .ok (.iload 4, 2) := by decide +kernel
theorem dL_law_352 : decode bL_law 352 = .ok (.iconst 2, 1) := by decide +kernel
theorem dL_law_353 : decode bL_law 353 = .ok (.iadd, 1) := by decide +kernel
theorem dL_law_354 : decode bL_law 354 = .ok (.iaload, 1) := by decide +kernel
theorem dL_law_355 : decode bL_law 355 = .ok (.i2l, 1) := by decide +kernel
theorem dL_law_356 : decode bL_law 356 = .ok (.ldc2_w 43, 3) := by decide +kernel
theorem dL_law_359 : decode bL_law 359 = .ok (.land, 1) := by decide +kernel
theorem dL_law_360 : decode bL_law 360 = .ok (.lor, 1) := by decide +kernel
theorem dL_law_361 : decode bL_law 361 = .ok (.invokevirtual 70, 3) := by decide +kernel
theorem dL_law_364 : decode bL_law 364 = .ok (.istore 6, 2) := by decide +kernel
theorem dL_law_366 : decode bL_law 366 = .ok (.aload_n 2, 1) := by decide +kernel
theorem dL_law_367 : decode bL_law 367 = .ok (.invokevirtual 51, 3) := by decide +kernel
theorem dL_law_370 : decode bL_law 370 = .ok (.iload 5, 2) := by decide +kernel
theorem dL_law_372 : decode bL_law 372 = .ok (.if_icmp .eq 5, 3) := by decide +kernel
theorem dL_law_375 : decode bL_law 375 = .ok (.iconst 0, 1) := by decide +kernel
theorem dL_law_376 : decode bL_law 376 = .ok (.ireturn, 1) := by decide +kernel
theorem dL_law_377 : decode bL_law 377 = .ok (.iload 5, 2) := by decide +kernel
theorem dL_law_379 : decode bL_law 379 = .ok (.ifCond .ne 15, 3) := by decide +kernel
theorem dL_law_382 : decode bL_law 382 = .ok (.aload_n 3, 1) := by decide +kernel
theorem dL_law_383 : decode bL_law 383 = .ok (.iconst 0, 1) := by decide +kernel
theorem dL_law_384 : decode bL_law 384 = .ok (.laload, 1) := by decide +kernel
theorem dL_law_385 : decode bL_law 385 = .ok (.iload 6, 2) := by decide +kernel
theorem dL_law_387 : decode bL_law 387 = .ok (.i2l, 1) := by decide +kernel
theorem dL_law_388 : decode bL_law 388 = .ok (.lcmp, 1) := by decide +kernel
theorem dL_law_389 : decode bL_law 389 = .ok (.ifCond .eq 5, 3) := by decide +kernel
theorem dL_law_392 : decode bL_law 392 = .ok (.iconst 0, 1) := by decide +kernel
theorem dL_law_393 : decode bL_law 393 = .ok (.ireturn, 1) := by decide +kernel
theorem dL_law_394 : decode bL_law 394 = .ok (.goto 169, 3) := by decide +kernel
theorem dL_law_397 : decode bL_law 397 = .ok (.aload_n 1, 1) := by decide +kernel
theorem dL_law_398 : decode bL_law 398 = .ok (.aload_n 3, 1) := by decide +kernel
theorem dL_law_399 : decode bL_law 399 = .ok (.invokestatic 71, 3) := by decide +kernel
theorem dL_law_402 : decode bL_law 402 = .ok (.istore 5, 2) := by decide +kernel
theorem dL_law_404 : decode bL_law 404 = .ok (.aload_n 2, 1) := by decide +kernel
theorem dL_law_405 : decode bL_law 405 = .ok (.invokevirtual 73, 3) := by decide +kernel
theorem dL_law_408 : decode bL_law 408 = .ok (.istore 6, 2) := by decide +kernel
theorem dL_law_410 : decode bL_law 410 = .ok (.aload_n 2, 1) := by decide +kernel
theorem dL_law_411 : decode bL_law 411 = .ok (.invokevirtual 51, 3) := by decide +kernel
theorem dL_law_414 : decode bL_law 414 = .ok (.iload 5, 2) := by decide +kernel
theorem dL_law_416 : decode bL_law 416 = .ok (.if_icmp .eq 5, 3) := by decide +kernel
theorem dL_law_419 : decode bL_law 419 = .ok (.iconst 0, 1) := by decide +kernel
theorem dL_law_420 : decode bL_law 420 = .ok (.ireturn, 1) := by decide +kernel
theorem dL_law_421 : decode bL_law 421 = .ok (.iload 5, 2) := by decide +kernel
theorem dL_law_423 : decode bL_law 423 = .ok (.ifCond .ne 15, 3) := by decide +kernel
theorem dL_law_426 : decode bL_law 426 = .ok (.aload_n 3, 1) := by decide +kernel
theorem dL_law_427 : decode bL_law 427 = .ok (.iconst 0, 1) := by decide +kernel
theorem dL_law_428 : decode bL_law 428 = .ok (.laload, 1) := by decide +kernel
theorem dL_law_429 : decode bL_law 429 = .ok (.iload 6, 2) := by decide +kernel
theorem dL_law_431 : decode bL_law 431 = .ok (.i2l, 1) := by decide +kernel
theorem dL_law_432 : decode bL_law 432 = .ok (.lcmp, 1) := by decide +kernel
theorem dL_law_433 : decode bL_law 433 = .ok (.ifCond .eq 5, 3) := by decide +kernel
theorem dL_law_436 : decode bL_law 436 = .ok (.iconst 0, 1) := by decide +kernel
theorem dL_law_437 : decode bL_law 437 = .ok (.ireturn, 1) := by decide +kernel
theorem dL_law_438 : decode bL_law 438 = .ok (.goto 125, 3) := by decide +kernel
theorem dL_law_441 : decode bL_law 441 = .ok (.aload_n 1, 1) := by decide +kernel
theorem dL_law_442 : decode bL_law 442 = .ok (.aload_n 0, 1) := by decide +kernel
theorem dL_law_443 : decode bL_law 443 = .ok (.iload 4, 2) := by decide +kernel
theorem dL_law_445 : decode bL_law 445 = .ok (.iconst 1, 1) := by decide +kernel
theorem dL_law_446 : decode bL_law 446 = .ok (.iadd, 1) := by decide +kernel
theorem dL_law_447 : decode bL_law 447 = .ok (.iaload, 1) := by decide +kernel
theorem dL_law_448 : decode bL_law 448 = .ok (.aload_n 0, 1) := by decide +kernel
theorem dL_law_449 : decode bL_law 449 = .ok (.iload 4, 2) := by decide +kernel
theorem dL_law_451 : decode bL_law 451 = .ok (.iconst 2, 1) := by decide +kernel
theorem dL_law_452 : decode bL_law 452 = .ok (.iadd, 1) := by decide +kernel
theorem dL_law_453 : decode bL_law 453 = .ok (.iaload, 1) := by decide +kernel
theorem dL_law_454 : decode bL_law 454 = .ok (.aload_n 3, 1) := by decide +kernel
theorem dL_law_455 : decode bL_law 455 = .ok (.invokestatic 74, 3) := by decide +kernel
theorem dL_law_458 : decode bL_law 458 = .ok (.istore 5, 2) := by decide +kernel
theorem dL_law_460 : decode bL_law 460 = .ok (.aload_n 2, 1) := by decide +kernel
theorem dL_law_461 : decode bL_law 461 = .ok (.aload_n 0, 1) := by decide +kernel
theorem dL_law_462 : decode bL_law 462 = .ok (.iload 4, 2) := by decide +kernel
theorem dL_law_464 : decode bL_law 464 = .ok (.iconst 1, 1) := by decide +kernel
theorem dL_law_465 : decode bL_law 465 = .ok (.iadd, 1) := by decide +kernel
theorem dL_law_466 : decode bL_law 466 = .ok (.iaload, 1) := by decide +kernel
theorem dL_law_467 : decode bL_law 467 = .ok (.aload_n 0, 1) := by decide +kernel
theorem dL_law_468 : decode bL_law 468 = .ok (.iload 4, 2) := by decide +kernel
theorem dL_law_470 : decode bL_law 470 = .ok (.iconst 2, 1) := by decide +kernel
theorem dL_law_471 : decode bL_law 471 = .ok (.iadd, 1) := by decide +kernel
theorem dL_law_472 : decode bL_law 472 = .ok (.iaload, 1) := by decide +kernel
theorem dL_law_473 : decode bL_law 473 = .ok (.invokevirtual 77, 3) := by decide +kernel
theorem dL_law_476 : decode bL_law 476 = .ok (.lstore 6, 2) := by decide +kernel
theorem dL_law_478 : decode bL_law 478 = .ok (.aload_n 2, 1) := by decide +kernel
theorem dL_law_479 : decode bL_law 479 = .ok (.invokevirtual 51, 3) := by decide +kernel
theorem dL_law_482 : decode bL_law 482 = .ok (.iload 5, 2) := by decide +kernel
theorem dL_law_484 : decode bL_law 484 = .ok (.if_icmp .eq 5, 3) := by decide +kernel
theorem dL_law_487 : decode bL_law 487 = .ok (.iconst 0, 1) := by decide +kernel
theorem dL_law_488 : decode bL_law 488 = .ok (.ireturn, 1) := by decide +kernel
theorem dL_law_489 : decode bL_law 489 = .ok (.iload 5, 2) := by decide +kernel
theorem dL_law_491 : decode bL_law 491 = .ok (.ifCond .ne 14, 3) := by decide +kernel
theorem dL_law_494 : decode bL_law 494 = .ok (.aload_n 3, 1) := by decide +kernel
theorem dL_law_495 : decode bL_law 495 = .ok (.iconst 0, 1) := by decide +kernel
theorem dL_law_496 : decode bL_law 496 = .ok (.laload, 1) := by decide +kernel
theorem dL_law_497 : decode bL_law 497 = .ok (.lload 6, 2) := by decide +kernel
theorem dL_law_499 : decode bL_law 499 = .ok (.lcmp, 1) := by decide +kernel
theorem dL_law_500 : decode bL_law 500 = .ok (.ifCond .eq 5, 3) := by decide +kernel
theorem dL_law_503 : decode bL_law 503 = .ok (.iconst 0, 1) := by decide +kernel
theorem dL_law_504 : decode bL_law 504 = .ok (.ireturn, 1) := by decide +kernel
theorem dL_law_505 : decode bL_law 505 = .ok (.goto 58, 3) := by decide +kernel
theorem dL_law_508 : decode bL_law 508 = .ok (.aload_n 1, 1) := by decide +kernel
theorem dL_law_509 : decode bL_law 509 = .ok (.aload_n 0, 1) := by decide +kernel
theorem dL_law_510 : decode bL_law 510 = .ok (.iload 4, 2) := by decide +kernel
theorem dL_law_512 : decode bL_law 512 = .ok (.iconst 1, 1) := by decide +kernel
theorem dL_law_513 : decode bL_law 513 = .ok (.iadd, 1) := by decide +kernel
theorem dL_law_514 : decode bL_law 514 = .ok (.iaload, 1) := by decide +kernel
theorem dL_law_515 : decode bL_law 515 = .ok (.aload_n 3, 1) := by decide +kernel
theorem dL_law_516 : decode bL_law 516 = .ok (.invokestatic 78, 3) := by decide +kernel
theorem dL_law_519 : decode bL_law 519 = .ok (.istore 5, 2) := by decide +kernel
theorem dL_law_521 : decode bL_law 521 = .ok (.aload_n 2, 1) := by decide +kernel
theorem dL_law_522 : decode bL_law 522 = .ok (.aload_n 0, 1) := by decide +kernel
theorem dL_law_523 : decode bL_law 523 = .ok (.iload 4, 2) := by decide +kernel
theorem dL_law_525 : decode bL_law 525 = .ok (.iconst 1, 1) := by decide +kernel
theorem dL_law_526 : decode bL_law 526 = .ok (.iadd, 1) := by decide +kernel
theorem dL_law_527 : decode bL_law 527 = .ok (.iaload, 1) := by decide +kernel
theorem dL_law_528 : decode bL_law 528 = .ok (.invokevirtual 80, 3) := by decide +kernel
theorem dL_law_531 : decode bL_law 531 = .ok (.lstore 6, 2) := by decide +kernel
theorem dL_law_533 : decode bL_law 533 = .ok (.aload_n 2, 1) := by decide +kernel
theorem dL_law_534 : decode bL_law 534 = .ok (.invokevirtual 51, 3) := by decide +kernel
theorem dL_law_537 : decode bL_law 537 = .ok (.iload 5, 2) := by decide +kernel
theorem dL_law_539 : decode bL_law 539 = .ok (.if_icmp .eq 5, 3) := by decide +kernel
theorem dL_law_542 : decode bL_law 542 = .ok (.iconst 0, 1) := by decide +kernel
theorem dL_law_543 : decode bL_law 543 = .ok (.ireturn, 1) := by decide +kernel
theorem dL_law_544 : decode bL_law 544 = .ok (.iload 5, 2) := by decide +kernel
theorem dL_law_546 : decode bL_law 546 = .ok (.ifCond .ne 14, 3) := by decide +kernel
theorem dL_law_549 : decode bL_law 549 = .ok (.aload_n 3, 1) := by decide +kernel
theorem dL_law_550 : decode bL_law 550 = .ok (.iconst 0, 1) := by decide +kernel
theorem dL_law_551 : decode bL_law 551 = .ok (.laload, 1) := by decide +kernel
theorem dL_law_552 : decode bL_law 552 = .ok (.lload 6, 2) := by decide +kernel
theorem dL_law_554 : decode bL_law 554 = .ok (.lcmp, 1) := by decide +kernel
theorem dL_law_555 : decode bL_law 555 = .ok (.ifCond .eq 5, 3) := by decide +kernel
theorem dL_law_558 : decode bL_law 558 = .ok (.iconst 0, 1) := by decide +kernel
theorem dL_law_559 : decode bL_law 559 = .ok (.ireturn, 1) := by decide +kernel
theorem dL_law_560 : decode bL_law 560 = .ok (.goto 3, 3) := by decide +kernel
theorem dL_law_563 : decode bL_law 563 = .ok (.iinc 4 5, 3) := by decide +kernel
theorem dL_law_566 : decode bL_law 566 = .ok (.goto (-543), 3) := by decide +kernel
theorem dL_law_569 : decode bL_law 569 = .ok (.iconst 1, 1) := by decide +kernel
theorem dL_law_570 : decode bL_law 570 = .ok (.ireturn, 1) := by decide +kernel
end
section
/-! Rows of our own for methods that throw: a contract that speaks of either outcome, the call of such a method, the end of one, and the catch. -/
section XTA
variable {p : Program} {l : Launch} {e : Env} {R : Room} {s : State} {m : MethodId} {args : Array Value} {below : List Frame} {meth : Method} {c : Code} {H : Heap} {locs : List Loc} {cells slots : Nat} {Q : State → Prop}
variable {y : MethodName} {bytes cc : ByteArray} {maxL nL mc ms n index : Nat} {ret : Option FieldType} {ws : List Cond} {rm : Room} {Pc : Array Value → State → Prop} {Qc : Array Value → State → Outcome → State → Prop} {free : Addr → Prop} {Ts : List Cond} {own C : String} {b : Addr} {As rest st0 : List Value} {g : JFrame} {pc : Nat} {ls : Array Slot}
/-- where the caller stands behind a call, by how it ended -/
def xt_at (T : State) (g : JFrame) (o : Outcome) : State := match o with
  | .returned v => T.setTop { g with pc := g.pc + 3, stack := v.toList ++ g.stack }
  | .threw q => (T.setTop g).pushFrame (.throwing q)
/-- the frame's word, for either outcome -/
def xt_End (st t : State) (mc ms : Nat) (free : Addr → Prop) : Prop := ∃ L : List Loc, st.WarmedH t.vm ∧ st.sameButNew ({ t with vm := st.vm } : State) L mc ms ∧ ∀ q ∈ L, free q.base
/-- a contract of a method that returns or throws: Qc says of which outcome what holds -/
def xt_Met (l : Launch) (y : MethodName) (ws : List Cond) (rm : Room) (Pc : Array Value → State → Prop) (Qc : Array Value → State → Outcome → State → Prop) (mc ms : Nat) (free : Addr → Prop) : Prop :=
  MetFree l y (headSpec ws rm) Pc (fun _ _ _ _ _ => True) (fun a st o t => Qc a st o t ∧ xt_End st t mc ms free)
theorem xt_do {T : State} (hM : xt_Met l y ws rm Pc Qc mc ms free) (hrc : rm.cells = mc) (hrs : rm.slots = ms) (hfr : rm.frames + 1 ≤ R.frames) (hlo : 8 + (maxL + 11) + rm.locals ≤ R.locals)
    (X : Stand p l e R s m args below meth c T locs cells slots) {a : Array Value} (hws : ∀ w ∈ ws, w.before a T = true) (hcode : (Cond.code y bytes maxL ret).before a T = true) (hini : (Cond.initialized y.cls).before a T = true)
    (hc : cells + mc ≤ R.cells) (hs : slots + ms ≤ R.slots) {ig : Instr} {mk : MethodId} (hg : g.method = m) (hsize : g.locals.size = c.maxLocals) (hdg : decode c.code g.pc = .ok (ig, 3))
    (hW : 2 * g.monitorRoom + (g.stack.map fun v => v.category).sum ≤ 8) (hn : T.methodNamed? y = some mk) (hP : Pc a (T.calling g mk a)) :
    ∃ (o : Outcome) (t T' : State) (L : List Loc), Stand p l e R s m args below meth c T' (locs ++ L) (cells + mc) (slots + ms) ∧ T'.heap = t.heap ∧ T'.vm = t.vm ∧ (∀ q ∈ L, free q.base) ∧
      Qc a (T.calling g mk a) o t ∧ Steps p.tables e below (doInvoke e (T.setTop g) [] mk a).1 (xt_at T' g o) := by
  subst hg
  have h := X.here
  obtain ⟨methY, cY, hmY, hcY, -, hlY, -, -, -, -⟩ := Cond.code_spec hn hcode
  obtain ⟨kY, hkY, -⟩ := className_of_methodNamed hn
  have hinitY : kY.init = .initialized := Cond.initialized_spec (findClass_of_methodNamed hn) hkY hini
  have h4 : cells + (headSpec ws rm).room.cells ≤ R.cells := by rw [show (headSpec ws rm).room.cells = mc from hrc]; exact hc
  have h5 : slots + (headSpec ws rm).room.slots ≤ R.slots := by rw [show (headSpec ws rm).room.slots = ms from hrs]; exact hs
  have hlo9 : 8 + (maxL + 11) + (headSpec ws rm).room.locals ≤ R.locals := hlo
  have happ : (headSpec ws rm).appliesLoose y e.platform (T.calling g mk a) = true :=
    Spec.appliesLoose_calling (g := g) h hdg hn hkY hinitY (X.room_calling (g := g) (R' := (headSpec ws rm).room) hsize hmY hcY hfr (by rw [hlY]; omega) h4 h5) (atoms_intro hws)
  obtain ⟨mid, hmid⟩ := h.above
  have hfr9 : (T.setTop g).frames = (.java g :: mid) ++ below := by rw [State.frames_setTop' g h.top, hmid]; rfl
  obtain ⟨o, t, hsteps, -, hend, hq⟩ := Steps.callFree hM p X.admits X.cas X.clock (acts := []) hfr9 happ hP trivial
  obtain ⟨hqc, L, hWt, hsame, hL⟩ : Qc a (T.calling g mk a) o t ∧ xt_End (T.calling g mk a) t mc ms free := hq
  rw [State.frames_setTop' g h.top] at hend
  obtain ⟨g₀, hg0⟩ := Option.isSome_iff_exists.mp h.top
  obtain ⟨r, hr⟩ := State.topJava?_eq_some.mp hg0
  obtain ⟨e2, q2, q3, q4, q5, q6⟩ := hsame
  have hW' : T.WarmedH t.vm := hWt
  have hr' : (({ T with heap := t.heap, slotsUsed := t.slotsUsed } : State).setVm t.vm).frames = .java g₀ :: r := hr
  have e3 : t = ({ (T.calling g mk a).setFrames t.frames with heap := t.heap, slotsUsed := t.slotsUsed } : State).setVm t.vm := by
    have : t = ({ t with vm := (T.calling g mk a).vm } : State).setVm t.vm := rfl
    rw [e2] at this
    exact this
  have hback : t = xt_at (({ T with heap := t.heap, slotsUsed := t.slotsUsed } : State).setVm t.vm) g o := by
    cases o with
    | returned v =>
      obtain ⟨c₂, i₂, len₂, hc₂, hd₂, hf₂⟩ := hend
      have hcc : c₂ = c := by
        have h1 : t.code? g.method = T.code? g.method := by rw [State.code?_eq, State.code?_eq, hW'.alike.method?]
        exact Option.some.inj (hc₂.symm.trans (h1.trans h.code))
      subst hcc
      have hlen : len₂ = 3 := by rw [hdg] at hd₂; cases hd₂; rfl
      subst hlen
      refine e3.trans ?_
      show _ = (({ T with heap := t.heap, slotsUsed := t.slotsUsed } : State).setVm t.vm).setTop { g with pc := g.pc + 3, stack := v.toList ++ g.stack }
      rw [hf₂, State.calling_eq h.top, State.setFrames_setFrames, State.setTop_of_frames _ hr', hr]
      rfl
    | threw q =>
      have hf₂ : t.frames = .throwing q :: .java g :: T.frames.tail := hend
      refine e3.trans ?_
      show _ = ((({ T with heap := t.heap, slotsUsed := t.slotsUsed } : State).setVm t.vm).setTop g).pushFrame (.throwing q)
      rw [hf₂, State.calling_eq h.top, State.setFrames_setFrames, State.pushFrame, State.frames_setTop _ hr', State.setTop_of_frames _ hr', State.setFrames_setFrames, hr]
      rfl
  have hsame9 : T.sameButNew ({ T with heap := t.heap, slotsUsed := t.slotsUsed } : State) L mc ms := by
    refine ⟨?_, q2, q3, q4, q5, q6⟩
    obtain ⟨th, ht, -⟩ := State.frames_cons hr
    show ({ T with heap := t.heap, slotsUsed := t.slotsUsed } : State) = { T.setFrames T.frames with heap := t.heap, slotsUsed := t.slotsUsed }
    rw [State.setFrames_self ht]
  refine ⟨o, t, ({ T with heap := t.heap, slotsUsed := t.slotsUsed } : State).setVm t.vm, L,
    ⟨X.admits, X.cas, X.clock, X.frames, X.room, X.hears, X.method, X.code, (X.here.setHeapUsed t.heap t.slotsUsed).setVm hW'.alike, X.tail, State.WarmedH.trans X.warmed hW', X.limits, X.bytes, X.same.trans (hsame9.setVm s.vm)⟩,
    rfl, rfl, hL, hqc, ?_⟩
  rw [← hback]
  exact hsteps
/-- a call of a method that returns or throws -/
def xt_Run (p : Program) (l : Launch) (e : Env) (R : Room) (s : State) (m : MethodId) (args : Array Value) (below : List Frame) (meth : Method) (c : Code) (H : Heap) (locs : List Loc) (cells slots mc ms : Nat) (g : JFrame) (rest : List Value) (Qa : State → Outcome → State → Prop) (free : Addr → Prop) : Prop :=
  ∀ T : State, T.heap = H → Stand p l e R s m args below meth c T locs cells slots → ∃ (o : Outcome) (st₀ t T' : State) (L : List Loc), st₀.heap = H ∧ s.vm.Alike st₀.vm ∧ Stand p l e R s m args below meth c T' (locs ++ L) (cells + mc) (slots + ms) ∧ (∀ q ∈ L, free q.base) ∧ T'.heap = t.heap ∧ T'.vm = t.vm ∧ Qa st₀ o t ∧
    ∀ tg, Steps p.tables e below (xt_at T' { g with stack := rest } o) tg → Steps p.tables e below (T.setTop g) tg
theorem xt_runV (S : CallFix p m c cc nL s args Ts own) (hM : xt_Met l y ws rm Pc Qc mc ms free) (cw : CallW R s args own C index y bytes maxL ret ws rm mc ms n) (hp : PreV s H C b Pc As)
    (hg : g.method = m) (hn : As.length = n) (hsize : g.locals.size = nL) (hstack : g.stack = As.reverse ++ .ref b :: rest) (hW : 2 * g.monitorRoom + (rest.map fun v => v.category).sum ≤ 8) (hdg : decode cc g.pc = .ok (.invokevirtual index, 3)) (hf : cells + mc ≤ R.cells ∧ slots + ms ≤ R.slots) :
    xt_Run p l e R s m args below meth c H locs cells slots mc ms g rest (Qc (Value.ref b :: As).toArray) free := by
  obtain ⟨⟨hrc, hrs, hfr, hlo, hws, hcw, hcode, hini, hy, hlen, hlink⟩, hinst, hsel⟩ := cw
  obtain ⟨hx, hb, hml, hown, -⟩ := S
  obtain ⟨hbl, ⟨cellB, hcB, hoB, hclB⟩, hPc⟩ := hp
  intro T hT X
  obtain ⟨mk, methM, hnamed, hmethM, hstM, habM⟩ := Cond.instanceMethod_spec hinst
  obtain ⟨methM', cM, hmethM', -, -, -, -, -, -, hsigM⟩ := Cond.code_spec hnamed hcode
  cases hmethM.symm.trans hmethM'
  obtain ⟨c2, r2, m2, q1, q2, q3, q4, kP, hkP, hkPi⟩ := Cond.selects_spec hsel
  cases hclB.symm.trans q1
  cases (State.methodFound?_of_named hnamed hy).symm.trans q2
  cases hnamed.symm.trans q3
  have hselP : selectMethod e.platform s.vm cellB.cls mk = .method mk := by rw [Launch.admits_selectMethod X.admits]; exact q4
  obtain ⟨vm₁, X₁, hstep₁⟩ := X.invokevirtual hx hown hlink hnamed hmethM hstM hkP hkPi hy (a := b) (cell := cellB) (by rw [hT]; exact hcB)
    (fun z h => by rw [h] at hoB; cases hoB) hselP hmethM habM hkP hkPi (g := g) hg (argsL := As) (rest := rest) (hn.trans (hlen _ hsigM)) hstack (by rw [hb]; exact hdg)
  obtain ⟨o, t, T', L, X', e1, e2, hL, hq, hsteps⟩ := xt_do (bytes := bytes) (maxL := maxL) (ret := ret) (g := { g with stack := rest }) (mk := mk) (a := (Value.ref b :: As).toArray) (ig := .invokevirtual index) hM hrc hrs hfr hlo X₁
    (fun w hw => hws w hw _ _ X₁.warmed) (hws _ hcw _ _ X₁.warmed) (word_at X₁.warmed (Or.inl (by first | rfl | simp [Cond.onTables, Cond.keeps, Cond.steady])) hini) hf.1 hf.2 hg (hsize.trans hml.symm) (by rw [hb]; exact hdg) hW (X₁.named hnamed) (hbl _ _ _ _ (hPc (T.setVm vm₁) hT X₁.warmed))
  exact ⟨o, (T.setVm vm₁).calling { g with stack := rest } mk (Value.ref b :: As).toArray, t, T', L, hT, X₁.warmed.alike, X', hL, e1, e2, hq, fun tg h => hstep₁ _ fun acts => by rw [doInvoke_state]; exact hsteps.trans h⟩
theorem xt_runS (S : CallFix p m c cc nL s args Ts own) (hM : xt_Met l y ws rm Pc Qc mc ms free) (cw : CallB R s args own index y bytes maxL ret ws rm mc ms n ∧ (Cond.static y).before args s = true) (hp : PreS s H Pc As)
    (hg : g.method = m) (hn : As.length = n) (hsize : g.locals.size = nL) (hstack : g.stack = As.reverse ++ rest) (hW : 2 * g.monitorRoom + (rest.map fun v => v.category).sum ≤ 8) (hdg : decode cc g.pc = .ok (.invokestatic index, 3)) (hf : cells + mc ≤ R.cells ∧ slots + ms ≤ R.slots) :
    xt_Run p l e R s m args below meth c H locs cells slots mc ms g rest (Qc As.toArray) free := by
  obtain ⟨⟨hrc, hrs, hfr, hlo, hws, hcw, hcode, hini, hy, hlen, hlink⟩, hstat⟩ := cw
  obtain ⟨hx, hb, hml, hown, -⟩ := S
  obtain ⟨hbl, hPc⟩ := hp
  intro T hT X
  obtain ⟨mk, hnamed⟩ := Cond.code_named hcode
  obtain ⟨methM, cM, hmethM, -, -, -, -, -, -, hsigM⟩ := Cond.code_spec hnamed hcode
  have hstatic : methM.isStatic = true := Cond.static_spec hnamed hmethM hstat
  obtain ⟨kP, hkP, -⟩ := className_of_methodNamed hnamed
  have hinitP : kP.init = .initialized := Cond.initialized_spec (findClass_of_methodNamed hnamed) hkP hini
  obtain ⟨vm₁, X₁, hstep₁⟩ := X.invokestatic hx hown hlink hnamed hmethM hstatic hkP hinitP hy (g := g) hg (argsL := As) (rest := rest) (hn.trans (hlen _ hsigM)) hstack (by rw [hb]; exact hdg)
  obtain ⟨o, t, T', L, X', e1, e2, hL, hq, hsteps⟩ := xt_do (bytes := bytes) (maxL := maxL) (ret := ret) (g := { g with stack := rest }) (mk := mk) (a := As.toArray) (ig := .invokestatic index) hM hrc hrs hfr hlo X₁
    (fun w hw => hws w hw _ _ X₁.warmed) (hws _ hcw _ _ X₁.warmed) (word_at X₁.warmed (Or.inl (by first | rfl | simp [Cond.onTables, Cond.keeps, Cond.steady])) hini) hf.1 hf.2 hg (hsize.trans hml.symm) (by rw [hb]; exact hdg) hW (X₁.named hnamed) (hbl _ _ _ _ (hPc (T.setVm vm₁) hT X₁.warmed))
  exact ⟨o, (T.setVm vm₁).calling { g with stack := rest } mk As.toArray, t, T', L, hT, X₁.warmed.alike, X', hL, e1, e2, hq, fun tg h => hstep₁ _ fun acts => by rw [doInvoke_state]; exact hsteps.trans h⟩
/-- the machine with the note 'q is thrown' on the frame g comes to a state with Q -/
def xt_W (p : Program) (l : Launch) (e : Env) (R : Room) (s : State) (m : MethodId) (args : Array Value) (below : List Frame) (meth : Method) (c : Code) (H : Heap) (locs : List Loc) (cells slots : Nat) (Q : State → Prop) (g : JFrame) (q : Addr) : Prop :=
  ∀ T : State, T.heap = H → Stand p l e R s m args below meth c T locs cells slots → ∃ t, Steps p.tables e below ((T.setTop g).pushFrame (.throwing q)) t ∧ Q t
theorem xt_call {Qa : State → Outcome → State → Prop} (hr : xt_Run p l e R s m args below meth c H locs cells slots mc ms (F0 m pc ls st0) rest Qa free)
    (kr : ∀ (v : Option Value) (st₀ t : State) (H1 : Heap) (L : List Loc), st₀.heap = H → s.vm.Alike st₀.vm → t.heap = H1 → s.vm.Alike t.vm → (∀ q ∈ L, free q.base) → Qa st₀ (.returned v) t → W p l e R s m args below meth c H1 (locs ++ L) (cells + mc) (slots + ms) Q (F0 m (pc + 3) ls (v.toList ++ rest)))
    (kt : ∀ (q : Addr) (st₀ t : State) (H1 : Heap) (L : List Loc), st₀.heap = H → s.vm.Alike st₀.vm → t.heap = H1 → s.vm.Alike t.vm → (∀ q ∈ L, free q.base) → Qa st₀ (.threw q) t → xt_W p l e R s m args below meth c H1 (locs ++ L) (cells + mc) (slots + ms) Q (F0 m pc ls rest) q) :
    W p l e R s m args below meth c H locs cells slots Q (F0 m pc ls st0) := by
  intro T hT X
  obtain ⟨o, st₀, t, T', L, h0, h1, X', hL, e1, e2, hq, st⟩ := hr T hT X
  have ha : s.vm.Alike t.vm := by rw [← e2]; exact X'.warmed.alike
  cases o with
  | returned v =>
    obtain ⟨t2, a1, b1⟩ := kr v st₀ t T'.heap L h0 h1 e1.symm ha hL hq T' rfl X'
    exact ⟨t2, st t2 a1, b1⟩
  | threw q =>
    obtain ⟨t2, a1, b1⟩ := kt q st₀ t T'.heap L h0 h1 e1.symm ha hL hq T' rfl X'
    exact ⟨t2, st t2 a1, b1⟩
/-- what a body owes at its end -/
def xt_MQ (below : List Frame) (Qc : Array Value → State → Outcome → State → Prop) (a : Array Value) (s : State) (mc ms : Nat) (free : Addr → Prop) : State → Prop := fun t =>
  ∃ o, t.status = .running ∧ Ended t below o ∧ Qc a s o t ∧ xt_End s t mc ms free
/-- the kit's rows of return serve -/
theorem xt_ret (k : W p l e R s m args below meth c H locs cells slots (MQ below Qc args s mc ms free) g) : W p l e R s m args below meth c H locs cells slots (xt_MQ below Qc args s mc ms free) g := by
  intro T hT X
  obtain ⟨t, a1, o, b1, b2, b3, L, ⟨-, hW, hs⟩, hf⟩ := k T hT X
  exact ⟨t, a1, o, b1, b2, b3, L, hW, hs, hf⟩
/-- no row of the table covers it: the method ends by the throw -/
theorem xt_out {q : Addr} (hout : ∀ x ∈ c.exceptionTable.toList, covers x pc = false) (hlocks : meth.locks = false) (hq : ∀ t : State, t.heap = H → s.WarmedH t.vm → Qc args s (.threw q) t)
    (hf : ∀ z ∈ locs, free z.base) (hc : cells ≤ mc) (hs : slots ≤ ms) : xt_W p l e R s m args below meth c H locs cells slots (xt_MQ below Qc args s mc ms free) (F0 m pc ls rest) q := by
  intro T hT X
  obtain ⟨st1, hrun, hend, hW, hsm⟩ := X.leaveThrown q (g := F0 m pc ls rest) rfl rfl rfl hout hlocks
  exact ⟨_, st1, .threw q, hrun, hend, hq _ hT hW, locs, hW, hsm.mono hc hs, hf⟩
/-- a contract out of a walk -/
theorem xt_ofW {ws' : List Cond} (hy : plainName y.cls = true) (hw : ws = Cond.code y cc maxL ret :: ws')
    (body : ∀ p e s m args below meth c s₁, BodyLoose p l y (headSpec ws rm) cc maxL ret e s m args below meth c s₁ → c.maxLocals = maxL → (∀ x ∈ c.exceptionTable.toList, ∀ pc, covers x pc = false) → l.admits e → Pc args s →
      W p l e (headSpec ws rm).room s m args below meth c s.heap [] 0 0 (xt_MQ below Qc args s mc ms free) (entryFrame m args maxL)) : xt_Met l y ws rm Pc Qc mc ms free := by
  refine MetFree.of_bodyS (code := cc) (maxLocals := maxL) (ret := ret) hy ?_ ?_
  · intro args s m h hn
    obtain ⟨meth, c, h1, h2, h3, h4, h5, h6, -, -⟩ := Cond.code_spec hn (atoms_spec (ws := ws) h _ (by rw [hw]; exact List.mem_cons_self))
    exact ⟨meth, c, h1, h2, h3, h4, h5, h6⟩
  · intro p e s m args below meth c s₁ B hml hP _
    have hh0 : s₁.heap = s.heap := by rw [B.state]; rfl
    have he : c.exceptionTable.isEmpty = true := B.noHandlers (atoms_spec (ws := ws) B.pre _ (by rw [hw]; exact List.mem_cons_self))
    have ht : ∀ x ∈ c.exceptionTable.toList, ∀ pc, covers x pc = false := by
      intro x hx
      rw [Array.isEmpty_iff.mp he] at hx
      cases hx
    obtain ⟨t, a1, o, b1, b2, b3⟩ := body p e s m args below meth c s₁ B hml ht B.admits hP s₁ hh0 (Stand.of_body B)
    exact ⟨t, o, a1, b1, b2, b3⟩
end XTA
section XTB
variable {p : Program} {l : Launch} {e : Env} {R : Room} {s : State} {m : MethodId} {args : Array Value} {below : List Frame} {meth : Method} {c : Code} {H : Heap} {locs : List Loc} {cells slots : Nat} {Q : State → Prop}
variable {cc : ByteArray} {Qc : Array Value → State → Outcome → State → Prop} {free : Addr → Prop} {own : String} {rest : List Value} {pc : Nat} {ls : Array Slot}
/-- the thrown object: of the class E, in a cell of its own; all that was there is there as it was -/
def xt_E (E : String) (st : State) (q : Addr) (t : State) : Prop := (∃ ce : Cell, t.heap[q]? = some ce ∧ ce.vm = .none ∧ st.vm.findClass E = some ce.cls) ∧ st.heap.size ≤ t.heap.size ∧ ∀ a : Nat, a < st.heap.size → t.heap[a]? = st.heap[a]?
theorem xt_E.of {E : String} {st st' t t' : State} {q : Addr} (h : xt_E E st q t) (hvm : st'.vm.Alike st.vm) (hh : st.heap = st'.heap) (ht : t'.heap = t.heap) : xt_E E st' q t' := by
  obtain ⟨⟨ce, h1, h2, h3⟩, h4, h5⟩ := h
  rw [hh] at h4 h5
  exact ⟨⟨ce, by rw [ht]; exact h1, h2, by rw [← hvm.findClass]; exact h3⟩, by rw [ht]; exact h4, fun a ha => by rw [ht]; exact h5 a ha⟩
theorem xt_old {s U : State} {k n : Nat} (h : s.sameButNew ({ U with vm := s.vm } : State) [] k n) : s.heap.size ≤ U.heap.size ∧ ∀ a : Nat, a < s.heap.size → U.heap[a]? = s.heap[a]? := by
  obtain ⟨-, h2, -, -, -, h6⟩ := h
  refine ⟨h2, fun a ha => ?_⟩
  obtain ⟨c9, e1, e2, e3, e4⟩ := h6 a _ (Array.getElem?_eq_getElem ha)
  have hsl : c9.slots = (s.heap[a]).slots := Array.ext_getElem? fun i => e4 i (by simp)
  rw [hsl] at e2
  have e5 : U.heap[a]? = some c9 := e1
  rw [e5, Array.getElem?_eq_getElem ha]
  exact congrArg some e2
/-- throw new E("text"), in a method that has written nothing so far -/
theorem xt_throw {E tx : String} {names : List String} {ik is ic q0 : Nat} (hexec : p.tables.exec = Jvm.exec) (hb : c.code = cc) (htr : e.platform.stackTraces = false) (hown : s.vm.findClass own = some m.cls) (hE : Bundle.fit E = true) (hnames : ∀ n ∈ names, Bundle.fit n = true)
    (hk : (Cond.classLink own ik E).before args s = true) (hini : (Cond.initialized E).before args s = true) (hZ : vk_R own is tx q0 s) (h : ∀ w ∈ Bundle.ownAtoms own ic E names, w.before args s = true)
    (hsize : ls.size = c.maxLocals) (d0 : decode cc pc = .ok (.new ik, 3)) (d3 : decode cc (pc + 3) = .ok (.dup, 1)) (d4 : decode cc (pc + 4) = .ok (.ldc is, 2)) (d6 : decode cc (pc + 6) = .ok (.invokespecial ic, 3)) (d9 : decode cc (pc + 9) = .ok (.athrow, 1))
    (hout : ∀ x ∈ c.exceptionTable.toList, covers x (pc + 9) = false) (hRf : names.length + 3 < R.frames) (hRl : (rest.map fun v => v.category).sum + (13 * (names.length + 1) + 43) ≤ R.locals) (hRc : 1 ≤ R.cells) (hRs : 6 ≤ R.slots) (hlocks : meth.locks = false)
    (hq : ∀ t : State, s.WarmedH t.vm → xt_E E s s.heap.size t → Qc args s (.threw s.heap.size) t) :
    W p l e R s m args below meth c s.heap [] 0 0 (xt_MQ below Qc args s 1 6 free) (F0 m pc ls rest) := by
  refine W.newc (n := 6) (C := E) hexec hb hown hk (h _ (by simp [Bundle.ownAtoms])) hini rfl d0 (by omega) (by omega) ?_
  intro cC kC h1 h2 h3 h4
  refine W.eq (g2 := F0 m (pc + 3) ls (.ref s.heap.size :: rest)) rfl ?_
  refine lv_dup hexec hb d3 rfl ?_
  refine W.eq (g2 := F0 m (pc + 4) ls (.ref s.heap.size :: .ref s.heap.size :: rest)) rfl ?_
  refine va_ldcS hexec hb hown hZ d4 ?_
  intro T hT X
  have hcat : (Value.ref s.heap.size).category = 1 := rfl
  obtain ⟨U, hsteps, hrun, hend, hW, hsame, ce, hce, hO⟩ := X.ctorThrowS hexec htr (own := own) (cls := E) (names := names) (ic := ic) hown hE hnames h (fun x hx => nomatch hx) h1 h2 (a := s.heap.size) (by rw [hT]; simp) (Nat.le_refl _) (msg := .ref q0) rfl
    (g := F0 m (pc + 4 + 2) ls (.ref q0 :: .ref s.heap.size :: .ref s.heap.size :: rest)) rfl hsize rfl rfl (rest := rest) rfl (by rw [hb]; exact d6) (by rw [hb]; exact d9) hout hRf (by show 2 * 0 + _ + _ ≤ _; simp only [List.map_cons, List.sum_cons, hcat]; omega) hlocks
  obtain ⟨f1, f2⟩ := xt_old hsame
  exact ⟨U, hsteps, .threw s.heap.size, hrun, hend, hq U hW ⟨⟨ce, hce, hO.vm, hO.cls⟩, f1, f2⟩, [], hW, hsame, fun q hq => nomatch hq⟩
/-- one row of a table, its class linked but maybe not yet resolved -/
theorem xt_go {Q : Handler → Pre} {E : CtlPost} {d : Bool} {acts : List Action} {f : JFrame} {a : Addr} {x : ExceptionTableEntry} {t : List ExceptionTableEntry} {k : ClassId} {cell : Cell} (hx : covers x f.pc = true) (h0 : x.catchType ≠ 0)
    (hl : s.vm.ClassLinks e.platform f.method.cls x.catchType k) (hcell : s.heap[a]? = some cell) (hobj : ∀ z, cell.vm ≠ .statics z) (hk1 : ∃ z, s.vm.classes[cell.cls]? = some z) (hk2 : ∃ z, s.vm.classes[k]? = some z) {yes : Bool} (hfit : s.vm.assignable cell.cls k = yes) :
    wp (findHandler.go f a (x :: t)) Q E e d acts s ↔ (if yes = true then Q (.found x.handlerPc) d acts (s.setVm (s.vm.noted f.method.cls x.catchType (.cls k))) else wp (findHandler.go f a t) Q E e d acts (s.setVm (s.vm.noted f.method.cls x.catchType (.cls k)))) := by
  simp only [covers] at hx
  obtain ⟨ha, ht⟩ := (resolveClass_links e.toSetting hl).op (op := VmOp.resolveClass f.method.cls x.catchType) rfl
  have hal : s.vm.Alike (s.vm.noted f.method.cls x.catchType (.cls k)) := (Vm.Alike.refl s.vm).noted _ _ _
  obtain ⟨z1, hz1⟩ := hk1
  obtain ⟨z2, hz2⟩ := hk2
  obtain ⟨y1, hy1, -⟩ := hal.2.2 _ _ hz1
  obtain ⟨y2, hy2, -⟩ := hal.2.2 _ _ hz2
  have hf9 : (s.vm.noted f.method.cls x.catchType (.cls k)).assignable cell.cls k = yes := by rw [hal.assignable]; exact hfit
  cases yes <;> simp [findHandler.go, hx, h0, ha, ht, hcell, hobj, hy1, hy2, hf9, VmOp.dirties, VmOp.acts]
/-- the step to the handler -/
theorem xt_caught {T target : State} {g : JFrame} {a : Addr} {vm' : Vm} (X : Stand p l e R s m args below meth c T locs cells slots) (hg : g.method = m)
    (hfind : ∀ (Q : Handler → Pre) (E : CtlPost) (d : Bool) (acts : List Action), wp (findHandler g a) Q E e d acts ((T.setTop g).pushFrame (.throwing a)) ↔ Q (.found pc) d acts (((T.setTop g).pushFrame (.throwing a)).setVm vm'))
    (hrest : Steps p.tables e below ((T.setVm vm').setTop { g with pc := pc, stack := [.ref a] }) target) : Steps p.tables e below ((T.setTop g).pushFrame (.throwing a)) target := by
  have h : At T g.method c below := by rw [hg]; exact X.here
  obtain ⟨hgo, hw⟩ := h.throwing a
  refine Steps.head hgo hw ?_
  have hstep : ∀ r : List Frame, (stepThrowing e ((T.setTop g).pushFrame (.throwing a)) a (.java g :: r)).1 = (((T.setTop g).pushFrame (.throwing a)).setVm vm').setFrames (.java { g with pc := pc, stack := [.ref a] } :: r) := by
    intro r
    simp only [stepThrowing, searchFrame, vmDo]
    generalize hres : Sem.go _ e false [] _ = res
    obtain ⟨as, rfl, ha⟩ := Sem.eq_ok_of hres (a := Handler.found pc) (s' := ((T.setTop g).pushFrame (.throwing a)).setVm vm') (acts' := []) (by simp [hfind])
    rfl
  rw [stepThread_throwing (frames_entered h.top _), hstep]
  obtain ⟨g₀, hfr⟩ := X.frames_eq
  have hfr' : (T.setVm vm').frames = .java g₀ :: below := hfr
  rw [State.setTop_of_frames _ hfr'] at hrest
  have e1 : ∀ (F G : List Frame), ((T.setFrames F).setVm vm').setFrames G = (T.setVm vm').setFrames G := by
    intro F G
    show ((T.setVm vm').setFrames F).setFrames G = _
    rw [State.setFrames_setFrames]
  rw [State.pushFrame, State.setTop_of_frames _ hfr, State.setFrames_setFrames, e1, X.tail]
  exact hrest
/-- the first row of the table catches -/
theorem xt_catch1 {E nm : String} {q : Addr} {ce : Cell} (hown : s.vm.findClass own = some m.cls) (x : ExceptionTableEntry) (suf : List ExceptionTableEntry) (hsplit : c.exceptionTable.toList = x :: suf) (hx : covers x pc = true) (h0 : x.catchType ≠ 0)
    (hlink : (Cond.classLink own x.catchType nm).before args s = true) (hcast : (Cond.castable E nm).before args s = true) (hcell : H[q]? = some ce) (hv : ce.vm = .none) (hcl : s.vm.findClass E = some ce.cls)
    (kk : W p l e R s m args below meth c H locs cells slots Q (F0 m x.handlerPc ls [.ref q])) : xt_W p l e R s m args below meth c H locs cells slots Q (F0 m pc ls rest) q := by
  intro T hT X
  have hpl : e.platform.magicAccessors = ({} : Platform).magicAccessors := by rw [X.admits.platform]
  obtain ⟨c3, c4, hc3, hc4, hasg⟩ := Cond.castable_spec hcast
  cases Option.some.inj (hc3.symm.trans hcl)
  obtain ⟨c5, hc5, hl5⟩ := Cond.classLink_spec hown hlink e.platform hpl
  cases Option.some.inj (hc4.symm.trans hc5)
  have hal := X.warmed.alike
  obtain ⟨dk, _, _, kt, hd, _, _, _, _, hkt, _, hopen⟩ := hl5.here
  obtain ⟨k1, hk1⟩ := Vm.classAt_of_findClass hcl
  obtain ⟨k1', hk1', -⟩ := hal.2.2 _ _ hk1
  obtain ⟨kt', hkt', -⟩ := hal.2.2 _ _ hkt
  have hW' := X.warmed.noted hd hopen (State.rightAt_cls hl5)
  have X' := X.noted hW'
  obtain ⟨t, a1, b1⟩ := kk (T.setVm (T.vm.noted m.cls x.catchType (.cls c4))) hT X'
  refine ⟨t, xt_caught X rfl (fun Q E d acts => ?_) a1, b1⟩
  rw [Jvm.W.findHandler_eq (s := (T.setTop (F0 m pc ls rest)).pushFrame (.throwing q)) (f := F0 m pc ls rest) (a := q) (meth := meth) (code := c) X.method' X.code, hsplit]
  exact xt_go (e := e) (f := F0 m pc ls rest) (a := q) (cell := ce) (s := (T.setTop (F0 m pc ls rest)).pushFrame (.throwing q)) (yes := true) hx h0 (X.warmed.classLinks hl5) (by show T.heap[q]? = some ce; rw [hT]; exact hcell) (fun z => by rw [hv]; simp) ⟨k1', hk1'⟩ ⟨kt', hkt'⟩ (by show T.vm.assignable _ _ = true; rw [hal.assignable]; exact hasg)
/-- the first row passes, the second catches -/
theorem xt_catch2 {E nm nz : String} {q : Addr} {ce : Cell} (hown : s.vm.findClass own = some m.cls) (z x : ExceptionTableEntry) (suf : List ExceptionTableEntry) (hsplit : c.exceptionTable.toList = z :: x :: suf) (hz : covers z pc = true) (hz0 : z.catchType ≠ 0) (hzl : (Cond.classLink own z.catchType nz).before args s = true) (hno : va_Nc E nz s)
    (hx : covers x pc = true) (h0 : x.catchType ≠ 0) (hlink : (Cond.classLink own x.catchType nm).before args s = true) (hcast : (Cond.castable E nm).before args s = true) (hcell : H[q]? = some ce) (hv : ce.vm = .none) (hcl : s.vm.findClass E = some ce.cls)
    (kk : W p l e R s m args below meth c H locs cells slots Q (F0 m x.handlerPc ls [.ref q])) : xt_W p l e R s m args below meth c H locs cells slots Q (F0 m pc ls rest) q := by
  intro T hT X
  have hpl : e.platform.magicAccessors = ({} : Platform).magicAccessors := by rw [X.admits.platform]
  obtain ⟨c3, c4, hc3, hc4, hasg⟩ := Cond.castable_spec hcast
  cases Option.some.inj (hc3.symm.trans hcl)
  obtain ⟨c5, hc5, hl5⟩ := Cond.classLink_spec hown hlink e.platform hpl
  cases Option.some.inj (hc4.symm.trans hc5)
  obtain ⟨c6, hc6, hl6⟩ := Cond.classLink_spec hown hzl e.platform hpl
  obtain ⟨a8, b8, g1, g2, g3⟩ := hno
  cases Option.some.inj (g1.symm.trans hcl)
  cases Option.some.inj (g2.symm.trans hc6)
  have hal := X.warmed.alike
  obtain ⟨dk, _, _, kt, hd, _, _, _, _, hkt, _, hopen⟩ := hl5.here
  obtain ⟨dk6, _, _, kt6, hd6, _, _, _, _, hkt6, _, hopen6⟩ := hl6.here
  obtain ⟨k1, hk1⟩ := Vm.classAt_of_findClass hcl
  obtain ⟨k1', hk1', -⟩ := hal.2.2 _ _ hk1
  obtain ⟨kt6', hkt6', -⟩ := hal.2.2 _ _ hkt6
  have hW1 := X.warmed.noted hd6 hopen6 (State.rightAt_cls hl6)
  have hal1 := hW1.alike
  obtain ⟨k1'', hk1'', -⟩ := hal1.2.2 _ _ hk1
  obtain ⟨kt', hkt', -⟩ := hal1.2.2 _ _ hkt
  have hW2 := hW1.noted hd hopen (State.rightAt_cls hl5)
  have X' := X.noted hW2
  obtain ⟨t, a1, b1⟩ := kk (T.setVm ((T.vm.noted m.cls z.catchType (.cls c6)).noted m.cls x.catchType (.cls c4))) hT X'
  refine ⟨t, xt_caught X rfl (fun Q E d acts => ?_) a1, b1⟩
  rw [Jvm.W.findHandler_eq (s := (T.setTop (F0 m pc ls rest)).pushFrame (.throwing q)) (f := F0 m pc ls rest) (a := q) (meth := meth) (code := c) X.method' X.code, hsplit]
  have hce : T.heap[q]? = some ce := by rw [hT]; exact hcell
  refine (xt_go (e := e) (f := F0 m pc ls rest) (a := q) (cell := ce) (s := (T.setTop (F0 m pc ls rest)).pushFrame (.throwing q)) (yes := false) hz hz0 (X.warmed.classLinks hl6) hce (fun z => by rw [hv]; simp) ⟨k1', hk1'⟩ ⟨kt6', hkt6'⟩ (by show T.vm.assignable _ _ = false; rw [hal.assignable]; exact g3)).trans ?_
  exact xt_go (e := e) (f := F0 m pc ls rest) (a := q) (cell := ce) (s := ((T.setTop (F0 m pc ls rest)).pushFrame (.throwing q)).setVm (T.vm.noted m.cls z.catchType (.cls c6))) (yes := true) hx h0 (hW1.classLinks hl5) hce (fun z => by rw [hv]; simp) ⟨k1'', hk1''⟩ ⟨kt', hkt'⟩ (by show (T.vm.noted m.cls z.catchType (.cls c6)).assignable _ _ = true; rw [hal1.assignable]; exact hasg)
end XTB
section XTC
variable {p : Program} {l : Launch} {e : Env} {R : Room} {s : State} {m : MethodId} {args : Array Value} {below : List Frame} {meth : Method} {c : Code} {H : Heap} {locs : List Loc} {cells slots : Nat} {Q : State → Prop}
variable {y : MethodName} {bytes cc : ByteArray} {maxL nL mc ms n index : Nat} {ret : Option FieldType} {hh : List (Nat × Nat × Nat × Nat)} {ws ws' : List Cond} {rm : Room} {Pc : Array Value → State → Prop} {Qc : Array Value → State → Outcome → State → Prop} {free : Addr → Prop} {Ts : List Cond} {own : String} {As rest : List Value} {g : JFrame}
/-- the table of a method with handlers -/
theorem xt_table {S : Spec} {s₁ : State} {maxL' : Nat} {ret' : Option FieldType} (B : BodyLoose p l y S cc maxL ret e s m args below meth c s₁) (h : (Cond.codeWith y bytes maxL' ret' hh).before args s = true) : c.exceptionTable.toList.map (fun h => (h.startPc, h.endPc, h.handlerPc, h.catchType)) = hh := by
  obtain ⟨m9, meth9, c9, hn9, h1, h2, -, -, h6, -⟩ := Cond.codeWith_spec h
  cases Option.some.inj (B.named.symm.trans hn9)
  cases Option.some.inj (B.method.symm.trans h1)
  cases Option.some.inj ((Stand.of_body B).code.symm.trans h2)
  exact h6
/-- a static method with handlers, called: it returns -/
theorem xt_runSW (S : CallFix p m c cc nL s args Ts own) (hM : Met l y ws rm Pc Qc mc ms free) (hw : ws = Cond.codeWith y bytes maxL ret hh :: ws') (hG : GoodIn Ts (wsS own index y ws)) (hrc : rm.cells = mc) (hrs : rm.slots = ms)
    (hd : y.cls = own ∧ y.cls ≠ "java/lang/invoke/MethodHandle" ∧ y.cls ≠ "java/lang/invoke/VarHandle" ∧ (parseMethodDescriptor y.desc).map (fun d => d.parameters.length) = some n) (hR : rm.frames + 1 ≤ R.frames ∧ 8 + (maxL + 11) + rm.locals ≤ R.locals) (hp : PreS s H Pc As)
    (hg : g.method = m) (hn : As.length = n) (hsize : g.locals.size = nL) (hstack : g.stack = As.reverse ++ rest) (hW : 2 * g.monitorRoom + (rest.map fun v => v.category).sum ≤ 8) (hdg : decode cc g.pc = .ok (.invokestatic index, 3)) (hf : cells + mc ≤ R.cells ∧ slots + ms ≤ R.slots) :
    va_Run p l e R s m args below meth c H locs cells slots mc ms g rest (Qc As.toArray) free := by
  obtain ⟨hx, hb, hml, hown, hts⟩ := S
  obtain ⟨hC, hd⟩ := hd
  have ok : ∀ w ∈ wsS own index y ws, w.before args s = true := fun w h => hts w (hG w h).1
  have hG' : GoodIn Ts ws := fun w h => hG w (by unfold wsS; exact List.mem_append_right _ h)
  have hc : Cond.codeWith y bytes maxL ret hh ∈ ws := by rw [hw]; exact List.mem_cons_self
  have hcode : (Cond.codeWith y bytes maxL ret hh).before args s = true := hts _ (hG' _ hc).1
  have hini : (Cond.initialized y.cls).before args s = true := by rw [hC]; exact ok _ (by simp [wsS])
  have hstat : (Cond.static y).before args s = true := ok _ (by simp [wsS])
  have hlink : (Cond.methodLink own index y).before args s = true := ok _ (by simp [wsS])
  have hK : Back l R p e below s args y 3 8 (PreOf R mc ms Pc) (PostOf Qc mc ms free) := va_backW (hh := hh) (bytes := bytes) (maxL := maxL) (ret := ret) hM hp.1 hrc hrs hR.1 hR.2 (pay_in hts hG') hc (fun a' U hW => word_at hW (Or.inl (by first | rfl | simp [Cond.onTables, Cond.keeps, Cond.steady])) hini)
  intro T hT X
  obtain ⟨mk, methM, cM, hnamed, hmethM, -, -, -, -, -, -, hsigM⟩ := Cond.codeWith_spec hcode
  have hstatic : methM.isStatic = true := Cond.static_spec hnamed hmethM hstat
  obtain ⟨kP, hkP, -⟩ := className_of_methodNamed hnamed
  have hinitP : kP.init = .initialized := Cond.initialized_spec (findClass_of_methodNamed hnamed) hkP hini
  have hlen : As.length = methM.sig.parameters.length := by
    have h2 := hd.2.2
    rw [hsigM] at h2
    exact hn.trans (Option.some.inj h2).symm
  obtain ⟨vm₁, X₁, hstep₁⟩ := X.invokestatic hx hown hlink hnamed hmethM hstatic hkP hinitP ⟨hd.1, hd.2.1⟩ (g := g) hg (argsL := As) (rest := rest) hlen hstack (by rw [hb]; exact hdg)
  obtain ⟨v, ⟨U', l2, c2, s2⟩, X', ⟨g', mk', t, L, e1, e2, hq, h1, hL, h2, h3⟩, hsteps⟩ := hK m meth c ⟨T.setVm vm₁, locs, cells, slots⟩ { g with stack := rest } (.invokestatic index) mk As.toArray X₁ hg (hsize.trans hml.symm) (by rw [hb]; exact hdg) hW (X₁.named hnamed) ⟨hf.1, hf.2, hp.2 (T.setVm vm₁) hT X₁.warmed⟩
  dsimp only [Pt.U, Pt.locs, Pt.cells, Pt.slots] at X' e1 e2 h1 h2 h3 hsteps
  subst h1; subst h2; subst h3
  exact ⟨v, (T.setVm vm₁).calling g' mk' As.toArray, t, U', L, hT, X', hL, e1, e2, hq, fun target h => hstep₁ _ fun acts => by rw [doInvoke_state]; exact hsteps.trans h⟩
end XTC
section XTD
/-- a static reference field of Throwable, and the cell where it lies -/
def xt_st (n d : String) (U : State) (H : Heap) : Prop := ∃ (k : ClassId) (kk : Class) (i : Nat) (f : Field) (a : Nat) (cell : Cell) (v : Value), U.vm.findClass Bundle.tN = some k ∧ U.fieldFound? Bundle.tN n d = some (k, kk, i, f) ∧ f.isStatic = true ∧ kk.statics = some a ∧ H[a]? = some cell ∧ cell.vm.isStatics = true ∧ cell.cls = k ∧ f.slot < cell.slots.size ∧ kk.staticTypes[f.slot]? = some f.type ∧ cell.slots[f.slot]? = some v ∧ v.isRef = true
theorem xt_st.moved {n d : String} {u U : State} {H : Heap} (hvm : u.vm.Alike U.vm) (h : xt_st n d u H) : xt_st n d U H := by
  obtain ⟨k, kk, i, f, a, cell, v, h1, h2, h3, h4, h5, h6, h7, h8, h9, h10, h11⟩ := h
  obtain ⟨k', hi', he⟩ := State.fieldFound?_setVm hvm h2
  exact ⟨k, k', i, f, a, cell, v, by rw [hvm.findClass]; exact h1, hi', h3, by rw [he]; exact h4, h5, h6, h7, h8, by rw [he]; exact h9, h10, h11⟩
theorem xt_st.kept {n d : String} {U : State} {H H1 : Heap} (h : xt_st n d U H) (hq : ∀ a : Nat, a < H.size → H1[a]? = H[a]?) : xt_st n d U H1 := by
  obtain ⟨k, kk, i, f, a, cell, v, h1, h2, h3, h4, h5, h6⟩ := h
  exact ⟨k, kk, i, f, a, cell, v, h1, h2, h3, h4, by rw [hq a (Array.getElem?_eq_some_iff.mp h5).1]; exact h5, h6⟩
theorem xt_st.lays {n d : String} {s : State} {args : Array Value} (h : xt_st n d s s.heap) : (Cond.laysStatic Bundle.tN n d).before args s = true := by
  obtain ⟨k, kk, i, f, a, cell, v, h1, h2, h3, h4, h5, h6, h7, h8, h9, -⟩ := h
  show (Cond.laysStatic Bundle.tN n d).holds args s none s [] = true
  exact Cond.laysStatic_of h1 h2 h3 h4 h5 h6 h7 h8 h9
theorem xt_st.isRef {n d : String} {s : State} {args : Array Value} (h : xt_st n d s s.heap) : (Cond.isRef (.static Bundle.tN n d)).before args s = true := by
  obtain ⟨k, kk, i, f, a, cell, v, h1, h2, h3, h4, h5, h6, h7, h8, h9, h10, h11⟩ := h
  have he : (Term.static Bundle.tN n d).eval args s none [] s = some v := by
    simp [Term.eval, State.fieldNamed?, h2, h3, h4, h5, h6, h10]
  simp only [Cond.before, Cond.holds, Cond.value, he]
  cases v <;> simp_all [Value.isRef]
theorem xt_st.of {n d : String} {s : State} {args : Array Value} (hl : (Cond.laysStatic Bundle.tN n d).before args s = true) (h : (Cond.isRef (.static Bundle.tN n d)).before args s = true) : xt_st n d s s.heap := by
  obtain ⟨k, kk, i, f, a, cell, h1, h2, h3, h4, h5, h6, h7, h8, h9⟩ := Cond.laysStatic_spec hl
  obtain ⟨u, hu⟩ := Cond.staticRefV h2 h3 h4 h5 h6 h
  exact ⟨k, kk, i, f, a, cell, u.v, h1, h2, h3, h4, h5, h6, h7, h8, h9, hu, u.2⟩
theorem xt_decl {x : MethodName} {u U : State} (hvm : u.vm.Alike U.vm) (h : va_Nw (.declares x) u) : va_Nw (.declares x) U :=
  va_tabs rfl (rfl : (u.setVm U.vm).vm = U.vm) (show (Cond.declares x).before #[] (u.setVm U.vm) = true by rw [Cond.declares_setVm hvm]; exact h)
theorem xt_cast {a b : String} {u U : State} (hvm : u.vm.Alike U.vm) (h : va_Nw (.castable a b) u) : va_Nw (.castable a b) U :=
  va_tabs rfl (rfl : (u.setVm U.vm).vm = U.vm) (show (Cond.castable a b).before #[] (u.setVm U.vm) = true by rw [Cond.castable_setVm hvm]; exact h)
end XTD
end
section
/-! The picture of the timers, for the class and for the reference alike: th (is it there), tm (TIME), pr (PRIORITY), ag (AGE), each by its place; ck the CLOCK. -/
def tw_due (th : Nat → Int32) (tm : Nat → Int64) (ck : Int64) (i : Int32) : Bool := decide (¬ th i.toNatClampNeg = 0) && decide (tm i.toNatClampNeg ≤ ck)
def tw_bef (tm : Nat → Int64) (pr ag : Nat → Int32) (a b : Int32) : Bool :=
  if tm a.toNatClampNeg = tm b.toNatClampNeg then (if pr a.toNatClampNeg = pr b.toNatClampNeg then decide (ag a.toNatClampNeg < ag b.toNatClampNeg) else decide (pr b.toNatClampNeg < pr a.toNatClampNeg)) else decide (tm a.toNatClampNeg < tm b.toNatClampNeg)
def tw_first (th : Nat → Int32) (tm : Nat → Int64) (pr ag : Nat → Int32) (ck : Int64) : Nat → Int32
  | 0 => -1
  | n + 1 => if tw_due th tm ck (nI n) = true ∧ (tw_first th tm pr ag ck n = -1 ∨ tw_bef tm pr ag (nI n) (tw_first th tm pr ag ck n) = true) then nI n else tw_first th tm pr ag ck n
def tw_least (th : Nat → Int32) (tm : Nat → Int64) (ck : Int64) : Nat → Int64
  | 0 => -1
  | n + 1 => if ¬ th (nI n).toNatClampNeg = 0 ∧ ck < tm (nI n).toNatClampNeg ∧ (tw_least th tm ck n = -1 ∨ tm (nI n).toNatClampNeg < tw_least th tm ck n) then tm (nI n).toNatClampNeg else tw_least th tm ck n
def tw_dues (th : Nat → Int32) (tm : Nat → Int64) (ck : Int64) : Nat → Int32
  | 0 => 0
  | n + 1 => if tw_due th tm ck (nI n) = true then tw_dues th tm ck n + 1 else tw_dues th tm ck n
def tw_ther (th : Nat → Int32) : Nat → Int32
  | 0 => 0
  | n + 1 => if th (nI n).toNatClampNeg = 0 then tw_ther th n else tw_ther th n + 1
theorem tw_first_in (th : Nat → Int32) (tm : Nat → Int64) (pr ag : Nat → Int32) (ck : Int64) : ∀ n : Nat, tw_first th tm pr ag ck n = -1 ∨ ∃ k : Nat, k < n ∧ tw_first th tm pr ag ck n = nI k
  | 0 => Or.inl rfl
  | n + 1 => by
    rcases tw_first_in th tm pr ag ck n with h | ⟨k, hk, h⟩
    · simp only [tw_first]
      split
      · exact Or.inr ⟨n, by omega, rfl⟩
      · exact Or.inl h
    · simp only [tw_first]
      split
      · exact Or.inr ⟨n, by omega, rfl⟩
      · exact Or.inr ⟨k, by omega, h⟩
theorem tw_least_in {th : Nat → Int32} {tm : Nat → Int64} {ck : Int64} (h0 : ∀ k : Nat, 0 ≤ tm k) : ∀ n : Nat, tw_least th tm ck n = -1 ∨ (0 ≤ tw_least th tm ck n ∧ ∃ k : Nat, tw_least th tm ck n = tm k)
  | 0 => Or.inl rfl
  | n + 1 => by
    simp only [tw_least]
    split
    · exact Or.inr ⟨h0 _, _, rfl⟩
    · exact tw_least_in h0 n
theorem tw_m1 {x : Int64} (h : x = -1 ∨ 0 ≤ x) : x = -1 ↔ x < 0 := by
  constructor
  · intro e
    rw [e]; decide
  · intro e
    rcases h with h | h
    · exact h
    · exact absurd e (Int64.not_lt.mpr h)
theorem tw_in100 {k : Nat} (h : k < 100) : vp_in (nI k) 100 := vp_in_nI h (by decide)
theorem tw_due_t {th : Nat → Int32} {tm : Nat → Int64} {ck : Int64} {i : Int32} (h1 : ¬ th i.toNatClampNeg = 0) (h2 : tm i.toNatClampNeg ≤ ck) : tw_due th tm ck i = true := by simp [tw_due, h1, h2]
theorem tw_due_f1 {th : Nat → Int32} {tm : Nat → Int64} {ck : Int64} {i : Int32} (h1 : th i.toNatClampNeg = 0) : tw_due th tm ck i = false := by simp [tw_due, h1]
theorem tw_due_f2 {th : Nat → Int32} {tm : Nat → Int64} {ck : Int64} {i : Int32} (h2 : ¬ tm i.toNatClampNeg ≤ ck) : tw_due th tm ck i = false := by simp [tw_due, h2]
def tw_bz (b : Bool) : Int32 := if b = true then 1 else 0
theorem tw_bz0 {b : Bool} (h : tw_bz b = 0) : b = false := by cases b with | false => rfl | true => exact absurd h (by decide)
theorem tw_bz1 {b : Bool} (h : ¬ tw_bz b = 0) : b = true := by cases b with | true => rfl | false => exact absurd rfl h
theorem xt_tableOf {l : List ExceptionTableEntry} {hh : List (Nat × Nat × Nat × Nat)} (h : l.map (fun h => (h.startPc, h.endPc, h.handlerPc, h.catchType)) = hh) : l = tableOf hh := by
  subst hh
  unfold tableOf
  rw [List.map_map]
  exact (List.map_id'' (fun _ => rfl) l).symm
end
section
/-! The class, methods that only read: what each answers; the heap stays. Rows laid by our own program (wip/gen/gx.py). -/
abbrev tw_wX (h0 a0 a1 a2 a3 : Nat) (k0 k1 k2 k3 : ClassId) (th : Nat → Int32) (tm : Nat → Int64) (pr ag : Nat → Int32) (ck : Int64) (nx : Int32) : va_W := [(h0, .inr (0, [.ref a0, .ref a1, .ref a2, .ref a3, .long ck, .int nx])), (a0, .inl (k0, 100, .inl th)), (a1, .inl (k1, 100, .inr (.inl tm))), (a2, .inl (k2, 100, .inl pr)), (a3, .inl (k3, 100, .inl ag))]
abbrev tw_k (k0 k1 k2 k3 : ClassId) : List (ClassId × FieldType) := [(k0, .boolean), (k1, .long), (k2, .int), (k3, .int)]
abbrev tw_PX (dC : Nat → ClassId) (dI : Nat → Nat → Nat) (h0 a0 a1 a2 a3 : Nat) (k0 k1 k2 k3 : ClassId) (th : Nat → Int32) (tm : Nat → Int64) (pr ag : Nat → Int32) (ck : Int64) (nx : Int32) (U : State) : Prop := va_P (dC, dI) tw_cl (tw_wX h0 a0 a1 a2 a3 k0 k1 k2 k3 th tm pr ag ck nx) U.heap ∧ va_K (dC, dI) tw_cl (tw_k k0 k1 k2 k3) U
theorem tw_lt100 {n : Nat} (h : n < 100) : ¬ nI n ≥ (100 : Int32) := nI_ge h (by decide)
theorem tw_dues_t {th : Nat → Int32} {tm : Nat → Int64} {ck : Int64} {n : Nat} (h : tw_due th tm ck (nI n) = true) : tw_dues th tm ck n + 1 = tw_dues th tm ck (n + 1) := by simp [tw_dues, h]
theorem tw_dues_f {th : Nat → Int32} {tm : Nat → Int64} {ck : Int64} {n : Nat} (h : tw_due th tm ck (nI n) = false) : tw_dues th tm ck n = tw_dues th tm ck (n + 1) := by simp [tw_dues, h]
theorem tw_ther_t {th : Nat → Int32} {n : Nat} (h : ¬ th (nI n).toNatClampNeg = 0) : tw_ther th n + 1 = tw_ther th (n + 1) := by simp [tw_ther, h]
theorem tw_ther_f {th : Nat → Int32} {n : Nat} (h : th (nI n).toNatClampNeg = 0) : tw_ther th n = tw_ther th (n + 1) := by simp [tw_ther, h]
set_option maxHeartbeats 4000000 in
set_option maxRecDepth 100000 in
theorem cX_isDue (l : Launch) (dC : Nat → ClassId) (dI : Nat → Nat → Nat) (h0 a0 a1 a2 a3 : Nat) (k0 k1 k2 k3 : ClassId) (th : Nat → Int32) (tm : Nat → Int64) (pr ag : Nat → Int32) (ck : Int64) (nx : Int32) (i : Int32) (hi : vp_in i 100) : Met l yX_isDue (Cond.code yX_isDue bX_isDue 2 (some .boolean) :: tw_T) { frames := 0, cells := 0, slots := 0, locals := 0 } (va_Pc [.ref h0, .int i] (tw_PX dC dI h0 a0 a1 a2 a3 k0 k1 k2 k3 th tm pr ag ck nx)) (vp_Si (fun r => r = tw_bz (tw_due th tm ck i))) 0 0 (fun _ => False) := by
  refine Met.ofW (cc := bX_isDue) (maxL := 2) (ret := some .boolean) (by decide) rfl ?_
  intro p e s m args below meth c s₁ B hml hv
  obtain ⟨rfl, hP, hK⟩ := hv
  have hx := B.exec
  have hb := B.bytes
  have hr := B.returns
  have hT := fun (w : Cond) (h : w ∈ tw_T) => atoms_spec (ws := Cond.code yX_isDue bX_isDue 2 (some .boolean) :: tw_T) B.pre w (List.mem_cons_of_mem _ h)
  have hown : s.vm.findClass RX = some m.cls := findClass_of_methodNamed B.named
  have hlocks := B.notSynchronized
  have hl := lv_entry ([.ref h0, .int i]) (n := 2) (Nat.le_of_ble_eq_true rfl)
  rw [lg_entry_eq]
  generalize (lg_sl ([.ref h0, .int i]) ++ List.replicate (2 - (lg_sl ([.ref h0, .int i])).length) Slot.unset).toArray = ls at hl ⊢
  have hl : lv_has ls 2 [(0, .ref h0), (1, .int i)] := hl
  refine lv_aload_n hx hb dX_isDue_0 rfl (lv_at hl 0 rfl) ?_
  refine va_get (D := (dC, dI)) (ci := 0) (v := .ref a0) (C := RX) (T := FX) (N := 6) hx hb hT in_X hown hK hP 0 rfl rfl 0 (by decide) (hT _ tt_16) (fun _ h9 => h9) rfl dX_isDue_1 ?_
  refine lv_iload_n hx hb dX_isDue_4 rfl (lv_at hl 1 rfl) ?_
  refine va_zald hx hb hK hP 1 0 rfl rfl hi dX_isDue_5 ?_
  refine lv_if_eq (tgt := 27) hx hb dX_isDue_6 (by decide) (fun hc1 => ?_) (fun hc1 => ?_)
  · -- taken at 6: th i.toNatClampNeg = 0
    refine lv_iconst (v := 0) hx hb dX_isDue_27 (by decide) ?_
    exact W.zret (v := 0) hx hb hr rfl (fun t ht hW => ⟨0, rfl, by rw [tw_due_f1 hc1]; rfl, ht⟩) (fun q hq => by cases hq) dX_isDue_28
  · -- not taken at 6: th i.toNatClampNeg = 0
    refine lv_aload_n hx hb dX_isDue_9 rfl (lv_at hl 0 rfl) ?_
    refine va_get (D := (dC, dI)) (ci := 0) (v := .ref a1) (C := RX) (T := FX) (N := 6) hx hb hT in_X hown hK hP 0 rfl rfl 1 (by decide) (hT _ tt_17) (fun _ h9 => h9) rfl dX_isDue_10 ?_
    refine lv_iload_n hx hb dX_isDue_13 rfl (lv_at hl 1 rfl) ?_
    refine va_lald hx hb hK hP 2 1 rfl rfl hi dX_isDue_14 ?_
    refine lv_aload_n hx hb dX_isDue_15 rfl (lv_at hl 0 rfl) ?_
    refine va_get (D := (dC, dI)) (ci := 0) (v := .long ck) (C := RX) (T := FX) (N := 6) hx hb hT in_X hown hK hP 0 rfl rfl 4 (by decide) (hT _ tt_20) (fun _ h9 => h9) rfl dX_isDue_16 ?_
    refine W.lcmp hx hb dX_isDue_19 ?_
    refine lv_if_gt (tgt := 27) hx hb dX_isDue_20 (by decide) (fun hc2 => ?_) (fun hc2 => ?_)
    · -- taken at 20: lg_cmp (tm i.toNatClampNeg) ck > 0
      refine lv_iconst (v := 0) hx hb dX_isDue_27 (by decide) ?_
      exact W.zret (v := 0) hx hb hr rfl (fun t ht hW => ⟨0, rfl, by rw [tw_due_f2 (Int64.not_le.mpr ((lg_cmp_gt _ _).mp hc2))]; rfl, ht⟩) (fun q hq => by cases hq) dX_isDue_28
    · -- not taken at 20: lg_cmp (tm i.toNatClampNeg) ck > 0
      refine lv_iconst (v := 1) hx hb dX_isDue_23 (by decide) ?_
      refine lv_goto (tgt := 28) hx hb dX_isDue_24 (by decide) ?_
      exact W.zret (v := 1) hx hb hr rfl (fun t ht hW => ⟨1, rfl, by rw [tw_due_t hc1 ((lg_cmp_le _ _).mp (Int32.not_lt.mp hc2))]; rfl, ht⟩) (fun q hq => by cases hq) dX_isDue_28
set_option maxHeartbeats 4000000 in
set_option maxRecDepth 100000 in
theorem cX_comesBefore (l : Launch) (dC : Nat → ClassId) (dI : Nat → Nat → Nat) (h0 a0 a1 a2 a3 : Nat) (k0 k1 k2 k3 : ClassId) (th : Nat → Int32) (tm : Nat → Int64) (pr ag : Nat → Int32) (ck : Int64) (nx : Int32) (i : Int32) (hi : vp_in i 100) (j : Int32) (hj : vp_in j 100) : Met l yX_comesBefore (Cond.code yX_comesBefore bX_comesBefore 3 (some .boolean) :: tw_T) { frames := 0, cells := 0, slots := 0, locals := 0 } (va_Pc [.ref h0, .int i, .int j] (tw_PX dC dI h0 a0 a1 a2 a3 k0 k1 k2 k3 th tm pr ag ck nx)) (vp_Si (fun r => r = tw_bz (tw_bef tm pr ag i j))) 0 0 (fun _ => False) := by
  refine Met.ofW (cc := bX_comesBefore) (maxL := 3) (ret := some .boolean) (by decide) rfl ?_
  intro p e s m args below meth c s₁ B hml hv
  obtain ⟨rfl, hP, hK⟩ := hv
  have hx := B.exec
  have hb := B.bytes
  have hr := B.returns
  have hT := fun (w : Cond) (h : w ∈ tw_T) => atoms_spec (ws := Cond.code yX_comesBefore bX_comesBefore 3 (some .boolean) :: tw_T) B.pre w (List.mem_cons_of_mem _ h)
  have hown : s.vm.findClass RX = some m.cls := findClass_of_methodNamed B.named
  have hlocks := B.notSynchronized
  have hl := lv_entry ([.ref h0, .int i, .int j]) (n := 3) (Nat.le_of_ble_eq_true rfl)
  rw [lg_entry_eq]
  generalize (lg_sl ([.ref h0, .int i, .int j]) ++ List.replicate (3 - (lg_sl ([.ref h0, .int i, .int j])).length) Slot.unset).toArray = ls at hl ⊢
  have hl : lv_has ls 3 [(0, .ref h0), (1, .int i), (2, .int j)] := hl
  refine lv_aload_n hx hb dX_comesBefore_0 rfl (lv_at hl 0 rfl) ?_
  refine va_get (D := (dC, dI)) (ci := 0) (v := .ref a1) (C := RX) (T := FX) (N := 6) hx hb hT in_X hown hK hP 0 rfl rfl 1 (by decide) (hT _ tt_17) (fun _ h9 => h9) rfl dX_comesBefore_1 ?_
  refine lv_iload_n hx hb dX_comesBefore_4 rfl (lv_at hl 1 rfl) ?_
  refine va_lald hx hb hK hP 2 1 rfl rfl hi dX_comesBefore_5 ?_
  refine lv_aload_n hx hb dX_comesBefore_6 rfl (lv_at hl 0 rfl) ?_
  refine va_get (D := (dC, dI)) (ci := 0) (v := .ref a1) (C := RX) (T := FX) (N := 6) hx hb hT in_X hown hK hP 0 rfl rfl 1 (by decide) (hT _ tt_17) (fun _ h9 => h9) rfl dX_comesBefore_7 ?_
  refine lv_iload_n hx hb dX_comesBefore_10 rfl (lv_at hl 2 rfl) ?_
  refine va_lald hx hb hK hP 2 1 rfl rfl hj dX_comesBefore_11 ?_
  refine W.lcmp hx hb dX_comesBefore_12 ?_
  refine lv_if_eq (tgt := 38) hx hb dX_comesBefore_13 (by decide) (fun hc1 => ?_) (fun hc1 => ?_)
  · -- taken at 13: lg_cmp (tm i.toNatClampNeg) (tm j.toNatClampNeg) = 0
    refine lv_aload_n hx hb dX_comesBefore_38 rfl (lv_at hl 0 rfl) ?_
    refine va_get (D := (dC, dI)) (ci := 0) (v := .ref a2) (C := RX) (T := FX) (N := 6) hx hb hT in_X hown hK hP 0 rfl rfl 2 (by decide) (hT _ tt_18) (fun _ h9 => h9) rfl dX_comesBefore_39 ?_
    refine lv_iload_n hx hb dX_comesBefore_42 rfl (lv_at hl 1 rfl) ?_
    refine va_iald hx hb hK hP 3 2 rfl rfl hi dX_comesBefore_43 ?_
    refine lv_aload_n hx hb dX_comesBefore_44 rfl (lv_at hl 0 rfl) ?_
    refine va_get (D := (dC, dI)) (ci := 0) (v := .ref a2) (C := RX) (T := FX) (N := 6) hx hb hT in_X hown hK hP 0 rfl rfl 2 (by decide) (hT _ tt_18) (fun _ h9 => h9) rfl dX_comesBefore_45 ?_
    refine lv_iload_n hx hb dX_comesBefore_48 rfl (lv_at hl 2 rfl) ?_
    refine va_iald hx hb hK hP 3 2 rfl rfl hj dX_comesBefore_49 ?_
    refine lv_icmp_eq (tgt := 74) hx hb dX_comesBefore_50 (by decide) (fun hc2 => ?_) (fun hc2 => ?_)
    · -- taken at 50: pr i.toNatClampNeg = pr j.toNatClampNeg
      refine lv_aload_n hx hb dX_comesBefore_74 rfl (lv_at hl 0 rfl) ?_
      refine va_get (D := (dC, dI)) (ci := 0) (v := .ref a3) (C := RX) (T := FX) (N := 6) hx hb hT in_X hown hK hP 0 rfl rfl 3 (by decide) (hT _ tt_19) (fun _ h9 => h9) rfl dX_comesBefore_75 ?_
      refine lv_iload_n hx hb dX_comesBefore_78 rfl (lv_at hl 1 rfl) ?_
      refine va_iald hx hb hK hP 4 3 rfl rfl hi dX_comesBefore_79 ?_
      refine lv_aload_n hx hb dX_comesBefore_80 rfl (lv_at hl 0 rfl) ?_
      refine va_get (D := (dC, dI)) (ci := 0) (v := .ref a3) (C := RX) (T := FX) (N := 6) hx hb hT in_X hown hK hP 0 rfl rfl 3 (by decide) (hT _ tt_19) (fun _ h9 => h9) rfl dX_comesBefore_81 ?_
      refine lv_iload_n hx hb dX_comesBefore_84 rfl (lv_at hl 2 rfl) ?_
      refine va_iald hx hb hK hP 4 3 rfl rfl hj dX_comesBefore_85 ?_
      refine lv_icmp_ge (tgt := 93) hx hb dX_comesBefore_86 (by decide) (fun hc3 => ?_) (fun hc3 => ?_)
      · -- taken at 86: ag i.toNatClampNeg ≥ ag j.toNatClampNeg
        refine lv_iconst (v := 0) hx hb dX_comesBefore_93 (by decide) ?_
        have e13 := (lg_cmp_eq _ _).mp hc1
        exact W.zret (v := 0) hx hb hr rfl (fun t ht hW => ⟨0, rfl, by simp [tw_bef, tw_bz, e13, hc2, hc3]; done, ht⟩) (fun q hq => by cases hq) dX_comesBefore_94
      · -- not taken at 86: ag i.toNatClampNeg ≥ ag j.toNatClampNeg
        refine lv_iconst (v := 1) hx hb dX_comesBefore_89 (by decide) ?_
        refine lv_goto (tgt := 94) hx hb dX_comesBefore_90 (by decide) ?_
        have e13 := (lg_cmp_eq _ _).mp hc1
        exact W.zret (v := 1) hx hb hr rfl (fun t ht hW => ⟨1, rfl, by simp [tw_bef, tw_bz, e13, hc2, hc3]; done, ht⟩) (fun q hq => by cases hq) dX_comesBefore_94
    · -- not taken at 50: pr i.toNatClampNeg = pr j.toNatClampNeg
      refine lv_aload_n hx hb dX_comesBefore_53 rfl (lv_at hl 0 rfl) ?_
      refine va_get (D := (dC, dI)) (ci := 0) (v := .ref a2) (C := RX) (T := FX) (N := 6) hx hb hT in_X hown hK hP 0 rfl rfl 2 (by decide) (hT _ tt_18) (fun _ h9 => h9) rfl dX_comesBefore_54 ?_
      refine lv_iload_n hx hb dX_comesBefore_57 rfl (lv_at hl 1 rfl) ?_
      refine va_iald hx hb hK hP 3 2 rfl rfl hi dX_comesBefore_58 ?_
      refine lv_aload_n hx hb dX_comesBefore_59 rfl (lv_at hl 0 rfl) ?_
      refine va_get (D := (dC, dI)) (ci := 0) (v := .ref a2) (C := RX) (T := FX) (N := 6) hx hb hT in_X hown hK hP 0 rfl rfl 2 (by decide) (hT _ tt_18) (fun _ h9 => h9) rfl dX_comesBefore_60 ?_
      refine lv_iload_n hx hb dX_comesBefore_63 rfl (lv_at hl 2 rfl) ?_
      refine va_iald hx hb hK hP 3 2 rfl rfl hj dX_comesBefore_64 ?_
      refine lv_icmp_le (tgt := 72) hx hb dX_comesBefore_65 (by decide) (fun hc4 => ?_) (fun hc4 => ?_)
      · -- taken at 65: pr i.toNatClampNeg ≤ pr j.toNatClampNeg
        refine lv_iconst (v := 0) hx hb dX_comesBefore_72 (by decide) ?_
        have e13 := (lg_cmp_eq _ _).mp hc1
        exact W.zret (v := 0) hx hb hr rfl (fun t ht hW => ⟨0, rfl, by simp [tw_bef, tw_bz, e13, hc2, hc4]; done, ht⟩) (fun q hq => by cases hq) dX_comesBefore_73
      · -- not taken at 65: pr i.toNatClampNeg ≤ pr j.toNatClampNeg
        refine lv_iconst (v := 1) hx hb dX_comesBefore_68 (by decide) ?_
        refine lv_goto (tgt := 73) hx hb dX_comesBefore_69 (by decide) ?_
        have e13 := (lg_cmp_eq _ _).mp hc1
        exact W.zret (v := 1) hx hb hr rfl (fun t ht hW => ⟨1, rfl, by simp [tw_bef, tw_bz, e13, hc2, hc4]; done, ht⟩) (fun q hq => by cases hq) dX_comesBefore_73
  · -- not taken at 13: lg_cmp (tm i.toNatClampNeg) (tm j.toNatClampNeg) = 0
    refine lv_aload_n hx hb dX_comesBefore_16 rfl (lv_at hl 0 rfl) ?_
    refine va_get (D := (dC, dI)) (ci := 0) (v := .ref a1) (C := RX) (T := FX) (N := 6) hx hb hT in_X hown hK hP 0 rfl rfl 1 (by decide) (hT _ tt_17) (fun _ h9 => h9) rfl dX_comesBefore_17 ?_
    refine lv_iload_n hx hb dX_comesBefore_20 rfl (lv_at hl 1 rfl) ?_
    refine va_lald hx hb hK hP 2 1 rfl rfl hi dX_comesBefore_21 ?_
    refine lv_aload_n hx hb dX_comesBefore_22 rfl (lv_at hl 0 rfl) ?_
    refine va_get (D := (dC, dI)) (ci := 0) (v := .ref a1) (C := RX) (T := FX) (N := 6) hx hb hT in_X hown hK hP 0 rfl rfl 1 (by decide) (hT _ tt_17) (fun _ h9 => h9) rfl dX_comesBefore_23 ?_
    refine lv_iload_n hx hb dX_comesBefore_26 rfl (lv_at hl 2 rfl) ?_
    refine va_lald hx hb hK hP 2 1 rfl rfl hj dX_comesBefore_27 ?_
    refine W.lcmp hx hb dX_comesBefore_28 ?_
    refine lv_if_ge (tgt := 36) hx hb dX_comesBefore_29 (by decide) (fun hc5 => ?_) (fun hc5 => ?_)
    · -- taken at 29: lg_cmp (tm i.toNatClampNeg) (tm j.toNatClampNeg) ≥ 0
      refine lv_iconst (v := 0) hx hb dX_comesBefore_36 (by decide) ?_
      have e13 : ¬ (_ = _) := fun z => hc1 ((lg_cmp_eq _ _).mpr z)
      have e29 := Int64.not_lt.mpr ((lg_cmp_ge _ _).mp hc5)
      exact W.zret (v := 0) hx hb hr rfl (fun t ht hW => ⟨0, rfl, by simp [tw_bef, tw_bz, e13, e29]; done, ht⟩) (fun q hq => by cases hq) dX_comesBefore_37
    · -- not taken at 29: lg_cmp (tm i.toNatClampNeg) (tm j.toNatClampNeg) ≥ 0
      refine lv_iconst (v := 1) hx hb dX_comesBefore_32 (by decide) ?_
      refine lv_goto (tgt := 37) hx hb dX_comesBefore_33 (by decide) ?_
      have e13 : ¬ (_ = _) := fun z => hc1 ((lg_cmp_eq _ _).mpr z)
      have e29 := (lg_cmp_lt _ _).mp (Int32.not_le.mp hc5)
      exact W.zret (v := 1) hx hb hr rfl (fun t ht hW => ⟨1, rfl, by simp [tw_bef, tw_bz, e13, e29]; done, ht⟩) (fun q hq => by cases hq) dX_comesBefore_37
section LPcountThere
variable {p : Program} {l : Launch} {e : Env} {R : Room} {s : State} {m : MethodId} {args : Array Value} {below : List Frame} {meth : Method} {c : Code} {H : Heap} {locs : List Loc} {cells slots : Nat} {Q : State → Prop}
set_option maxHeartbeats 4000000 in
set_option maxRecDepth 100000 in
theorem lpX_countThere (dC : Nat → ClassId) (dI : Nat → Nat → Nat) (h0 a0 a1 a2 a3 : Nat) (k0 k1 k2 k3 : ClassId) (th : Nat → Int32) (tm : Nat → Int64) (pr ag : Nat → Int32) (ck : Int64) (nx : Int32) (hx : p.tables.exec = Jvm.exec) (hb : c.code = bX_countThere) (hml : c.maxLocals = 3) (hT : ∀ w ∈ tw_T, w.before args s = true) (hown : s.vm.findClass RX = some m.cls) (hP : va_P (dC, dI) tw_cl (tw_wX h0 a0 a1 a2 a3 k0 k1 k2 k3 th tm pr ag ck nx) H) (hK : va_K (dC, dI) tw_cl (tw_k k0 k1 k2 k3) s)  (kk : ∀ ls : Array Slot, lv_has ls 3 [(2, .int (nI 100)), (1, .int (tw_ther th 100)), (0, .ref h0)] → W p l e R s m args below meth c H locs cells slots Q (F0 m 28 ls [])) : ∀ (k n : Nat), n + k = 100 → ∀ ls : Array Slot, lv_has ls 3 [(2, .int (nI n)), (1, .int (tw_ther th n)), (0, .ref h0)] → W p l e R s m args below meth c H locs cells slots Q (F0 m 4 ls []) := by
  intro k
  induction k with
  | zero =>
    intro n hn ls hl
    have hn : n = 100 := by omega
    subst hn
    refine lv_iload_n hx hb dX_countThere_4 rfl (lv_at hl 0 rfl) ?_
    refine lv_bipush (v := 100) hx hb dX_countThere_5 (by decide) ?_
    refine lv_icmp_ge (tgt := 28) hx hb dX_countThere_7 (by decide) (fun hc9 => ?_) (fun hc9 => absurd (by decide) hc9)
    exact kk ls hl
  | succ k ih =>
    intro n hn0 ls hl
    have hn : n < 100 := by omega
    refine lv_iload_n hx hb dX_countThere_4 rfl (lv_at hl 0 rfl) ?_
    refine lv_bipush (v := 100) hx hb dX_countThere_5 (by decide) ?_
    refine lv_icmp_ge (tgt := 28) hx hb dX_countThere_7 (by decide) (fun hc9 => absurd hc9 (tw_lt100 hn)) (fun hc9 => ?_)
    refine lv_aload_n hx hb dX_countThere_10 rfl (lv_at hl 2 rfl) ?_
    refine va_get (D := (dC, dI)) (ci := 0) (v := .ref a0) (C := RX) (T := FX) (N := 6) hx hb hT in_X hown hK hP 0 rfl rfl 0 (by decide) (hT _ tt_16) (fun _ h9 => h9) rfl dX_countThere_11 ?_
    refine lv_iload_n hx hb dX_countThere_14 rfl (lv_at hl 0 rfl) ?_
    refine va_zald hx hb hK hP 1 0 rfl rfl (tw_in100 hn) dX_countThere_15 ?_
    refine lv_if_eq (tgt := 22) hx hb dX_countThere_16 (by decide) (fun hc1 => ?_) (fun hc1 => ?_)
    · -- taken at 16: th (nI n).toNatClampNeg = 0
      refine lv_iinc (k := 0) hx hb dX_countThere_22 hl rfl (nI_succ _).symm (by decide) rfl (fun ls hl => ?_)
      have hl : lv_has ls 3 [(2, .int (nI (n + 1))), (1, .int (tw_ther th n)), (0, .ref h0)] := hl
      refine lv_goto (tgt := 4) hx hb dX_countThere_25 (by decide) ?_
      rw [tw_ther_f hc1] at hl
      exact ih (n + 1) (by omega) ls (lv_sub hl [0, 1, 2] rfl)
    · -- not taken at 16: th (nI n).toNatClampNeg = 0
      refine lv_iinc (k := 1) hx hb dX_countThere_19 hl rfl rfl (by decide) rfl (fun ls hl => ?_)
      have hl : lv_has ls 3 [(1, .int ((tw_ther th n) + 1)), (2, .int (nI n)), (0, .ref h0)] := hl
      refine lv_iinc (k := 1) hx hb dX_countThere_22 hl rfl (nI_succ _).symm (by decide) rfl (fun ls hl => ?_)
      have hl : lv_has ls 3 [(2, .int (nI (n + 1))), (1, .int ((tw_ther th n) + 1)), (0, .ref h0)] := hl
      refine lv_goto (tgt := 4) hx hb dX_countThere_25 (by decide) ?_
      rw [tw_ther_t hc1] at hl
      exact ih (n + 1) (by omega) ls (lv_sub hl [0, 1, 2] rfl)
end LPcountThere
set_option maxHeartbeats 4000000 in
set_option maxRecDepth 100000 in
theorem cX_countThere (l : Launch) (dC : Nat → ClassId) (dI : Nat → Nat → Nat) (h0 a0 a1 a2 a3 : Nat) (k0 k1 k2 k3 : ClassId) (th : Nat → Int32) (tm : Nat → Int64) (pr ag : Nat → Int32) (ck : Int64) (nx : Int32)  : Met l yX_countThere (Cond.code yX_countThere bX_countThere 3 (some .int) :: tw_T) { frames := 0, cells := 0, slots := 0, locals := 0 } (va_Pc [.ref h0] (tw_PX dC dI h0 a0 a1 a2 a3 k0 k1 k2 k3 th tm pr ag ck nx)) (vp_Si (fun r => r = tw_ther th 100)) 0 0 (fun _ => False) := by
  refine Met.ofW (cc := bX_countThere) (maxL := 3) (ret := some .int) (by decide) rfl ?_
  intro p e s m args below meth c s₁ B hml hv
  obtain ⟨rfl, hP, hK⟩ := hv
  have hx := B.exec
  have hb := B.bytes
  have hr := B.returns
  have hT := fun (w : Cond) (h : w ∈ tw_T) => atoms_spec (ws := Cond.code yX_countThere bX_countThere 3 (some .int) :: tw_T) B.pre w (List.mem_cons_of_mem _ h)
  have hown : s.vm.findClass RX = some m.cls := findClass_of_methodNamed B.named
  have hlocks := B.notSynchronized
  have hl := lv_entry ([.ref h0]) (n := 3) (Nat.le_of_ble_eq_true rfl)
  rw [lg_entry_eq]
  generalize (lg_sl ([.ref h0]) ++ List.replicate (3 - (lg_sl ([.ref h0])).length) Slot.unset).toArray = ls at hl ⊢
  have hl : lv_has ls 3 [(0, .ref h0)] := hl
  refine lv_iconst (v := 0) hx hb dX_countThere_0 (by decide) ?_
  refine lv_istore_n hx hb dX_countThere_1 rfl hl (by decide) rfl (fun ls hl => ?_)
  have hl : lv_has ls 3 [(1, .int 0), (0, .ref h0)] := hl
  refine lv_iconst (v := 0) hx hb dX_countThere_2 (by decide) ?_
  refine lv_istore_n hx hb dX_countThere_3 rfl hl (by decide) rfl (fun ls hl => ?_)
  have hl : lv_has ls 3 [(2, .int 0), (1, .int 0), (0, .ref h0)] := hl
  have hl : lv_has ls 3 [(2, .int 0), (1, .int 0), (0, .ref h0)] := hl
  refine lpX_countThere dC dI h0 a0 a1 a2 a3 k0 k1 k2 k3 th tm pr ag ck nx hx hb hml hT hown hP hK (fun ls hl => ?_) 100 0 rfl ls (lv_sub hl [0, 1, 2] rfl)
  refine lv_iload_n hx hb dX_countThere_28 rfl (lv_at hl 1 rfl) ?_
  exact W.iret hx hb hr (fun t ht hW => ⟨_, rfl, rfl, ht⟩) (fun q hq => by cases hq) dX_countThere_29
section LPcountDue
variable {p : Program} {l : Launch} {e : Env} {R : Room} {s : State} {m : MethodId} {args : Array Value} {below : List Frame} {meth : Method} {c : Code} {H : Heap} {locs : List Loc} {cells slots : Nat} {Q : State → Prop}
set_option maxHeartbeats 4000000 in
set_option maxRecDepth 100000 in
theorem lpX_countDue (dC : Nat → ClassId) (dI : Nat → Nat → Nat) (h0 a0 a1 a2 a3 : Nat) (k0 k1 k2 k3 : ClassId) (th : Nat → Int32) (tm : Nat → Int64) (pr ag : Nat → Int32) (ck : Int64) (nx : Int32) (hx : p.tables.exec = Jvm.exec) (hb : c.code = bX_countDue) (hml : c.maxLocals = 3) (hT : ∀ w ∈ tw_T, w.before args s = true) (hown : s.vm.findClass RX = some m.cls) (hP : va_P (dC, dI) tw_cl (tw_wX h0 a0 a1 a2 a3 k0 k1 k2 k3 th tm pr ag ck nx) H) (hK : va_K (dC, dI) tw_cl (tw_k k0 k1 k2 k3) s) (hR : 1 ≤ R.frames ∧ 40 ≤ R.locals) (hc : cells + 0 ≤ R.cells ∧ slots + 0 ≤ R.slots) (kk : ∀ ls : Array Slot, lv_has ls 3 [(2, .int (nI 100)), (1, .int (tw_dues th tm ck 100)), (0, .ref h0)] → W p l e R s m args below meth c H locs cells slots Q (F0 m 27 ls [])) : ∀ (k n : Nat), n + k = 100 → ∀ ls : Array Slot, lv_has ls 3 [(2, .int (nI n)), (1, .int (tw_dues th tm ck n)), (0, .ref h0)] → W p l e R s m args below meth c H locs cells slots Q (F0 m 4 ls []) := by
  intro k
  induction k with
  | zero =>
    intro n hn ls hl
    have hn : n = 100 := by omega
    subst hn
    refine lv_iload_n hx hb dX_countDue_4 rfl (lv_at hl 0 rfl) ?_
    refine lv_bipush (v := 100) hx hb dX_countDue_5 (by decide) ?_
    refine lv_icmp_ge (tgt := 27) hx hb dX_countDue_7 (by decide) (fun hc9 => ?_) (fun hc9 => absurd (by decide) hc9)
    exact kk ls hl
  | succ k ih =>
    intro n hn0 ls hl
    have hn : n < 100 := by omega
    refine lv_iload_n hx hb dX_countDue_4 rfl (lv_at hl 0 rfl) ?_
    refine lv_bipush (v := 100) hx hb dX_countDue_5 (by decide) ?_
    refine lv_icmp_ge (tgt := 27) hx hb dX_countDue_7 (by decide) (fun hc9 => absurd hc9 (tw_lt100 hn)) (fun hc9 => ?_)
    refine lv_aload_n hx hb dX_countDue_10 rfl (lv_at hl 2 rfl) ?_
    refine lv_iload_n hx hb dX_countDue_11 rfl (lv_at hl 0 rfl) ?_
    refine vp_callSi (W.runV (C := RX) (b := h0) (As := [.int (nI n)]) (rest := []) ⟨hx, hb, hml, hown, hT⟩ (cX_isDue l dC dI h0 a0 a1 a2 a3 k0 k1 k2 k3 th tm pr ag ck nx (nI n) (tw_in100 hn)) (cwV 1 hT (tw_gV tt_43 tt_45 tp_X_isDue tt_1 tt_46) rfl rfl rfl ⟨rfl, by decide +kernel⟩ ⟨Nat.le_trans (by decide) hR.1, Nat.le_trans (by decide) hR.2⟩) ⟨fun a U g mk q => ⟨q.1, q.2.1, va_K.moved (u := U) (U := U.calling g mk a) (Vm.Alike.refl U.vm) q.2.2⟩, va_recv (q0 := 0) (ci := 0) hK hP rfl rfl, fun U hU hW => ⟨rfl, by rw [hU]; exact hP, va_K.moved hW.alike hK⟩⟩ rfl rfl hl.1 rfl (lv_room (Nat.le_of_ble_eq_true rfl)) dX_countDue_12 hc) (fun r1 h1 => ?_)
    subst h1
    refine lv_if_eq (tgt := 21) hx hb dX_countDue_15 (by decide) (fun hc1 => ?_) (fun hc1 => ?_)
    · -- taken at 15: tw_bz (tw_due th tm ck (nI n)) = 0
      refine lv_iinc (k := 0) hx hb dX_countDue_21 hl rfl (nI_succ _).symm (by decide) rfl (fun ls hl => ?_)
      have hl : lv_has ls 3 [(2, .int (nI (n + 1))), (1, .int (tw_dues th tm ck n)), (0, .ref h0)] := hl
      refine lv_goto (tgt := 4) hx hb dX_countDue_24 (by decide) ?_
      rw [tw_dues_f (tw_bz0 hc1)] at hl
      exact ih (n + 1) (by omega) ls (lv_sub hl [0, 1, 2] rfl)
    · -- not taken at 15: tw_bz (tw_due th tm ck (nI n)) = 0
      refine lv_iinc (k := 1) hx hb dX_countDue_18 hl rfl rfl (by decide) rfl (fun ls hl => ?_)
      have hl : lv_has ls 3 [(1, .int ((tw_dues th tm ck n) + 1)), (2, .int (nI n)), (0, .ref h0)] := hl
      refine lv_iinc (k := 1) hx hb dX_countDue_21 hl rfl (nI_succ _).symm (by decide) rfl (fun ls hl => ?_)
      have hl : lv_has ls 3 [(2, .int (nI (n + 1))), (1, .int ((tw_dues th tm ck n) + 1)), (0, .ref h0)] := hl
      refine lv_goto (tgt := 4) hx hb dX_countDue_24 (by decide) ?_
      rw [tw_dues_t (tw_bz1 hc1)] at hl
      exact ih (n + 1) (by omega) ls (lv_sub hl [0, 1, 2] rfl)
end LPcountDue
set_option maxHeartbeats 4000000 in
set_option maxRecDepth 100000 in
theorem cX_countDue (l : Launch) (dC : Nat → ClassId) (dI : Nat → Nat → Nat) (h0 a0 a1 a2 a3 : Nat) (k0 k1 k2 k3 : ClassId) (th : Nat → Int32) (tm : Nat → Int64) (pr ag : Nat → Int32) (ck : Int64) (nx : Int32)  : Met l yX_countDue (Cond.code yX_countDue bX_countDue 3 (some .int) :: tw_T) { frames := 1, cells := 0, slots := 0, locals := 40 } (va_Pc [.ref h0] (tw_PX dC dI h0 a0 a1 a2 a3 k0 k1 k2 k3 th tm pr ag ck nx)) (vp_Si (fun r => r = tw_dues th tm ck 100)) 0 0 (fun _ => False) := by
  refine Met.ofW (cc := bX_countDue) (maxL := 3) (ret := some .int) (by decide) rfl ?_
  intro p e s m args below meth c s₁ B hml hv
  obtain ⟨rfl, hP, hK⟩ := hv
  have hx := B.exec
  have hb := B.bytes
  have hr := B.returns
  have hT := fun (w : Cond) (h : w ∈ tw_T) => atoms_spec (ws := Cond.code yX_countDue bX_countDue 3 (some .int) :: tw_T) B.pre w (List.mem_cons_of_mem _ h)
  have hown : s.vm.findClass RX = some m.cls := findClass_of_methodNamed B.named
  have hlocks := B.notSynchronized
  have hl := lv_entry ([.ref h0]) (n := 3) (Nat.le_of_ble_eq_true rfl)
  rw [lg_entry_eq]
  generalize (lg_sl ([.ref h0]) ++ List.replicate (3 - (lg_sl ([.ref h0])).length) Slot.unset).toArray = ls at hl ⊢
  have hl : lv_has ls 3 [(0, .ref h0)] := hl
  refine lv_iconst (v := 0) hx hb dX_countDue_0 (by decide) ?_
  refine lv_istore_n hx hb dX_countDue_1 rfl hl (by decide) rfl (fun ls hl => ?_)
  have hl : lv_has ls 3 [(1, .int 0), (0, .ref h0)] := hl
  refine lv_iconst (v := 0) hx hb dX_countDue_2 (by decide) ?_
  refine lv_istore_n hx hb dX_countDue_3 rfl hl (by decide) rfl (fun ls hl => ?_)
  have hl : lv_has ls 3 [(2, .int 0), (1, .int 0), (0, .ref h0)] := hl
  have hl : lv_has ls 3 [(2, .int 0), (1, .int 0), (0, .ref h0)] := hl
  refine lpX_countDue dC dI h0 a0 a1 a2 a3 k0 k1 k2 k3 th tm pr ag ck nx hx hb hml hT hown hP hK ⟨Nat.le_refl _, Nat.le_refl _⟩ ⟨Nat.le_refl _, Nat.le_refl _⟩ (fun ls hl => ?_) 100 0 rfl ls (lv_sub hl [0, 1, 2] rfl)
  refine lv_iload_n hx hb dX_countDue_27 rfl (lv_at hl 1 rfl) ?_
  exact W.iret hx hb hr (fun t ht hW => ⟨_, rfl, rfl, ht⟩) (fun q hq => by cases hq) dX_countDue_28
theorem tw_first_a {th : Nat → Int32} {tm : Nat → Int64} {pr ag : Nat → Int32} {ck : Int64} {n : Nat} (h : tw_due th tm ck (nI n) = false) : tw_first th tm pr ag ck n = tw_first th tm pr ag ck (n + 1) := by simp [tw_first, h]
theorem tw_first_b {th : Nat → Int32} {tm : Nat → Int64} {pr ag : Nat → Int32} {ck : Int64} {n : Nat} (h : tw_due th tm ck (nI n) = true) (h1 : tw_first th tm pr ag ck n = -1) : nI n = tw_first th tm pr ag ck (n + 1) := by simp [tw_first, h, h1]
theorem tw_first_c {th : Nat → Int32} {tm : Nat → Int64} {pr ag : Nat → Int32} {ck : Int64} {n : Nat} (h : tw_due th tm ck (nI n) = true) (h1 : tw_bef tm pr ag (nI n) (tw_first th tm pr ag ck n) = true) : nI n = tw_first th tm pr ag ck (n + 1) := by simp [tw_first, h, h1]
theorem tw_first_d {th : Nat → Int32} {tm : Nat → Int64} {pr ag : Nat → Int32} {ck : Int64} {n : Nat} (h : ¬ tw_first th tm pr ag ck n = -1) (h1 : tw_bef tm pr ag (nI n) (tw_first th tm pr ag ck n) = false) : tw_first th tm pr ag ck n = tw_first th tm pr ag ck (n + 1) := by simp [tw_first, h, h1]
theorem tw_first_vp {th : Nat → Int32} {tm : Nat → Int64} {pr ag : Nat → Int32} {ck : Int64} {n : Nat} (hn : n ≤ 100) (h : ¬ tw_first th tm pr ag ck n = -1) : vp_in (tw_first th tm pr ag ck n) 100 := by
  rcases tw_first_in th tm pr ag ck n with h1 | ⟨k, hk, h1⟩
  · exact absurd h1 h
  · rw [h1]; exact tw_in100 (by omega)
section LPfirstDue
variable {p : Program} {l : Launch} {e : Env} {R : Room} {s : State} {m : MethodId} {args : Array Value} {below : List Frame} {meth : Method} {c : Code} {H : Heap} {locs : List Loc} {cells slots : Nat} {Q : State → Prop}
set_option maxHeartbeats 4000000 in
set_option maxRecDepth 100000 in
theorem lpX_firstDue (dC : Nat → ClassId) (dI : Nat → Nat → Nat) (h0 a0 a1 a2 a3 : Nat) (k0 k1 k2 k3 : ClassId) (th : Nat → Int32) (tm : Nat → Int64) (pr ag : Nat → Int32) (ck : Int64) (nx : Int32) (hx : p.tables.exec = Jvm.exec) (hb : c.code = bX_firstDue) (hml : c.maxLocals = 3) (hT : ∀ w ∈ tw_T, w.before args s = true) (hown : s.vm.findClass RX = some m.cls) (hP : va_P (dC, dI) tw_cl (tw_wX h0 a0 a1 a2 a3 k0 k1 k2 k3 th tm pr ag ck nx) H) (hK : va_K (dC, dI) tw_cl (tw_k k0 k1 k2 k3) s) (hR : 1 ≤ R.frames ∧ 40 ≤ R.locals) (hc : cells + 0 ≤ R.cells ∧ slots + 0 ≤ R.slots) (kk : ∀ ls : Array Slot, lv_has ls 3 [(2, .int (nI 100)), (1, .int (tw_first th tm pr ag ck 100)), (0, .ref h0)] → W p l e R s m args below meth c H locs cells slots Q (F0 m 40 ls [])) : ∀ (k n : Nat), n + k = 100 → ∀ ls : Array Slot, lv_has ls 3 [(2, .int (nI n)), (1, .int (tw_first th tm pr ag ck n)), (0, .ref h0)] → W p l e R s m args below meth c H locs cells slots Q (F0 m 4 ls []) := by
  intro k
  induction k with
  | zero =>
    intro n hn ls hl
    have hn : n = 100 := by omega
    subst hn
    refine lv_iload_n hx hb dX_firstDue_4 rfl (lv_at hl 0 rfl) ?_
    refine lv_bipush (v := 100) hx hb dX_firstDue_5 (by decide) ?_
    refine lv_icmp_ge (tgt := 40) hx hb dX_firstDue_7 (by decide) (fun hc9 => ?_) (fun hc9 => absurd (by decide) hc9)
    exact kk ls hl
  | succ k ih =>
    intro n hn0 ls hl
    have hn : n < 100 := by omega
    refine lv_iload_n hx hb dX_firstDue_4 rfl (lv_at hl 0 rfl) ?_
    refine lv_bipush (v := 100) hx hb dX_firstDue_5 (by decide) ?_
    refine lv_icmp_ge (tgt := 40) hx hb dX_firstDue_7 (by decide) (fun hc9 => absurd hc9 (tw_lt100 hn)) (fun hc9 => ?_)
    refine lv_aload_n hx hb dX_firstDue_10 rfl (lv_at hl 2 rfl) ?_
    refine lv_iload_n hx hb dX_firstDue_11 rfl (lv_at hl 0 rfl) ?_
    refine vp_callSi (W.runV (C := RX) (b := h0) (As := [.int (nI n)]) (rest := []) ⟨hx, hb, hml, hown, hT⟩ (cX_isDue l dC dI h0 a0 a1 a2 a3 k0 k1 k2 k3 th tm pr ag ck nx (nI n) (tw_in100 hn)) (cwV 1 hT (tw_gV tt_43 tt_45 tp_X_isDue tt_1 tt_46) rfl rfl rfl ⟨rfl, by decide +kernel⟩ ⟨Nat.le_trans (by decide) hR.1, Nat.le_trans (by decide) hR.2⟩) ⟨fun a U g mk q => ⟨q.1, q.2.1, va_K.moved (u := U) (U := U.calling g mk a) (Vm.Alike.refl U.vm) q.2.2⟩, va_recv (q0 := 0) (ci := 0) hK hP rfl rfl, fun U hU hW => ⟨rfl, by rw [hU]; exact hP, va_K.moved hW.alike hK⟩⟩ rfl rfl hl.1 rfl (lv_room (Nat.le_of_ble_eq_true rfl)) dX_firstDue_12 hc) (fun r1 h1 => ?_)
    subst h1
    refine lv_if_eq (tgt := 34) hx hb dX_firstDue_15 (by decide) (fun hc1 => ?_) (fun hc1 => ?_)
    · -- taken at 15: tw_bz (tw_due th tm ck (nI n)) = 0
      refine lv_iinc (k := 0) hx hb dX_firstDue_34 hl rfl (nI_succ _).symm (by decide) rfl (fun ls hl => ?_)
      have hl : lv_has ls 3 [(2, .int (nI (n + 1))), (1, .int (tw_first th tm pr ag ck n)), (0, .ref h0)] := hl
      refine lv_goto (tgt := 4) hx hb dX_firstDue_37 (by decide) ?_
      rw [tw_first_a (tw_bz0 hc1)] at hl
      exact ih (n + 1) (by omega) ls (lv_sub hl [0, 1, 2] rfl)
    · -- not taken at 15: tw_bz (tw_due th tm ck (nI n)) = 0
      refine lv_iload_n hx hb dX_firstDue_18 rfl (lv_at hl 1 rfl) ?_
      refine lv_iconst (v := -1) hx hb dX_firstDue_19 (by decide) ?_
      refine lv_icmp_eq (tgt := 32) hx hb dX_firstDue_20 (by decide) (fun hc2 => ?_) (fun hc2 => ?_)
      · -- taken at 20: tw_first th tm pr ag ck n = (-1)
        refine lv_iload_n hx hb dX_firstDue_32 rfl (lv_at hl 0 rfl) ?_
        refine lv_istore_n hx hb dX_firstDue_33 rfl hl (by decide) rfl (fun ls hl => ?_)
        have hl : lv_has ls 3 [(1, .int (nI n)), (2, .int (nI n)), (0, .ref h0)] := hl
        refine lv_iinc (k := 1) hx hb dX_firstDue_34 hl rfl (nI_succ _).symm (by decide) rfl (fun ls hl => ?_)
        have hl : lv_has ls 3 [(2, .int (nI (n + 1))), (1, .int (nI n)), (0, .ref h0)] := hl
        refine lv_goto (tgt := 4) hx hb dX_firstDue_37 (by decide) ?_
        rw [tw_first_b (tw_bz1 hc1) hc2] at hl
        exact ih (n + 1) (by omega) ls (lv_sub hl [0, 1, 2] rfl)
      · -- not taken at 20: tw_first th tm pr ag ck n = (-1)
        refine lv_aload_n hx hb dX_firstDue_23 rfl (lv_at hl 2 rfl) ?_
        refine lv_iload_n hx hb dX_firstDue_24 rfl (lv_at hl 0 rfl) ?_
        refine lv_iload_n hx hb dX_firstDue_25 rfl (lv_at hl 1 rfl) ?_
        refine vp_callSi (W.runV (C := RX) (b := h0) (As := [.int (nI n), .int (tw_first th tm pr ag ck n)]) (rest := []) ⟨hx, hb, hml, hown, hT⟩ (cX_comesBefore l dC dI h0 a0 a1 a2 a3 k0 k1 k2 k3 th tm pr ag ck nx (nI n) (tw_in100 hn) (tw_first th tm pr ag ck n) (tw_first_vp (Nat.le_of_lt hn) hc2)) (cwV 2 hT (tw_gV tt_162 tt_164 tp_X_comesBefore tt_1 tt_165) rfl rfl rfl ⟨rfl, by decide +kernel⟩ ⟨Nat.le_trans (by decide) hR.1, Nat.le_trans (by decide) hR.2⟩) ⟨fun a U g mk q => ⟨q.1, q.2.1, va_K.moved (u := U) (U := U.calling g mk a) (Vm.Alike.refl U.vm) q.2.2⟩, va_recv (q0 := 0) (ci := 0) hK hP rfl rfl, fun U hU hW => ⟨rfl, by rw [hU]; exact hP, va_K.moved hW.alike hK⟩⟩ rfl rfl hl.1 rfl (lv_room (Nat.le_of_ble_eq_true rfl)) dX_firstDue_26 hc) (fun r2 h2 => ?_)
        subst h2
        refine lv_if_eq (tgt := 34) hx hb dX_firstDue_29 (by decide) (fun hc3 => ?_) (fun hc3 => ?_)
        · -- taken at 29: tw_bz (tw_bef tm pr ag (nI n) (tw_first th tm pr ag ck n)) = 0
          refine lv_iinc (k := 0) hx hb dX_firstDue_34 hl rfl (nI_succ _).symm (by decide) rfl (fun ls hl => ?_)
          have hl : lv_has ls 3 [(2, .int (nI (n + 1))), (1, .int (tw_first th tm pr ag ck n)), (0, .ref h0)] := hl
          refine lv_goto (tgt := 4) hx hb dX_firstDue_37 (by decide) ?_
          rw [tw_first_d hc2 (tw_bz0 hc3)] at hl
          exact ih (n + 1) (by omega) ls (lv_sub hl [0, 1, 2] rfl)
        · -- not taken at 29: tw_bz (tw_bef tm pr ag (nI n) (tw_first th tm pr ag ck n)) = 0
          refine lv_iload_n hx hb dX_firstDue_32 rfl (lv_at hl 0 rfl) ?_
          refine lv_istore_n hx hb dX_firstDue_33 rfl hl (by decide) rfl (fun ls hl => ?_)
          have hl : lv_has ls 3 [(1, .int (nI n)), (2, .int (nI n)), (0, .ref h0)] := hl
          refine lv_iinc (k := 1) hx hb dX_firstDue_34 hl rfl (nI_succ _).symm (by decide) rfl (fun ls hl => ?_)
          have hl : lv_has ls 3 [(2, .int (nI (n + 1))), (1, .int (nI n)), (0, .ref h0)] := hl
          refine lv_goto (tgt := 4) hx hb dX_firstDue_37 (by decide) ?_
          rw [tw_first_c (tw_bz1 hc1) (tw_bz1 hc3)] at hl
          exact ih (n + 1) (by omega) ls (lv_sub hl [0, 1, 2] rfl)
end LPfirstDue
set_option maxHeartbeats 4000000 in
set_option maxRecDepth 100000 in
theorem cX_firstDue (l : Launch) (dC : Nat → ClassId) (dI : Nat → Nat → Nat) (h0 a0 a1 a2 a3 : Nat) (k0 k1 k2 k3 : ClassId) (th : Nat → Int32) (tm : Nat → Int64) (pr ag : Nat → Int32) (ck : Int64) (nx : Int32)  : Met l yX_firstDue (Cond.code yX_firstDue bX_firstDue 3 (some .int) :: tw_T) { frames := 1, cells := 0, slots := 0, locals := 40 } (va_Pc [.ref h0] (tw_PX dC dI h0 a0 a1 a2 a3 k0 k1 k2 k3 th tm pr ag ck nx)) (vp_Si (fun r => r = tw_first th tm pr ag ck 100)) 0 0 (fun _ => False) := by
  refine Met.ofW (cc := bX_firstDue) (maxL := 3) (ret := some .int) (by decide) rfl ?_
  intro p e s m args below meth c s₁ B hml hv
  obtain ⟨rfl, hP, hK⟩ := hv
  have hx := B.exec
  have hb := B.bytes
  have hr := B.returns
  have hT := fun (w : Cond) (h : w ∈ tw_T) => atoms_spec (ws := Cond.code yX_firstDue bX_firstDue 3 (some .int) :: tw_T) B.pre w (List.mem_cons_of_mem _ h)
  have hown : s.vm.findClass RX = some m.cls := findClass_of_methodNamed B.named
  have hlocks := B.notSynchronized
  have hl := lv_entry ([.ref h0]) (n := 3) (Nat.le_of_ble_eq_true rfl)
  rw [lg_entry_eq]
  generalize (lg_sl ([.ref h0]) ++ List.replicate (3 - (lg_sl ([.ref h0])).length) Slot.unset).toArray = ls at hl ⊢
  have hl : lv_has ls 3 [(0, .ref h0)] := hl
  refine lv_iconst (v := -1) hx hb dX_firstDue_0 (by decide) ?_
  refine lv_istore_n hx hb dX_firstDue_1 rfl hl (by decide) rfl (fun ls hl => ?_)
  have hl : lv_has ls 3 [(1, .int (-1)), (0, .ref h0)] := hl
  refine lv_iconst (v := 0) hx hb dX_firstDue_2 (by decide) ?_
  refine lv_istore_n hx hb dX_firstDue_3 rfl hl (by decide) rfl (fun ls hl => ?_)
  have hl : lv_has ls 3 [(2, .int 0), (1, .int (-1)), (0, .ref h0)] := hl
  have hl : lv_has ls 3 [(2, .int 0), (1, .int (-1)), (0, .ref h0)] := hl
  refine lpX_firstDue dC dI h0 a0 a1 a2 a3 k0 k1 k2 k3 th tm pr ag ck nx hx hb hml hT hown hP hK ⟨Nat.le_refl _, Nat.le_refl _⟩ ⟨Nat.le_refl _, Nat.le_refl _⟩ (fun ls hl => ?_) 100 0 rfl ls (lv_sub hl [0, 1, 2] rfl)
  refine lv_iload_n hx hb dX_firstDue_40 rfl (lv_at hl 1 rfl) ?_
  exact W.iret hx hb hr (fun t ht hW => ⟨_, rfl, rfl, ht⟩) (fun q hq => by cases hq) dX_firstDue_41
theorem tw_nd {th : Nat → Int32} {tm : Nat → Int64} {ck : Int64} {i : Int32} (h1 : ¬ th i.toNatClampNeg = 0) (h2 : tw_due th tm ck i = false) : ck < tm i.toNatClampNeg := by
  simp only [tw_due, h1, not_false_eq_true, decide_true, Bool.true_and, decide_eq_false_iff_not] at h2
  exact Int64.not_le.mp h2
theorem tw_dd {th : Nat → Int32} {tm : Nat → Int64} {ck : Int64} {i : Int32} (h2 : tw_due th tm ck i = true) : ¬ ck < tm i.toNatClampNeg := by
  simp only [tw_due, Bool.and_eq_true, decide_eq_true_eq] at h2
  exact Int64.not_lt.mpr h2.2
theorem tw_least_a {th : Nat → Int32} {tm : Nat → Int64} {ck : Int64} {n : Nat} (h : th (nI n).toNatClampNeg = 0) : tw_least th tm ck n = tw_least th tm ck (n + 1) := by simp [tw_least, h]
theorem tw_least_b {th : Nat → Int32} {tm : Nat → Int64} {ck : Int64} {n : Nat} (h : tw_due th tm ck (nI n) = true) : tw_least th tm ck n = tw_least th tm ck (n + 1) := by simp [tw_least, tw_dd h]
theorem tw_least_c {th : Nat → Int32} {tm : Nat → Int64} {ck : Int64} {n : Nat} (h1 : ¬ th (nI n).toNatClampNeg = 0) (h2 : tw_due th tm ck (nI n) = false) (h3 : tw_least th tm ck n = -1) : tm (nI n).toNatClampNeg = tw_least th tm ck (n + 1) := by simp [tw_least, h1, tw_nd h1 h2, h3]
theorem tw_least_d {th : Nat → Int32} {tm : Nat → Int64} {ck : Int64} {n : Nat} (h1 : ¬ th (nI n).toNatClampNeg = 0) (h2 : tw_due th tm ck (nI n) = false) (h3 : tm (nI n).toNatClampNeg < tw_least th tm ck n) : tm (nI n).toNatClampNeg = tw_least th tm ck (n + 1) := by simp [tw_least, h1, tw_nd h1 h2, h3]
theorem tw_least_e {th : Nat → Int32} {tm : Nat → Int64} {ck : Int64} {n : Nat} (h3 : ¬ tw_least th tm ck n = -1) (h4 : ¬ tm (nI n).toNatClampNeg < tw_least th tm ck n) : tw_least th tm ck n = tw_least th tm ck (n + 1) := by simp [tw_least, h3, h4]
section LPleast
variable {p : Program} {l : Launch} {e : Env} {R : Room} {s : State} {m : MethodId} {args : Array Value} {below : List Frame} {meth : Method} {c : Code} {H : Heap} {locs : List Loc} {cells slots : Nat} {Q : State → Prop}
set_option maxHeartbeats 4000000 in
set_option maxRecDepth 100000 in
theorem lpX_least (dC : Nat → ClassId) (dI : Nat → Nat → Nat) (h0 a0 a1 a2 a3 : Nat) (k0 k1 k2 k3 : ClassId) (th : Nat → Int32) (tm : Nat → Int64) (pr ag : Nat → Int32) (ck : Int64) (nx : Int32) (hx : p.tables.exec = Jvm.exec) (hb : c.code = bX_least) (hml : c.maxLocals = 4) (hT : ∀ w ∈ tw_T, w.before args s = true) (hown : s.vm.findClass RX = some m.cls) (hP : va_P (dC, dI) tw_cl (tw_wX h0 a0 a1 a2 a3 k0 k1 k2 k3 th tm pr ag ck nx) H) (hK : va_K (dC, dI) tw_cl (tw_k k0 k1 k2 k3) s) (hR : 1 ≤ R.frames ∧ 40 ≤ R.locals) (hc : cells + 0 ≤ R.cells ∧ slots + 0 ≤ R.slots) (kk : ∀ ls : Array Slot, lv_has ls 4 [(3, .int (nI 100)), (1, .long (tw_least th tm ck 100)), (0, .ref h0)] → W p l e R s m args below meth c H locs cells slots Q (F0 m 61 ls [])) : ∀ (k n : Nat), n + k = 100 → ∀ ls : Array Slot, lv_has ls 4 [(3, .int (nI n)), (1, .long (tw_least th tm ck n)), (0, .ref h0)] → W p l e R s m args below meth c H locs cells slots Q (F0 m 6 ls []) := by
  intro k
  induction k with
  | zero =>
    intro n hn ls hl
    have hn : n = 100 := by omega
    subst hn
    refine lv_iload_n hx hb dX_least_6 rfl (lv_at hl 0 rfl) ?_
    refine lv_bipush (v := 100) hx hb dX_least_7 (by decide) ?_
    refine lv_icmp_ge (tgt := 61) hx hb dX_least_9 (by decide) (fun hc9 => ?_) (fun hc9 => absurd (by decide) hc9)
    exact kk ls hl
  | succ k ih =>
    intro n hn0 ls hl
    have hn : n < 100 := by omega
    refine lv_iload_n hx hb dX_least_6 rfl (lv_at hl 0 rfl) ?_
    refine lv_bipush (v := 100) hx hb dX_least_7 (by decide) ?_
    refine lv_icmp_ge (tgt := 61) hx hb dX_least_9 (by decide) (fun hc9 => absurd hc9 (tw_lt100 hn)) (fun hc9 => ?_)
    refine lv_aload_n hx hb dX_least_12 rfl (lv_at hl 2 rfl) ?_
    refine va_get (D := (dC, dI)) (ci := 0) (v := .ref a0) (C := RX) (T := FX) (N := 6) hx hb hT in_X hown hK hP 0 rfl rfl 0 (by decide) (hT _ tt_16) (fun _ h9 => h9) rfl dX_least_13 ?_
    refine lv_iload_n hx hb dX_least_16 rfl (lv_at hl 0 rfl) ?_
    refine va_zald hx hb hK hP 1 0 rfl rfl (tw_in100 hn) dX_least_17 ?_
    refine lv_if_eq (tgt := 55) hx hb dX_least_18 (by decide) (fun hc1 => ?_) (fun hc1 => ?_)
    · -- taken at 18: th (nI n).toNatClampNeg = 0
      refine lv_iinc (k := 0) hx hb dX_least_55 hl rfl (nI_succ _).symm (by decide) rfl (fun ls hl => ?_)
      have hl : lv_has ls 4 [(3, .int (nI (n + 1))), (1, .long (tw_least th tm ck n)), (0, .ref h0)] := hl
      refine lv_goto (tgt := 6) hx hb dX_least_58 (by decide) ?_
      rw [tw_least_a hc1] at hl
      exact ih (n + 1) (by omega) ls (lv_sub hl [0, 1, 2] rfl)
    · -- not taken at 18: th (nI n).toNatClampNeg = 0
      refine lv_aload_n hx hb dX_least_21 rfl (lv_at hl 2 rfl) ?_
      refine lv_iload_n hx hb dX_least_22 rfl (lv_at hl 0 rfl) ?_
      refine vp_callSi (W.runV (C := RX) (b := h0) (As := [.int (nI n)]) (rest := []) ⟨hx, hb, hml, hown, hT⟩ (cX_isDue l dC dI h0 a0 a1 a2 a3 k0 k1 k2 k3 th tm pr ag ck nx (nI n) (tw_in100 hn)) (cwV 1 hT (tw_gV tt_43 tt_45 tp_X_isDue tt_1 tt_46) rfl rfl rfl ⟨rfl, by decide +kernel⟩ ⟨Nat.le_trans (by decide) hR.1, Nat.le_trans (by decide) hR.2⟩) ⟨fun a U g mk q => ⟨q.1, q.2.1, va_K.moved (u := U) (U := U.calling g mk a) (Vm.Alike.refl U.vm) q.2.2⟩, va_recv (q0 := 0) (ci := 0) hK hP rfl rfl, fun U hU hW => ⟨rfl, by rw [hU]; exact hP, va_K.moved hW.alike hK⟩⟩ rfl rfl hl.1 rfl (lv_room (Nat.le_of_ble_eq_true rfl)) dX_least_23 hc) (fun r1 h1 => ?_)
      subst h1
      refine lv_if_ne (tgt := 55) hx hb dX_least_26 (by decide) (fun hc2 => ?_) (fun hc2 => ?_)
      · -- taken at 26: ¬ tw_bz (tw_due th tm ck (nI n)) = 0
        refine lv_iinc (k := 0) hx hb dX_least_55 hl rfl (nI_succ _).symm (by decide) rfl (fun ls hl => ?_)
        have hl : lv_has ls 4 [(3, .int (nI (n + 1))), (1, .long (tw_least th tm ck n)), (0, .ref h0)] := hl
        refine lv_goto (tgt := 6) hx hb dX_least_58 (by decide) ?_
        rw [tw_least_b (tw_bz1 hc2)] at hl
        exact ih (n + 1) (by omega) ls (lv_sub hl [0, 1, 2] rfl)
      · -- not taken at 26: ¬ tw_bz (tw_due th tm ck (nI n)) = 0
        refine lv_lload_n hx hb dX_least_29 rfl (lv_at hl 1 rfl) ?_
        refine lv_ldc2 (v := -1) hx hb hown (hT _ tt_42) dX_least_30 ?_
        refine W.lcmp hx hb dX_least_33 ?_
        refine lv_if_eq (tgt := 48) hx hb dX_least_34 (by decide) (fun hc3 => ?_) (fun hc3 => ?_)
        · -- taken at 34: lg_cmp (tw_least th tm ck n) (-1) = 0
          refine lv_aload_n hx hb dX_least_48 rfl (lv_at hl 2 rfl) ?_
          refine va_get (D := (dC, dI)) (ci := 0) (v := .ref a1) (C := RX) (T := FX) (N := 6) hx hb hT in_X hown hK hP 0 rfl rfl 1 (by decide) (hT _ tt_17) (fun _ h9 => h9) rfl dX_least_49 ?_
          refine lv_iload_n hx hb dX_least_52 rfl (lv_at hl 0 rfl) ?_
          refine va_lald hx hb hK hP 2 1 rfl rfl (tw_in100 hn) dX_least_53 ?_
          refine lv_lstore_n hx hb dX_least_54 rfl hl (by decide) rfl (fun ls hl => ?_)
          have hl : lv_has ls 4 [(1, .long (tm (nI n).toNatClampNeg)), (3, .int (nI n)), (0, .ref h0)] := hl
          refine lv_iinc (k := 1) hx hb dX_least_55 hl rfl (nI_succ _).symm (by decide) rfl (fun ls hl => ?_)
          have hl : lv_has ls 4 [(3, .int (nI (n + 1))), (1, .long (tm (nI n).toNatClampNeg)), (0, .ref h0)] := hl
          refine lv_goto (tgt := 6) hx hb dX_least_58 (by decide) ?_
          rw [tw_least_c hc1 (tw_bz0 hc2) ((lg_cmp_eq _ _).mp hc3)] at hl
          exact ih (n + 1) (by omega) ls (lv_sub hl [0, 1, 2] rfl)
        · -- not taken at 34: lg_cmp (tw_least th tm ck n) (-1) = 0
          refine lv_aload_n hx hb dX_least_37 rfl (lv_at hl 2 rfl) ?_
          refine va_get (D := (dC, dI)) (ci := 0) (v := .ref a1) (C := RX) (T := FX) (N := 6) hx hb hT in_X hown hK hP 0 rfl rfl 1 (by decide) (hT _ tt_17) (fun _ h9 => h9) rfl dX_least_38 ?_
          refine lv_iload_n hx hb dX_least_41 rfl (lv_at hl 0 rfl) ?_
          refine va_lald hx hb hK hP 2 1 rfl rfl (tw_in100 hn) dX_least_42 ?_
          refine lv_lload_n hx hb dX_least_43 rfl (lv_at hl 1 rfl) ?_
          refine W.lcmp hx hb dX_least_44 ?_
          refine lv_if_ge (tgt := 55) hx hb dX_least_45 (by decide) (fun hc4 => ?_) (fun hc4 => ?_)
          · -- taken at 45: lg_cmp (tm (nI n).toNatClampNeg) (tw_least th tm ck n) ≥ 0
            refine lv_iinc (k := 0) hx hb dX_least_55 hl rfl (nI_succ _).symm (by decide) rfl (fun ls hl => ?_)
            have hl : lv_has ls 4 [(3, .int (nI (n + 1))), (1, .long (tw_least th tm ck n)), (0, .ref h0)] := hl
            refine lv_goto (tgt := 6) hx hb dX_least_58 (by decide) ?_
            rw [tw_least_e (fun z => hc3 ((lg_cmp_eq _ _).mpr z)) (Int64.not_lt.mpr ((lg_cmp_ge _ _).mp hc4))] at hl
            exact ih (n + 1) (by omega) ls (lv_sub hl [0, 1, 2] rfl)
          · -- not taken at 45: lg_cmp (tm (nI n).toNatClampNeg) (tw_least th tm ck n) ≥ 0
            refine lv_aload_n hx hb dX_least_48 rfl (lv_at hl 2 rfl) ?_
            refine va_get (D := (dC, dI)) (ci := 0) (v := .ref a1) (C := RX) (T := FX) (N := 6) hx hb hT in_X hown hK hP 0 rfl rfl 1 (by decide) (hT _ tt_17) (fun _ h9 => h9) rfl dX_least_49 ?_
            refine lv_iload_n hx hb dX_least_52 rfl (lv_at hl 0 rfl) ?_
            refine va_lald hx hb hK hP 2 1 rfl rfl (tw_in100 hn) dX_least_53 ?_
            refine lv_lstore_n hx hb dX_least_54 rfl hl (by decide) rfl (fun ls hl => ?_)
            have hl : lv_has ls 4 [(1, .long (tm (nI n).toNatClampNeg)), (3, .int (nI n)), (0, .ref h0)] := hl
            refine lv_iinc (k := 1) hx hb dX_least_55 hl rfl (nI_succ _).symm (by decide) rfl (fun ls hl => ?_)
            have hl : lv_has ls 4 [(3, .int (nI (n + 1))), (1, .long (tm (nI n).toNatClampNeg)), (0, .ref h0)] := hl
            refine lv_goto (tgt := 6) hx hb dX_least_58 (by decide) ?_
            rw [tw_least_d hc1 (tw_bz0 hc2) ((lg_cmp_lt _ _).mp (Int32.not_le.mp hc4))] at hl
            exact ih (n + 1) (by omega) ls (lv_sub hl [0, 1, 2] rfl)
end LPleast
set_option maxHeartbeats 4000000 in
set_option maxRecDepth 100000 in
theorem cX_least (l : Launch) (dC : Nat → ClassId) (dI : Nat → Nat → Nat) (h0 a0 a1 a2 a3 : Nat) (k0 k1 k2 k3 : ClassId) (th : Nat → Int32) (tm : Nat → Int64) (pr ag : Nat → Int32) (ck : Int64) (nx : Int32)  : Met l yX_least (Cond.code yX_least bX_least 4 (some .long) :: tw_T) { frames := 1, cells := 0, slots := 0, locals := 40 } (va_Pc [.ref h0] (tw_PX dC dI h0 a0 a1 a2 a3 k0 k1 k2 k3 th tm pr ag ck nx)) (vp_Sl (fun r => r = tw_least th tm ck 100)) 0 0 (fun _ => False) := by
  refine Met.ofW (cc := bX_least) (maxL := 4) (ret := some .long) (by decide) rfl ?_
  intro p e s m args below meth c s₁ B hml hv
  obtain ⟨rfl, hP, hK⟩ := hv
  have hx := B.exec
  have hb := B.bytes
  have hr := B.returns
  have hT := fun (w : Cond) (h : w ∈ tw_T) => atoms_spec (ws := Cond.code yX_least bX_least 4 (some .long) :: tw_T) B.pre w (List.mem_cons_of_mem _ h)
  have hown : s.vm.findClass RX = some m.cls := findClass_of_methodNamed B.named
  have hlocks := B.notSynchronized
  have hl := lv_entry ([.ref h0]) (n := 4) (Nat.le_of_ble_eq_true rfl)
  rw [lg_entry_eq]
  generalize (lg_sl ([.ref h0]) ++ List.replicate (4 - (lg_sl ([.ref h0])).length) Slot.unset).toArray = ls at hl ⊢
  have hl : lv_has ls 4 [(0, .ref h0)] := hl
  refine lv_ldc2 (v := -1) hx hb hown (hT _ tt_42) dX_least_0 ?_
  refine lv_lstore_n hx hb dX_least_3 rfl hl (by decide) rfl (fun ls hl => ?_)
  have hl : lv_has ls 4 [(1, .long (-1)), (0, .ref h0)] := hl
  refine lv_iconst (v := 0) hx hb dX_least_4 (by decide) ?_
  refine lv_istore_n hx hb dX_least_5 rfl hl (by decide) rfl (fun ls hl => ?_)
  have hl : lv_has ls 4 [(3, .int 0), (1, .long (-1)), (0, .ref h0)] := hl
  have hl : lv_has ls 4 [(3, .int 0), (1, .long (-1)), (0, .ref h0)] := hl
  refine lpX_least dC dI h0 a0 a1 a2 a3 k0 k1 k2 k3 th tm pr ag ck nx hx hb hml hT hown hP hK ⟨Nat.le_refl _, Nat.le_refl _⟩ ⟨Nat.le_refl _, Nat.le_refl _⟩ (fun ls hl => ?_) 100 0 rfl ls (lv_sub hl [0, 1, 2] rfl)
  refine lv_lload_n hx hb dX_least_61 rfl (lv_at hl 1 rfl) ?_
  exact W.lret hx hb hr (fun t ht hW => ⟨_, rfl, rfl, ht⟩) (fun q hq => by cases hq) dX_least_62
end
section
/-! throw new E("text") where E's constructor calls the one above at an entry that is not 7 (NoSuchElementException: entry 13). The shape of the walk is that of the library's ctorThrowS (BundleOwnThrow), for a first step of any entry and bytes; launches without stack traces; nothing written so far. -/
section XTN
variable {p : Program} {l : Launch} {e : Env} {R : Room} {s : State} {m : MethodId} {args : Array Value} {below : List Frame} {meth : Method} {c : Code} {T0 : State} {cells slots : Nat} {own : String} {cc : ByteArray} {pc : Nat} {ls : Array Slot} {rest : List Value} {Qc : Array Value → State → Outcome → State → Prop} {free : Addr → Prop}
def xt_lays (X : String) : List Cond := [.instantiable X 6, .selects X Bundle.tFill0 Bundle.tFill0, .selects X Bundle.tFill Bundle.tFill, .lays X Bundle.tN "cause" "Ljava/lang/Throwable;", .lays X Bundle.tN "stackTrace" Bundle.steD, .lays X Bundle.tN "suppressedExceptions" Bundle.listD, .lays X Bundle.tN "detailMessage" "Ljava/lang/String;", .lays X Bundle.tN "backtrace" "Ljava/lang/Object;", .fieldLink Bundle.tN 198 Bundle.tN "backtrace" "Ljava/lang/Object;", .lays Bundle.tN Bundle.tN "backtrace" "Ljava/lang/Object;", .isRef (.static Bundle.tN "UNASSIGNED_STACK" Bundle.steD), .isRef (.static Bundle.tN "SUPPRESSED_SENTINEL" Bundle.listD)]
def xt_atoms (X : String) (ix : Nat) (rx : ByteArray) (Y : String) (names : List String) : List Cond := Bundle.throwableAtoms ++ (Bundle.throwableSAtoms ++ (Bundle.passSAtoms X Y ix rx ++ (Bundle.chainSAtoms Y names ++ xt_lays X)))
set_option maxHeartbeats 1000000 in
theorem xt_ctor (X : Stand p l e R s m args below meth c T0 [] cells slots) (hexec : p.tables.exec = Jvm.exec) (htr : e.platform.stackTraces = false) {E Y : String} {names : List String} {ic ix : Nat} {rx : ByteArray}
    (x0 : decode rx 0 = .ok (.aload_n 0, 1)) (x1 : decode rx 1 = .ok (.aload_n 1, 1)) (x2 : decode rx 2 = .ok (.invokespecial ix, 3)) (x5 : decode rx 5 = .ok (.return_, 1))
    (hown : s.vm.findClass own = some m.cls) (hE : Bundle.fit E = true) (hY : Bundle.fit Y = true) (hnames : ∀ n ∈ names, Bundle.fit n = true) (hlink : (Cond.methodLink own ic (Bundle.initS E)).before args s = true) (h : ∀ w ∈ xt_atoms E ix rx Y names, w.before args s = true)
    {a : Addr} {cX : ClassId} {kX : Class} (hfE : s.vm.findClass E = some cX) (hkE : s.vm.classes[cX]? = some kX) (hcell : T0.heap[a]? = some (freshCell cX kX)) (hnew : s.heap.size ≤ a) {msg : Value} (hmsg : msg.isRef = true)
    {g : JFrame} (hg : g.method = m) (hsize : g.locals.size = c.maxLocals) (hlocked : g.locked = none) (hentered : g.entered = []) (hstack : g.stack = msg :: .ref a :: .ref a :: rest)
    (hd6 : decode c.code g.pc = .ok (.invokespecial ic, 3)) (hd9 : decode c.code (g.pc + 3) = .ok (.athrow, 1)) (hout : ∀ x ∈ c.exceptionTable.toList, covers x (g.pc + 3) = false)
    (hRf : names.length + 4 < R.frames) (hRl : 2 * g.monitorRoom + ((Value.ref a :: rest).map fun v => v.category).sum + (13 * (names.length + 2) + 42) ≤ R.locals) (hlocks : meth.locks = false) :
    ∃ U : State, Steps p.tables e below (T0.setTop g) U ∧ U.status = .running ∧ Ended U below (.threw a) ∧ s.WarmedH U.vm ∧ s.sameButNew ({ U with vm := s.vm } : State) [] cells slots ∧ ∃ ce, U.heap[a]? = some ce ∧ ce.vm = .none ∧ s.vm.findClass E = some ce.cls := by
  have hpl : e.platform.magicAccessors = ({} : Platform).magicAccessors := by rw [X.admits.platform]
  have i1 : ∀ w ∈ Bundle.throwableAtoms, w.before args s = true := fun w hw => h w (List.mem_append_left _ hw)
  have i2 : ∀ w ∈ Bundle.throwableSAtoms, w.before args s = true := fun w hw => h w (List.mem_append_right _ (List.mem_append_left _ hw))
  have i3 : ∀ w ∈ Bundle.passSAtoms E Y ix rx, w.before args s = true := fun w hw => h w (List.mem_append_right _ (List.mem_append_right _ (List.mem_append_left _ hw)))
  have i4 : ∀ w ∈ Bundle.chainSAtoms Y names, w.before args s = true := fun w hw => h w (List.mem_append_right _ (List.mem_append_right _ (List.mem_append_right _ (List.mem_append_left _ hw))))
  have i5 : ∀ w ∈ xt_lays E, w.before args s = true := fun w hw => h w (List.mem_append_right _ (List.mem_append_right _ (List.mem_append_right _ (List.mem_append_right _ hw))))
  obtain ⟨T, Z0, L, -, Yt⟩ := ThrowableC.of_atoms (args := args) (by rw [X.admits.platform] : e.platform.frameOwnsMonitors = true) (by rw [X.admits.platform] : e.platform.finalization = false) hpl i1
  obtain ⟨Z, M, LZ, LM, hnZ⟩ := Init0T.ofS_atoms (args := args) hpl L Yt i2
  obtain ⟨P1, L1, hP1m, hP1s⟩ := PassC.ofS_atoms (args := args) (s := s) hpl (X := E) (Y := Y) (Bundle.fit_spec hE).1 (Bundle.fit_spec hY).2 x0 x1 x2 x5 i3
  obtain ⟨P2, Ps, hlen, L2, hL, hP2m, hl1, hl2⟩ := Bundle.chainS (args := args) hpl hnZ names Y hY hnames i4
  have hfound : s.vm.findClass E = some P1.m.cls := findClass_of_methodNamed hP1m
  cases Option.some.inj (hfE.symm.trans hfound)
  obtain ⟨c1, kX', hc1, hk, hord, -, -, hn6⟩ := Cond.instantiable_spec (i5 (.instantiable E 6) (by simp [xt_lays]))
  cases Option.some.inj (hc1.symm.trans hfound)
  cases Option.some.inj (hkE.symm.trans hk)
  have hsel : ∀ {x : MethodName} {k : MethodId}, (Cond.selects E x x).before args s = true → s.methodNamed? x = some k → (x.cls ≠ "java/lang/invoke/MethodHandle" ∧ x.cls ≠ "java/lang/invoke/VarHandle") → selectMethod e.platform s.vm P1.m.cls k = .method k := by
    intro x k hw hnk hx
    obtain ⟨c2, r2, m2, q1, q2, q3, q4, -⟩ := Cond.selects_spec hw
    cases Option.some.inj (q1.symm.trans hfound)
    cases Option.some.inj (q2.symm.trans (State.methodFound?_of_named hnk hx))
    cases Option.some.inj (q3.symm.trans hnk)
    rw [Launch.admits_selectMethod X.admits]; exact q4
  have hsel0 := hsel (i5 (.selects E Bundle.tFill0 Bundle.tFill0) (by simp [xt_lays])) Yt.fill0 (by decide)
  have hselF := hsel (i5 (.selects E Bundle.tFill Bundle.tFill) (by simp [xt_lays])) Yt.fill (by decide)
  obtain ⟨cellS0, hcS0, hiss⟩ := Yt.statics
  obtain ⟨u0, hu0⟩ := Cond.staticRefV Yt.unassigned L.unassignedStatic L.statics hcS0 hiss (i5 (.isRef (.static Bundle.tN "UNASSIGNED_STACK" Bundle.steD)) (by simp [xt_lays]))
  obtain ⟨sen, hsen⟩ := Cond.staticRefV Yt.sentinel L.sentinelStatic L.statics hcS0 hiss (i5 (.isRef (.static Bundle.tN "SUPPRESSED_SENTINEL" Bundle.listD)) (by simp [xt_lays]))
  obtain ⟨ci198, i198, fB, hk198, hg198, ha198, hsB, -, hnB, htB, hffB⟩ := Cond.ownField (t := .object "java/lang/Object") Yt.found L.cls (by decide +kernel) (i5 (.fieldLink Bundle.tN 198 Bundle.tN "backtrace" "Ljava/lang/Object;") (by simp [xt_lays])) (i5 (.lays Bundle.tN Bundle.tN "backtrace" "Ljava/lang/Object;") (by simp [xt_lays])) e.platform hpl
  obtain ⟨cellS, hcS', heS, -, hkeep⟩ := X.same.2.2.2.2.2 T.aS cellS0 hcS0
  have hcellS : T0.heap[T.aS]? = some cellS := hcS'
  have hknownS : cellS.vm ≠ .unknown := by
    rw [heS]; intro hu
    rw [show cellS0.vm = .unknown from hu] at hiss
    cases hiss
  have hneS : T.aS ≠ a := Nat.ne_of_lt (Nat.lt_of_lt_of_le (Array.getElem?_eq_some_iff.mp hcS0).1 hnew)
  obtain ⟨iM, hffM⟩ := Yt.msg
  obtain ⟨tyC, dC, hdC, hdnC⟩ := Cond.laysAt hfound hk Yt.cause (i5 (.lays E Bundle.tN "cause" "Ljava/lang/Throwable;") (by simp [xt_lays]))
  obtain ⟨tyS, dS, hdS, hdnS⟩ := Cond.laysAt hfound hk Yt.stack (i5 (.lays E Bundle.tN "stackTrace" Bundle.steD) (by simp [xt_lays]))
  obtain ⟨tyP, dP, hdP, hdnP⟩ := Cond.laysAt hfound hk Yt.supp (i5 (.lays E Bundle.tN "suppressedExceptions" Bundle.listD) (by simp [xt_lays]))
  obtain ⟨tyM, dM, hdM, hdnM⟩ := Cond.laysAt hfound hk hffM (i5 (.lays E Bundle.tN "detailMessage" "Ljava/lang/String;") (by simp [xt_lays]))
  obtain ⟨tyB, dB, hdB, hdnB⟩ := Cond.laysAt hfound hk hffB (i5 (.lays E Bundle.tN "backtrace" "Ljava/lang/Object;") (by simp [xt_lays]))
  have bC := Cond.laysApart hdB hdC hdnB hdnC (by rw [hnB, Yt.causeName]; decide)
  have bS := Cond.laysApart hdB hdS hdnB hdnS (by rw [hnB, Yt.stackName]; decide)
  have bP := Cond.laysApart hdB hdP hdnB hdnP (by rw [hnB, Yt.suppName]; decide)
  have hskip : SkipFacts T e.platform s (fun u => u) u0 ((preparedCellV T.toThrowableT (freshCell P1.m.cls kX) a u0 sen).withEntry T0.cur) :=
    ⟨{ ci198 := ci198, i198 := i198, fBack := fB }, ⟨hk198, hg198, ha198, hsB⟩, by
      have := fresh_default (c := P1.m.cls) tyB
      rw [htB] at this
      simpa [preparedCellV, Cell.setSlot, Cell.withEntry, Array.getElem?_setIfInBounds, bC, bS, bP, bC.symm, bS.symm, bP.symm, defaultValue] using this, fun _ _ => rfl⟩
  obtain ⟨tm, methC, cdC, kC, vm₁, hnC, -, -, -, -, -, -, -, hW₁, st1⟩ := Steps.initColdS (tb := p.tables) (e := e) (below := below) (s := s) (U := T0) X.here hexec X.warmed hpl hown (t := Bundle.initS E) rfl rfl (Bundle.fit_spec hE).2 hlink
    (i3 (.instanceMethod (Bundle.initS E)) (by simp [Bundle.passSAtoms])) (bytes := rx) (maxL := 2) (i3 (.code (Bundle.initS E) rx 2 none) (by simp [Bundle.passSAtoms])) (f := g) hg (a := a) (msg := msg) (rest := .ref a :: rest) hstack hd6
  cases Option.some.inj (hnC.symm.trans hP1m)
  have hlk : P1.sup = firstOf (Z.m T.toThrowableT) ((P2 :: Ps).map (·.toPassT)) := Option.some.inj (hP1s.symm.trans hP2m)
  obtain ⟨vm₂, X₂, st2⟩ := (X.noted hW₁).ctorMessageOffV hexec (g := { g with stack := .ref a :: rest }) hg hsize T L Z LZ M LM (P1 :: P2 :: Ps)
    (fun P hP => by
      rcases List.mem_cons.mp hP with rfl | hP
      · exact L1
      · rcases List.mem_cons.mp hP with rfl | hP
        · exact L2
        · exact hL P hP) ⟨hlk, hl1, hl2⟩ (u0 := u0) (sen := sen) (self := a) hmsg (cell := freshCell P1.m.cls kX) (cellS := cellS)
    hcell (fun _ => by simp) (by simp) rfl rfl hsel0 hselF hcellS hneS hknownS (by rw [hkeep _ (by simp)]; exact hu0) (by rw [hkeep _ (by simp)]; exact hsen)
    (Takes.of_laid hk hord tyC (by rw [Yt.causeType]; rfl)) (Takes.of_laid hk hord tyS (by rw [Yt.stackType]; exact fits_refV_array _ u0)) (Takes.of_laid hk hord tyP (by rw [Yt.suppType]; exact fits_refV_object _ sen))
    (Takes.of_laid hk hord tyM (by rw [Yt.msgType]; exact fits_refV_object _ ⟨msg, hmsg⟩)) Yt.objLocals hskip htr [] hd6
    (by simp only [List.length_cons, hlen]; omega) (by simp only [List.length_cons, hlen]; exact hRl)
  obtain ⟨hwalk, hrun, hended, hWU, hsame⟩ := X₂.athrowLeaves hexec (g := { g with stack := .ref a :: rest, pc := g.pc + 3 }) hg hlocked hentered hout (a := a) (rest := rest) rfl hd9 hlocks
  have hlt : a < ((T0.setVm vm₁).setVm vm₂).heap.size := (Array.getElem?_eq_some_iff.mp hcell).1
  have hU := heapAt_setCell_self (s := (T0.setVm vm₁).setVm vm₂) (plainBareV T.toThrowableT (freshCell P1.m.cls kX) a u0 sen msg) hlt
  refine ⟨_, st1 _ (fun acts => ?_), hrun, hended, hWU, hsame.weaken (fun y hy hlt' => ?_) (Nat.le_refl _) (Nat.le_refl _), _, hU, rfl, hfound⟩
  · rw [doInvoke_state]
    exact st2 _ hwalk
  · exfalso
    have hb : y.base = a := by
      simp only [List.nil_append, List.mem_cons, List.not_mem_nil, or_false] at hy
      rcases hy with rfl | rfl | rfl | rfl | rfl <;> rfl
    rw [hb] at hlt'
    exact Nat.not_lt.mpr hnew hlt'
/-- throw new E("text") of such a class, in a method that has written nothing so far -/
theorem xt_throwN {E tx Y : String} {names : List String} {ik is ic ix q0 : Nat} {rx : ByteArray} (hexec : p.tables.exec = Jvm.exec) (hb : c.code = cc) (htr : e.platform.stackTraces = false)
    (x0 : decode rx 0 = .ok (.aload_n 0, 1)) (x1 : decode rx 1 = .ok (.aload_n 1, 1)) (x2 : decode rx 2 = .ok (.invokespecial ix, 3)) (x5 : decode rx 5 = .ok (.return_, 1))
    (hown : s.vm.findClass own = some m.cls) (hE : Bundle.fit E = true) (hY : Bundle.fit Y = true) (hnames : ∀ n ∈ names, Bundle.fit n = true) (hlink : (Cond.methodLink own ic (Bundle.initS E)).before args s = true)
    (hk : (Cond.classLink own ik E).before args s = true) (hini : (Cond.initialized E).before args s = true) (hZ : vk_R own is tx q0 s) (h : ∀ w ∈ xt_atoms E ix rx Y names, w.before args s = true)
    (hsize : ls.size = c.maxLocals) (d0 : decode cc pc = .ok (.new ik, 3)) (d3 : decode cc (pc + 3) = .ok (.dup, 1)) (d4 : decode cc (pc + 4) = .ok (.ldc is, 2)) (d6 : decode cc (pc + 6) = .ok (.invokespecial ic, 3)) (d9 : decode cc (pc + 9) = .ok (.athrow, 1))
    (hout : ∀ x ∈ c.exceptionTable.toList, covers x (pc + 9) = false) (hRf : names.length + 4 < R.frames) (hRl : (rest.map fun v => v.category).sum + (13 * (names.length + 2) + 43) ≤ R.locals) (hRc : 1 ≤ R.cells) (hRs : 6 ≤ R.slots) (hlocks : meth.locks = false)
    (hq : ∀ t : State, s.WarmedH t.vm → xt_E E s s.heap.size t → Qc args s (.threw s.heap.size) t) :
    W p l e R s m args below meth c s.heap [] 0 0 (xt_MQ below Qc args s 1 6 free) (F0 m pc ls rest) := by
  refine W.newc (n := 6) (C := E) hexec hb hown hk (h _ (List.mem_append_right _ (List.mem_append_right _ (List.mem_append_right _ (List.mem_append_right _ (by simp [xt_lays])))))) hini rfl d0 (by omega) (by omega) ?_
  intro cC kC h1 h2 h3 h4
  refine W.eq (g2 := F0 m (pc + 3) ls (.ref s.heap.size :: rest)) rfl ?_
  refine lv_dup hexec hb d3 rfl ?_
  refine W.eq (g2 := F0 m (pc + 4) ls (.ref s.heap.size :: .ref s.heap.size :: rest)) rfl ?_
  refine va_ldcS hexec hb hown hZ d4 ?_
  intro T hT X
  have hcat : (Value.ref s.heap.size).category = 1 := rfl
  obtain ⟨U, hsteps, hrun, hend, hW, hsame, ce, hce, hv, hcl⟩ := xt_ctor X hexec htr x0 x1 x2 x5 hown hE hY hnames hlink h h1 h2 (a := s.heap.size) (by rw [hT]; simp) (Nat.le_refl _) (msg := .ref q0) rfl
    (g := F0 m (pc + 4 + 2) ls (.ref q0 :: .ref s.heap.size :: .ref s.heap.size :: rest)) rfl hsize rfl rfl rfl (by rw [hb]; exact d6) (by rw [hb]; exact d9) hout hRf (by show 2 * 0 + _ + _ ≤ _; simp only [List.map_cons, List.sum_cons, hcat]; omega) hlocks
  obtain ⟨f1, f2⟩ := xt_old hsame
  exact ⟨U, hsteps, .threw s.heap.size, hrun, hend, hq U hW ⟨⟨ce, hce, hv, hcl⟩, f1, f2⟩, [], hW, hsame, fun q hq => nomatch hq⟩
end XTN
end
section
/-! What a throw asks that no list of good words carries: where Throwable's two statics lie, the String constants, a few words on classes. -/
abbrev tw_iae : String := "java/lang/IllegalArgumentException"
abbrev tw_nse : String := "java/util/NoSuchElementException"
abbrev tw_nm : List String := ["java/lang/RuntimeException", "java/lang/Exception"]
def tw_strs : List (Nat × String) := [(86, "a TIMER is 0 .. 99"), (40, "a TIME is 0 .. 2^46"), (47, "there is no such TIMER"), (54, "no TIMER is DUE"), (64, "the CLOCK goes on by 0 .. 2^44"), (66, "the CLOCK goes at most to 2^46"), (75, "there is no TIMER that is not DUE"), (77, "what is 0 .. 3"), (84, "what is 0 .. 2")]
def tw_dec : List MethodName := [Bundle.initS "java/lang/RuntimeException", Bundle.initS "java/lang/Exception", Bundle.initS Bundle.tN]
def tw_Z (U : State) (H : Heap) : Prop := (∀ q ∈ tw_strs, ∃ a : Nat, vk_R RX q.1 q.2 a U) ∧ (∀ x ∈ tw_dec, va_Nw (.declares x) U) ∧ va_Nw (.castable tw_iae tw_iae) U ∧ va_Nw (.castable tw_nse tw_nse) U ∧ xt_st "UNASSIGNED_STACK" Bundle.steD U H ∧ xt_st "SUPPRESSED_SENTINEL" Bundle.listD U H
theorem tw_Z.move {s U : State} {H H1 : Heap} (hW : s.WarmedH U.vm) (hq : ∀ a : Nat, a < H.size → H1[a]? = H[a]?) (h : tw_Z s H) : tw_Z U H1 := by
  obtain ⟨h1, h2, h3, h4, h5, h6⟩ := h
  refine ⟨fun q hq => ?_, fun x hx => xt_decl hW.alike (h2 x hx), xt_cast hW.alike h3, xt_cast hW.alike h4, (h5.moved hW.alike).kept hq, (h6.moved hW.alike).kept hq⟩
  obtain ⟨a, ha⟩ := h1 q hq
  exact ⟨a, ha.warm hW⟩
theorem tw_Z.call {U : State} {g : JFrame} {mk : MethodId} {a : Array Value} (h : tw_Z U U.heap) : tw_Z (U.calling g mk a) (U.calling g mk a).heap := tw_Z.move (State.WarmedH.refl U) (fun _ _ => rfl) h
theorem tw_Z.at {s U : State} {H : Heap} (h : tw_Z s H) (hU : U.heap = H) (hW : s.WarmedH U.vm) : tw_Z U U.heap := by
  rw [hU]
  exact tw_Z.move hW (fun _ _ => rfl) h
theorem tw_x0 : decode prog_9_method_4_code 0 = .ok (.aload_n 0, 1) := by decide +kernel
theorem tw_x1 : decode prog_9_method_4_code 1 = .ok (.aload_n 1, 1) := by decide +kernel
theorem tw_x2 : decode prog_9_method_4_code 2 = .ok (.invokespecial 13, 3) := by decide +kernel
theorem tw_x5 : decode prog_9_method_4_code 5 = .ok (.return_, 1) := by decide +kernel
theorem tw_gA : ∀ w ∈ (Bundle.ownAtoms RX 42 tw_iae tw_nm).filter goodWord, w ∈ lw_tbl := by decide +kernel
theorem tw_nA : ∀ w ∈ (Bundle.ownAtoms RX 42 tw_iae tw_nm).filter (fun w => !goodWord w), w ∈ ([.castable tw_iae tw_iae, .laysStatic Bundle.tN "UNASSIGNED_STACK" Bundle.steD, .laysStatic Bundle.tN "SUPPRESSED_SENTINEL" Bundle.listD, .isRef (.static Bundle.tN "UNASSIGNED_STACK" Bundle.steD), .isRef (.static Bundle.tN "SUPPRESSED_SENTINEL" Bundle.listD)] : List Cond) ++ tw_dec.map .declares := by decide +kernel
theorem tw_ownA {args : Array Value} {s : State} (hT : ∀ w ∈ tw_T, w.before args s = true) (hZ : tw_Z s s.heap) : ∀ w ∈ Bundle.ownAtoms RX 42 tw_iae tw_nm, w.before args s = true := by
  intro w hw
  by_cases g : goodWord w = true
  · exact hT w (List.mem_filter.mpr ⟨tw_gA w (List.mem_filter.mpr ⟨hw, g⟩), g⟩)
  · obtain ⟨h1, h2, h3, h4, h5, h6⟩ := hZ
    have h := tw_nA w (List.mem_filter.mpr ⟨hw, by cases hg : goodWord w with | true => exact absurd hg g | false => rfl⟩)
    rcases List.mem_append.mp h with h | h
    · simp only [List.mem_cons, List.not_mem_nil, or_false] at h
      rcases h with rfl | rfl | rfl | rfl | rfl
      · exact va_Nw.use rfl h3
      · exact h5.lays
      · exact h6.lays
      · exact h5.isRef
      · exact h6.isRef
    · obtain ⟨x, hx, rfl⟩ := List.mem_map.mp h
      exact va_Nw.use rfl (h2 x hx)
theorem tw_gN : ∀ w ∈ (xt_atoms tw_nse 13 prog_9_method_4_code "java/lang/RuntimeException" ["java/lang/Exception"]).filter goodWord, w ∈ lw_tbl := by decide +kernel
theorem tw_nN : ∀ w ∈ (xt_atoms tw_nse 13 prog_9_method_4_code "java/lang/RuntimeException" ["java/lang/Exception"]).filter (fun w => !goodWord w), w ∈ ([.castable tw_nse tw_nse, .laysStatic Bundle.tN "UNASSIGNED_STACK" Bundle.steD, .laysStatic Bundle.tN "SUPPRESSED_SENTINEL" Bundle.listD, .isRef (.static Bundle.tN "UNASSIGNED_STACK" Bundle.steD), .isRef (.static Bundle.tN "SUPPRESSED_SENTINEL" Bundle.listD)] : List Cond) ++ tw_dec.map .declares := by decide +kernel
theorem tw_ownN {args : Array Value} {s : State} (hT : ∀ w ∈ tw_T, w.before args s = true) (hZ : tw_Z s s.heap) : ∀ w ∈ xt_atoms tw_nse 13 prog_9_method_4_code "java/lang/RuntimeException" ["java/lang/Exception"], w.before args s = true := by
  intro w hw
  by_cases g : goodWord w = true
  · exact hT w (List.mem_filter.mpr ⟨tw_gN w (List.mem_filter.mpr ⟨hw, g⟩), g⟩)
  · obtain ⟨h1, h2, h3, h4, h5, h6⟩ := hZ
    have h := tw_nN w (List.mem_filter.mpr ⟨hw, by cases hg : goodWord w with | true => exact absurd hg g | false => rfl⟩)
    rcases List.mem_append.mp h with h | h
    · simp only [List.mem_cons, List.not_mem_nil, or_false] at h
      rcases h with rfl | rfl | rfl | rfl | rfl
      · exact va_Nw.use rfl h4
      · exact h5.lays
      · exact h6.lays
      · exact h5.isRef
      · exact h6.isRef
    · obtain ⟨x, hx, rfl⟩ := List.mem_map.mp h
      exact va_Nw.use rfl (h2 x hx)
theorem tw_vp {j : Int32} : vp_in j 100 ↔ ¬ j < 0 ∧ j < 100 := by
  rw [vp_in_iff, Int32.lt_iff_toInt_lt, Int32.lt_iff_toInt_lt]
  show _ ↔ ¬ j.toInt < 0 ∧ j.toInt < 100
  omega
abbrev tw_thr (E : String) : Array Value → State → Outcome → State → Prop := fun _ st o t => ∃ q, o = .threw q ∧ xt_E E st q t
end
section
/-! The class, methods that write or throw: c.. where it answers, e.. where it throws. Rows laid by our own program (wip/gen/gt.py). -/
set_option maxHeartbeats 4000000 in
set_option maxRecDepth 100000 in
theorem cX_requireTimerNumber (l : Launch) (j : Int32) (hj : vp_in j 100) : Met l yX_requireTimerNumber (Cond.code yX_requireTimerNumber bX_requireTimerNumber 1 (none) :: tw_T) { frames := 0, cells := 0, slots := 0, locals := 0 } (va_Pc [.int j] (fun _ => True)) (va_Sv (fun _ => True)) 0 0 (fun _ => False) := by
  refine Met.ofW (cc := bX_requireTimerNumber) (maxL := 1) (ret := none) (by decide) rfl ?_
  intro p e s m args below meth c s₁ B hml hv
  obtain ⟨rfl, -⟩ := hv
  have hx := B.exec
  have hb := B.bytes
  have hr := B.returns
  have hT := fun (w : Cond) (h : w ∈ tw_T) => atoms_spec (ws := Cond.code yX_requireTimerNumber bX_requireTimerNumber 1 (none) :: tw_T) B.pre w (List.mem_cons_of_mem _ h)
  have hown : s.vm.findClass RX = some m.cls := findClass_of_methodNamed B.named
  have hlocks := B.notSynchronized
  have hl := lv_entry ([.int j]) (n := 1) (Nat.le_of_ble_eq_true rfl)
  rw [lg_entry_eq]
  generalize (lg_sl ([.int j]) ++ List.replicate (1 - (lg_sl ([.int j])).length) Slot.unset).toArray = ls at hl ⊢
  have hl : lv_has ls 1 [(0, .int j)] := hl
  refine lv_iload_n hx hb dX_requireTimerNumber_0 rfl (lv_at hl 0 rfl) ?_
  refine lv_if_lt (tgt := 10) hx hb dX_requireTimerNumber_1 (by decide) (fun hc1 => absurd hc1 ((tw_vp.mp hj).1)) (fun hc1 => ?_)
  refine lv_iload_n hx hb dX_requireTimerNumber_4 rfl (lv_at hl 0 rfl) ?_
  refine lv_bipush (v := 100) hx hb dX_requireTimerNumber_5 (by decide) ?_
  refine lv_icmp_lt (tgt := 20) hx hb dX_requireTimerNumber_7 (by decide) (fun hc2 => ?_) (fun hc2 => absurd ((tw_vp.mp hj).2) hc2)
  exact W.vret hx hb hr (fun t ht hW => ⟨rfl, trivial, ht⟩) (fun q hq => by cases hq) dX_requireTimerNumber_20
set_option maxHeartbeats 4000000 in
set_option maxRecDepth 100000 in
theorem eX_requireTimerNumber (l : Launch) (hfl : l.flags = pinnedFlags ++ [noTraceFlag]) (j : Int32) (hj : ¬ vp_in j 100) : xt_Met l yX_requireTimerNumber (Cond.code yX_requireTimerNumber bX_requireTimerNumber 1 (none) :: tw_T) { frames := 6, cells := 1, slots := 6, locals := 90 } (va_Pc [.int j] (fun U => tw_Z U U.heap)) (tw_thr tw_iae) 1 6 (fun _ => False) := by
  refine xt_ofW (cc := bX_requireTimerNumber) (maxL := 1) (ret := none) (by decide) rfl ?_
  intro p e s m args below meth c s₁ B hml hout hadm hv
  obtain ⟨rfl, hZ⟩ := hv
  have hx := B.exec
  have hb := B.bytes
  have hr := B.returns
  have hT := fun (w : Cond) (h : w ∈ tw_T) => atoms_spec (ws := Cond.code yX_requireTimerNumber bX_requireTimerNumber 1 (none) :: tw_T) B.pre w (List.mem_cons_of_mem _ h)
  have hown : s.vm.findClass RX = some m.cls := findClass_of_methodNamed B.named
  have hlocks := B.notSynchronized
  have hl := lv_entry ([.int j]) (n := 1) (Nat.le_of_ble_eq_true rfl)
  rw [lg_entry_eq]
  generalize (lg_sl ([.int j]) ++ List.replicate (1 - (lg_sl ([.int j])).length) Slot.unset).toArray = ls at hl ⊢
  have hl : lv_has ls 1 [(0, .int j)] := hl
  have htr := Launch.traces_off hfl hadm
  refine lv_iload_n hx hb dX_requireTimerNumber_0 rfl (lv_at hl 0 rfl) ?_
  refine lv_if_lt (tgt := 10) hx hb dX_requireTimerNumber_1 (by decide) (fun hc1 => ?_) (fun hc1 => ?_)
  · -- taken at 1: j < 0
    obtain ⟨q9, hq9⟩ := hZ.1 (86, "a TIMER is 0 .. 99") (by decide)
    exact xt_throw (tx := "a TIMER is 0 .. 99") (names := tw_nm) (q0 := q9) (E := tw_iae) hx hb htr hown (by decide +kernel) (by decide +kernel) (hT _ tt_58) (hT _ tt_6) hq9 (tw_ownA hT hZ) (hl.1.trans hml.symm) dX_requireTimerNumber_10 dX_requireTimerNumber_13 dX_requireTimerNumber_14 dX_requireTimerNumber_16 dX_requireTimerNumber_19 (fun x hx9 => hout x hx9 _) (Nat.le_of_ble_eq_true rfl) (Nat.le_of_ble_eq_true rfl) (Nat.le_of_ble_eq_true rfl) (Nat.le_of_ble_eq_true rfl) hlocks (fun t hW hE => ⟨_, rfl, hE⟩)
  · -- not taken at 1: j < 0
    refine lv_iload_n hx hb dX_requireTimerNumber_4 rfl (lv_at hl 0 rfl) ?_
    refine lv_bipush (v := 100) hx hb dX_requireTimerNumber_5 (by decide) ?_
    refine lv_icmp_lt (tgt := 20) hx hb dX_requireTimerNumber_7 (by decide) (fun hc2 => absurd hc2 (fun z => hj (tw_vp.mpr ⟨hc1, z⟩))) (fun hc2 => ?_)
    obtain ⟨q9, hq9⟩ := hZ.1 (86, "a TIMER is 0 .. 99") (by decide)
    exact xt_throw (tx := "a TIMER is 0 .. 99") (names := tw_nm) (q0 := q9) (E := tw_iae) hx hb htr hown (by decide +kernel) (by decide +kernel) (hT _ tt_58) (hT _ tt_6) hq9 (tw_ownA hT hZ) (hl.1.trans hml.symm) dX_requireTimerNumber_10 dX_requireTimerNumber_13 dX_requireTimerNumber_14 dX_requireTimerNumber_16 dX_requireTimerNumber_19 (fun x hx9 => hout x hx9 _) (Nat.le_of_ble_eq_true rfl) (Nat.le_of_ble_eq_true rfl) (Nat.le_of_ble_eq_true rfl) (Nat.le_of_ble_eq_true rfl) hlocks (fun t hW hE => ⟨_, rfl, hE⟩)
set_option maxHeartbeats 4000000 in
set_option maxRecDepth 100000 in
theorem cX_set (l : Launch) (dC : Nat → ClassId) (dI : Nat → Nat → Nat) (h0 a0 a1 a2 a3 : Nat) (k0 k1 k2 k3 : ClassId) (th : Nat → Int32) (tm : Nat → Int64) (pr ag : Nat → Int32) (ck : Int64) (nx : Int32) (sz : Nat) (j : Int32) (hj : vp_in j 100) (t : Int64) (ht0 : 0 ≤ t) (ht1 : t ≤ 70368744177664) (q : Int32) : Met l yX_set (Cond.code yX_set bX_set 5 (some .int) :: tw_T) { frames := 2, cells := 0, slots := 0, locals := 80 } (va_Pc [.ref h0, .int j, .long t, .int q] (fun U => U.heap.size = sz ∧ va_P (dC, dI) tw_cl (tw_wX h0 a0 a1 a2 a3 k0 k1 k2 k3 th tm pr ag ck nx) U.heap ∧ va_K (dC, dI) tw_cl (tw_k k0 k1 k2 k3) U ∧ va_D (fun _ => True) (tw_wX h0 a0 a1 a2 a3 k0 k1 k2 k3 th tm pr ag ck nx))) (va_Qi (S := Unit) (fun r _ => r = upd ag j.toNatClampNeg nx j.toNatClampNeg) (fun _ tz => va_P (dC, dI) tw_cl (tw_wX h0 a0 a1 a2 a3 k0 k1 k2 k3 (upd th j.toNatClampNeg (vp_nar .boolean 1)) (vp_updL tm j.toNatClampNeg t) (upd pr j.toNatClampNeg q) (upd ag j.toNatClampNeg nx) ck (nx + 1)) tz.heap ∧ va_D (va_A (tw_wX h0 a0 a1 a2 a3 k0 k1 k2 k3 th tm pr ag ck nx) sz) (tw_wX h0 a0 a1 a2 a3 k0 k1 k2 k3 (upd th j.toNatClampNeg (vp_nar .boolean 1)) (vp_updL tm j.toNatClampNeg t) (upd pr j.toNatClampNeg q) (upd ag j.toNatClampNeg nx) ck (nx + 1))) (va_A (tw_wX h0 a0 a1 a2 a3 k0 k1 k2 k3 th tm pr ag ck nx) sz)) 0 0 (va_A (tw_wX h0 a0 a1 a2 a3 k0 k1 k2 k3 th tm pr ag ck nx) sz) := by
  refine Met.ofW (cc := bX_set) (maxL := 5) (ret := some .int) (by decide) rfl ?_
  intro p e s m args below meth c s₁ B hml hv
  obtain ⟨rfl, hsz, hP, hK, hD0⟩ := hv
  have hx := B.exec
  have hb := B.bytes
  have hr := B.returns
  have hT := fun (w : Cond) (h : w ∈ tw_T) => atoms_spec (ws := Cond.code yX_set bX_set 5 (some .int) :: tw_T) B.pre w (List.mem_cons_of_mem _ h)
  have hown : s.vm.findClass RX = some m.cls := findClass_of_methodNamed B.named
  have hlocks := B.notSynchronized
  have hl := lv_entry ([.ref h0, .int j, .long t, .int q]) (n := 5) (Nat.le_of_ble_eq_true rfl)
  rw [lg_entry_eq]
  generalize (lg_sl ([.ref h0, .int j, .long t, .int q]) ++ List.replicate (5 - (lg_sl ([.ref h0, .int j, .long t, .int q])).length) Slot.unset).toArray = ls at hl ⊢
  have hl : lv_has ls 5 [(0, .ref h0), (1, .int j), (2, .long t), (4, .int q)] := hl
  subst hsz
  have hD := hD0.self (sz := s.heap.size)
  generalize hAe : va_A (tw_wX h0 a0 a1 a2 a3 k0 k1 k2 k3 th tm pr ag ck nx) s.heap.size = A at hD ⊢
  have hS : va_S A s.heap s.heap [] := va_S.rf
  refine lv_iload_n hx hb dX_set_0 rfl (lv_at hl 1 rfl) ?_
  refine va_csv (W.runS (As := [.int j]) (rest := []) ⟨hx, hb, hml, hown, hT⟩ (cX_requireTimerNumber l j hj) (cwS 1 hT (tw_gS tt_55 tt_56 tt_1 tt_57) rfl rfl rfl ⟨rfl, by decide +kernel⟩ ⟨Nat.le_of_ble_eq_true rfl, Nat.le_of_ble_eq_true rfl⟩) ⟨fun a U g mk q => q, fun U hU hW => ⟨rfl, trivial⟩⟩ rfl rfl hl.1 rfl (lv_room (Nat.le_of_ble_eq_true rfl)) dX_set_1 ⟨Nat.le_of_ble_eq_true rfl, Nat.le_of_ble_eq_true rfl⟩) (fun _ => ?_)
  refine lv_lload_n hx hb dX_set_4 rfl (lv_at hl 2 rfl) ?_
  refine lv_lconst (v := 0) hx hb dX_set_5 (by decide) ?_
  refine W.lcmp hx hb dX_set_6 ?_
  refine lv_if_lt (tgt := 18) hx hb dX_set_7 (by decide) (fun hc1 => absurd hc1 (fun z => Int64.not_lt.mpr ht0 ((lg_cmp_lt _ _).mp z))) (fun hc1 => ?_)
  refine lv_lload_n hx hb dX_set_10 rfl (lv_at hl 2 rfl) ?_
  refine lv_ldc2 (v := 70368744177664) hx hb hown (hT _ tt_125) dX_set_11 ?_
  refine W.lcmp hx hb dX_set_14 ?_
  refine lv_if_le (tgt := 28) hx hb dX_set_15 (by decide) (fun hc2 => ?_) (fun hc2 => absurd ((lg_cmp_le _ _).mpr ht1) hc2)
  refine lv_aload_n hx hb dX_set_28 rfl (lv_at hl 0 rfl) ?_
  refine va_get (D := (dC, dI)) (ci := 0) (v := .ref a0) (C := RX) (T := FX) (N := 6) hx hb hT in_X hown hK hP 0 rfl rfl 0 (by decide) (hT _ tt_16) (fun _ h9 => h9) rfl dX_set_29 ?_
  refine lv_iload_n hx hb dX_set_32 rfl (lv_at hl 1 rfl) ?_
  refine lv_iconst (v := 1) hx hb dX_set_33 (by decide) ?_
  refine va_zast hx hb hK hP hD hS 1 0 rfl rfl hj dX_set_34 (fun H locs hP hD hS => ?_)
  have hP : va_P (dC, dI) tw_cl [(h0, .inr (0, [.ref a0, .ref a1, .ref a2, .ref a3, .long ck, .int nx])), (a0, .inl (k0, 100, .inl (upd th j.toNatClampNeg (vp_nar .boolean 1)))), (a1, .inl (k1, 100, .inr (.inl tm))), (a2, .inl (k2, 100, .inl pr)), (a3, .inl (k3, 100, .inl ag))] H := hP
  have hD : va_D A [(h0, .inr (0, [.ref a0, .ref a1, .ref a2, .ref a3, .long ck, .int nx])), (a0, .inl (k0, 100, .inl (upd th j.toNatClampNeg (vp_nar .boolean 1)))), (a1, .inl (k1, 100, .inr (.inl tm))), (a2, .inl (k2, 100, .inl pr)), (a3, .inl (k3, 100, .inl ag))] := hD
  refine lv_aload_n hx hb dX_set_35 rfl (lv_at hl 0 rfl) ?_
  refine va_get (D := (dC, dI)) (ci := 0) (v := .ref a1) (C := RX) (T := FX) (N := 6) hx hb hT in_X hown hK hP 0 rfl rfl 1 (by decide) (hT _ tt_17) (fun _ h9 => h9) rfl dX_set_36 ?_
  refine lv_iload_n hx hb dX_set_39 rfl (lv_at hl 1 rfl) ?_
  refine lv_lload_n hx hb dX_set_40 rfl (lv_at hl 2 rfl) ?_
  refine va_last hx hb hK hP hD hS 2 1 rfl rfl hj dX_set_41 (fun H locs hP hD hS => ?_)
  have hP : va_P (dC, dI) tw_cl [(h0, .inr (0, [.ref a0, .ref a1, .ref a2, .ref a3, .long ck, .int nx])), (a0, .inl (k0, 100, .inl (upd th j.toNatClampNeg (vp_nar .boolean 1)))), (a1, .inl (k1, 100, .inr (.inl (vp_updL tm j.toNatClampNeg t)))), (a2, .inl (k2, 100, .inl pr)), (a3, .inl (k3, 100, .inl ag))] H := hP
  have hD : va_D A [(h0, .inr (0, [.ref a0, .ref a1, .ref a2, .ref a3, .long ck, .int nx])), (a0, .inl (k0, 100, .inl (upd th j.toNatClampNeg (vp_nar .boolean 1)))), (a1, .inl (k1, 100, .inr (.inl (vp_updL tm j.toNatClampNeg t)))), (a2, .inl (k2, 100, .inl pr)), (a3, .inl (k3, 100, .inl ag))] := hD
  refine lv_aload_n hx hb dX_set_42 rfl (lv_at hl 0 rfl) ?_
  refine va_get (D := (dC, dI)) (ci := 0) (v := .ref a2) (C := RX) (T := FX) (N := 6) hx hb hT in_X hown hK hP 0 rfl rfl 2 (by decide) (hT _ tt_18) (fun _ h9 => h9) rfl dX_set_43 ?_
  refine lv_iload_n hx hb dX_set_46 rfl (lv_at hl 1 rfl) ?_
  refine lv_iload hx hb dX_set_47 (lv_at hl 3 rfl) ?_
  refine va_iast hx hb hK hP hD hS 3 2 rfl rfl hj dX_set_49 (fun H locs hP hD hS => ?_)
  have hP : va_P (dC, dI) tw_cl [(h0, .inr (0, [.ref a0, .ref a1, .ref a2, .ref a3, .long ck, .int nx])), (a0, .inl (k0, 100, .inl (upd th j.toNatClampNeg (vp_nar .boolean 1)))), (a1, .inl (k1, 100, .inr (.inl (vp_updL tm j.toNatClampNeg t)))), (a2, .inl (k2, 100, .inl (upd pr j.toNatClampNeg q))), (a3, .inl (k3, 100, .inl ag))] H := hP
  have hD : va_D A [(h0, .inr (0, [.ref a0, .ref a1, .ref a2, .ref a3, .long ck, .int nx])), (a0, .inl (k0, 100, .inl (upd th j.toNatClampNeg (vp_nar .boolean 1)))), (a1, .inl (k1, 100, .inr (.inl (vp_updL tm j.toNatClampNeg t)))), (a2, .inl (k2, 100, .inl (upd pr j.toNatClampNeg q))), (a3, .inl (k3, 100, .inl ag))] := hD
  refine lv_aload_n hx hb dX_set_50 rfl (lv_at hl 0 rfl) ?_
  refine va_get (D := (dC, dI)) (ci := 0) (v := .ref a3) (C := RX) (T := FX) (N := 6) hx hb hT in_X hown hK hP 0 rfl rfl 3 (by decide) (hT _ tt_19) (fun _ h9 => h9) rfl dX_set_51 ?_
  refine lv_iload_n hx hb dX_set_54 rfl (lv_at hl 1 rfl) ?_
  refine lv_aload_n hx hb dX_set_55 rfl (lv_at hl 0 rfl) ?_
  refine va_get (D := (dC, dI)) (ci := 0) (v := .int nx) (C := RX) (T := FX) (N := 6) hx hb hT in_X hown hK hP 0 rfl rfl 5 (by decide) (hT _ tt_21) (fun _ h9 => h9) rfl dX_set_56 ?_
  refine va_iast hx hb hK hP hD hS 4 3 rfl rfl hj dX_set_59 (fun H locs hP hD hS => ?_)
  have hP : va_P (dC, dI) tw_cl [(h0, .inr (0, [.ref a0, .ref a1, .ref a2, .ref a3, .long ck, .int nx])), (a0, .inl (k0, 100, .inl (upd th j.toNatClampNeg (vp_nar .boolean 1)))), (a1, .inl (k1, 100, .inr (.inl (vp_updL tm j.toNatClampNeg t)))), (a2, .inl (k2, 100, .inl (upd pr j.toNatClampNeg q))), (a3, .inl (k3, 100, .inl (upd ag j.toNatClampNeg nx)))] H := hP
  have hD : va_D A [(h0, .inr (0, [.ref a0, .ref a1, .ref a2, .ref a3, .long ck, .int nx])), (a0, .inl (k0, 100, .inl (upd th j.toNatClampNeg (vp_nar .boolean 1)))), (a1, .inl (k1, 100, .inr (.inl (vp_updL tm j.toNatClampNeg t)))), (a2, .inl (k2, 100, .inl (upd pr j.toNatClampNeg q))), (a3, .inl (k3, 100, .inl (upd ag j.toNatClampNeg nx)))] := hD
  refine lv_aload_n hx hb dX_set_60 rfl (lv_at hl 0 rfl) ?_
  refine lv_dup hx hb dX_set_61 rfl ?_
  refine va_get (D := (dC, dI)) (ci := 0) (v := .int nx) (C := RX) (T := FX) (N := 6) hx hb hT in_X hown hK hP 0 rfl rfl 5 (by decide) (hT _ tt_21) (fun _ h9 => h9) rfl dX_set_62 ?_
  refine lv_iconst (v := 1) hx hb dX_set_65 (by decide) ?_
  refine lv_iadd hx hb dX_set_66 ?_
  refine va_put (D := (dC, dI)) (ci := 0) (v := .int (nx + 1)) (ty := .int) (C := RX) (T := FX) (N := 6) hx hb hT in_X TX tX_ok nX_ hown hK hP hD hS 0 rfl rfl 5 (by decide) (hT _ tt_21) (fun _ h9 => h9) rfl (by decide +kernel) rfl rfl (Nat.le_of_ble_eq_true rfl) dX_set_67 (fun H locs hP hD hS => ?_)
  have hP : va_P (dC, dI) tw_cl [(h0, .inr (0, [.ref a0, .ref a1, .ref a2, .ref a3, .long ck, .int (nx + 1)])), (a0, .inl (k0, 100, .inl (upd th j.toNatClampNeg (vp_nar .boolean 1)))), (a1, .inl (k1, 100, .inr (.inl (vp_updL tm j.toNatClampNeg t)))), (a2, .inl (k2, 100, .inl (upd pr j.toNatClampNeg q))), (a3, .inl (k3, 100, .inl (upd ag j.toNatClampNeg nx)))] H := hP
  have hD : va_D A [(h0, .inr (0, [.ref a0, .ref a1, .ref a2, .ref a3, .long ck, .int (nx + 1)])), (a0, .inl (k0, 100, .inl (upd th j.toNatClampNeg (vp_nar .boolean 1)))), (a1, .inl (k1, 100, .inr (.inl (vp_updL tm j.toNatClampNeg t)))), (a2, .inl (k2, 100, .inl (upd pr j.toNatClampNeg q))), (a3, .inl (k3, 100, .inl (upd ag j.toNatClampNeg nx)))] := hD
  refine lv_aload_n hx hb dX_set_70 rfl (lv_at hl 0 rfl) ?_
  refine va_get (D := (dC, dI)) (ci := 0) (v := .ref a3) (C := RX) (T := FX) (N := 6) hx hb hT in_X hown hK hP 0 rfl rfl 3 (by decide) (hT _ tt_19) (fun _ h9 => h9) rfl dX_set_71 ?_
  refine lv_iload_n hx hb dX_set_74 rfl (lv_at hl 1 rfl) ?_
  refine va_iald hx hb hK hP 4 3 rfl rfl hj dX_set_75 ?_
  exact W.iret hx hb hr (fun t ht hW => ⟨⟨_, (), rfl, rfl, by rw [ht]; exact hP, hD⟩, hS.F ht⟩) hS.2.2 dX_set_76
set_option maxHeartbeats 4000000 in
set_option maxRecDepth 100000 in
theorem eX_set (l : Launch) (hfl : l.flags = pinnedFlags ++ [noTraceFlag]) (dC : Nat → ClassId) (dI : Nat → Nat → Nat) (h0 a0 a1 a2 a3 : Nat) (k0 k1 k2 k3 : ClassId) (th : Nat → Int32) (tm : Nat → Int64) (pr ag : Nat → Int32) (ck : Int64) (nx : Int32) (j : Int32) (t : Int64) (q : Int32) (hbad : ¬ (vp_in j 100 ∧ 0 ≤ t ∧ t ≤ 70368744177664)) : xt_Met l yX_set (Cond.code yX_set bX_set 5 (some .int) :: tw_T) { frames := 7, cells := 1, slots := 6, locals := 120 } (va_Pc [.ref h0, .int j, .long t, .int q] (fun U => tw_PX dC dI h0 a0 a1 a2 a3 k0 k1 k2 k3 th tm pr ag ck nx U ∧ tw_Z U U.heap)) (tw_thr tw_iae) 1 6 (fun _ => False) := by
  refine xt_ofW (cc := bX_set) (maxL := 5) (ret := some .int) (by decide) rfl ?_
  intro p e s m args below meth c s₁ B hml hout hadm hv
  obtain ⟨rfl, ⟨hP, hK⟩, hZ⟩ := hv
  have hx := B.exec
  have hb := B.bytes
  have hr := B.returns
  have hT := fun (w : Cond) (h : w ∈ tw_T) => atoms_spec (ws := Cond.code yX_set bX_set 5 (some .int) :: tw_T) B.pre w (List.mem_cons_of_mem _ h)
  have hown : s.vm.findClass RX = some m.cls := findClass_of_methodNamed B.named
  have hlocks := B.notSynchronized
  have hl := lv_entry ([.ref h0, .int j, .long t, .int q]) (n := 5) (Nat.le_of_ble_eq_true rfl)
  rw [lg_entry_eq]
  generalize (lg_sl ([.ref h0, .int j, .long t, .int q]) ++ List.replicate (5 - (lg_sl ([.ref h0, .int j, .long t, .int q])).length) Slot.unset).toArray = ls at hl ⊢
  have hl : lv_has ls 5 [(0, .ref h0), (1, .int j), (2, .long t), (4, .int q)] := hl
  have htr := Launch.traces_off hfl hadm
  by_cases hj : vp_in j 100
  · -- a TIMER
    refine lv_iload_n hx hb dX_set_0 rfl (lv_at hl 1 rfl) ?_
    refine va_csv (W.runS (As := [.int j]) (rest := []) ⟨hx, hb, hml, hown, hT⟩ (cX_requireTimerNumber l j hj) (cwS 1 hT (tw_gS tt_55 tt_56 tt_1 tt_57) rfl rfl rfl ⟨rfl, by decide +kernel⟩ ⟨Nat.le_of_ble_eq_true rfl, Nat.le_of_ble_eq_true rfl⟩) ⟨fun a U g mk q => q, fun U hU hW => ⟨rfl, trivial⟩⟩ rfl rfl hl.1 rfl (lv_room (Nat.le_of_ble_eq_true rfl)) dX_set_1 ⟨Nat.le_of_ble_eq_true rfl, Nat.le_of_ble_eq_true rfl⟩) (fun _ => ?_)
    refine lv_lload_n hx hb dX_set_4 rfl (lv_at hl 2 rfl) ?_
    refine lv_lconst (v := 0) hx hb dX_set_5 (by decide) ?_
    refine W.lcmp hx hb dX_set_6 ?_
    refine lv_if_lt (tgt := 18) hx hb dX_set_7 (by decide) (fun hc1 => ?_) (fun hc1 => ?_)
    · -- taken at 7: lg_cmp t 0 < 0
      obtain ⟨q9, hq9⟩ := hZ.1 (40, "a TIME is 0 .. 2^46") (by decide)
      exact xt_throw (tx := "a TIME is 0 .. 2^46") (names := tw_nm) (q0 := q9) (E := tw_iae) hx hb htr hown (by decide +kernel) (by decide +kernel) (hT _ tt_58) (hT _ tt_6) hq9 (tw_ownA hT hZ) (hl.1.trans hml.symm) dX_set_18 dX_set_21 dX_set_22 dX_set_24 dX_set_27 (fun x hx9 => hout x hx9 _) (Nat.le_of_ble_eq_true rfl) (Nat.le_of_ble_eq_true rfl) (Nat.le_of_ble_eq_true rfl) (Nat.le_of_ble_eq_true rfl) hlocks (fun t hW hE => ⟨_, rfl, hE⟩)
    · -- not taken at 7: lg_cmp t 0 < 0
      refine lv_lload_n hx hb dX_set_10 rfl (lv_at hl 2 rfl) ?_
      refine lv_ldc2 (v := 70368744177664) hx hb hown (hT _ tt_125) dX_set_11 ?_
      refine W.lcmp hx hb dX_set_14 ?_
      refine lv_if_le (tgt := 28) hx hb dX_set_15 (by decide) (fun hc2 => absurd hc2 (fun z => hbad ⟨hj, (lg_cmp_ge _ _).mp (Int32.not_lt.mp hc1), (lg_cmp_le _ _).mp z⟩)) (fun hc2 => ?_)
      obtain ⟨q9, hq9⟩ := hZ.1 (40, "a TIME is 0 .. 2^46") (by decide)
      exact xt_throw (tx := "a TIME is 0 .. 2^46") (names := tw_nm) (q0 := q9) (E := tw_iae) hx hb htr hown (by decide +kernel) (by decide +kernel) (hT _ tt_58) (hT _ tt_6) hq9 (tw_ownA hT hZ) (hl.1.trans hml.symm) dX_set_18 dX_set_21 dX_set_22 dX_set_24 dX_set_27 (fun x hx9 => hout x hx9 _) (Nat.le_of_ble_eq_true rfl) (Nat.le_of_ble_eq_true rfl) (Nat.le_of_ble_eq_true rfl) (Nat.le_of_ble_eq_true rfl) hlocks (fun t hW hE => ⟨_, rfl, hE⟩)
  · -- no TIMER
    refine lv_iload_n hx hb dX_set_0 rfl (lv_at hl 1 rfl) ?_
    refine xt_call (xt_runS (As := [.int j]) (rest := []) ⟨hx, hb, hml, hown, hT⟩ (eX_requireTimerNumber l hfl j hj) (cwS 1 hT (tw_gS tt_55 tt_56 tt_1 tt_57) rfl rfl rfl ⟨rfl, by decide +kernel⟩ ⟨Nat.le_of_ble_eq_true rfl, Nat.le_of_ble_eq_true rfl⟩) ⟨fun a U g mk q => ⟨q.1, q.2.call⟩, fun U hU hW => ⟨rfl, hZ.at hU hW⟩⟩ rfl rfl hl.1 rfl (lv_room (Nat.le_of_ble_eq_true rfl)) dX_set_1 ⟨Nat.le_of_ble_eq_true rfl, Nat.le_of_ble_eq_true rfl⟩) (fun v st₀ t H1 L _ _ _ _ _ hq => ?_) (fun q st₀ t H1 L e1 e2 e3 e4 hL hq => ?_)
    · obtain ⟨q2, hq1, -⟩ := hq
      cases hq1
    · obtain ⟨q2, hq1, hE⟩ := hq
      cases hq1
      exact xt_out (fun x hx9 => hout x hx9 _) hlocks (fun t2 ht2 hW => ⟨_, rfl, hE.of e2 e1 (ht2.trans e3.symm)⟩) (fun z hz => hL z (by simpa using hz)) (Nat.le_refl _) (Nat.le_refl _)
set_option maxHeartbeats 4000000 in
set_option maxRecDepth 100000 in
theorem cX_drop (l : Launch) (dC : Nat → ClassId) (dI : Nat → Nat → Nat) (h0 a0 a1 a2 a3 : Nat) (k0 k1 k2 k3 : ClassId) (th : Nat → Int32) (tm : Nat → Int64) (pr ag : Nat → Int32) (ck : Int64) (nx : Int32) (sz : Nat) (j : Int32) (hj : vp_in j 100) (ht : ¬ th j.toNatClampNeg = 0) : Met l yX_drop (Cond.code yX_drop bX_drop 2 (some .long) :: tw_T) { frames := 2, cells := 0, slots := 0, locals := 80 } (va_Pc [.ref h0, .int j] (fun U => U.heap.size = sz ∧ va_P (dC, dI) tw_cl (tw_wX h0 a0 a1 a2 a3 k0 k1 k2 k3 th tm pr ag ck nx) U.heap ∧ va_K (dC, dI) tw_cl (tw_k k0 k1 k2 k3) U ∧ va_D (fun _ => True) (tw_wX h0 a0 a1 a2 a3 k0 k1 k2 k3 th tm pr ag ck nx))) (va_Ql (S := Unit) (fun r _ => r = tm j.toNatClampNeg) (fun _ tz => va_P (dC, dI) tw_cl (tw_wX h0 a0 a1 a2 a3 k0 k1 k2 k3 (upd th j.toNatClampNeg (vp_nar .boolean 0)) tm pr ag ck nx) tz.heap ∧ va_D (va_A (tw_wX h0 a0 a1 a2 a3 k0 k1 k2 k3 th tm pr ag ck nx) sz) (tw_wX h0 a0 a1 a2 a3 k0 k1 k2 k3 (upd th j.toNatClampNeg (vp_nar .boolean 0)) tm pr ag ck nx)) (va_A (tw_wX h0 a0 a1 a2 a3 k0 k1 k2 k3 th tm pr ag ck nx) sz)) 0 0 (va_A (tw_wX h0 a0 a1 a2 a3 k0 k1 k2 k3 th tm pr ag ck nx) sz) := by
  refine Met.ofW (cc := bX_drop) (maxL := 2) (ret := some .long) (by decide) rfl ?_
  intro p e s m args below meth c s₁ B hml hv
  obtain ⟨rfl, hsz, hP, hK, hD0⟩ := hv
  have hx := B.exec
  have hb := B.bytes
  have hr := B.returns
  have hT := fun (w : Cond) (h : w ∈ tw_T) => atoms_spec (ws := Cond.code yX_drop bX_drop 2 (some .long) :: tw_T) B.pre w (List.mem_cons_of_mem _ h)
  have hown : s.vm.findClass RX = some m.cls := findClass_of_methodNamed B.named
  have hlocks := B.notSynchronized
  have hl := lv_entry ([.ref h0, .int j]) (n := 2) (Nat.le_of_ble_eq_true rfl)
  rw [lg_entry_eq]
  generalize (lg_sl ([.ref h0, .int j]) ++ List.replicate (2 - (lg_sl ([.ref h0, .int j])).length) Slot.unset).toArray = ls at hl ⊢
  have hl : lv_has ls 2 [(0, .ref h0), (1, .int j)] := hl
  subst hsz
  have hD := hD0.self (sz := s.heap.size)
  generalize hAe : va_A (tw_wX h0 a0 a1 a2 a3 k0 k1 k2 k3 th tm pr ag ck nx) s.heap.size = A at hD ⊢
  have hS : va_S A s.heap s.heap [] := va_S.rf
  refine lv_iload_n hx hb dX_drop_0 rfl (lv_at hl 1 rfl) ?_
  refine va_csv (W.runS (As := [.int j]) (rest := []) ⟨hx, hb, hml, hown, hT⟩ (cX_requireTimerNumber l j hj) (cwS 1 hT (tw_gS tt_55 tt_56 tt_1 tt_57) rfl rfl rfl ⟨rfl, by decide +kernel⟩ ⟨Nat.le_of_ble_eq_true rfl, Nat.le_of_ble_eq_true rfl⟩) ⟨fun a U g mk q => q, fun U hU hW => ⟨rfl, trivial⟩⟩ rfl rfl hl.1 rfl (lv_room (Nat.le_of_ble_eq_true rfl)) dX_drop_1 ⟨Nat.le_of_ble_eq_true rfl, Nat.le_of_ble_eq_true rfl⟩) (fun _ => ?_)
  refine lv_aload_n hx hb dX_drop_4 rfl (lv_at hl 0 rfl) ?_
  refine va_get (D := (dC, dI)) (ci := 0) (v := .ref a0) (C := RX) (T := FX) (N := 6) hx hb hT in_X hown hK hP 0 rfl rfl 0 (by decide) (hT _ tt_16) (fun _ h9 => h9) rfl dX_drop_5 ?_
  refine lv_iload_n hx hb dX_drop_8 rfl (lv_at hl 1 rfl) ?_
  refine va_zald hx hb hK hP 1 0 rfl rfl hj dX_drop_9 ?_
  refine lv_if_ne (tgt := 23) hx hb dX_drop_10 (by decide) (fun hc1 => ?_) (fun hc1 => absurd hc1 ht)
  refine lv_aload_n hx hb dX_drop_23 rfl (lv_at hl 0 rfl) ?_
  refine va_get (D := (dC, dI)) (ci := 0) (v := .ref a0) (C := RX) (T := FX) (N := 6) hx hb hT in_X hown hK hP 0 rfl rfl 0 (by decide) (hT _ tt_16) (fun _ h9 => h9) rfl dX_drop_24 ?_
  refine lv_iload_n hx hb dX_drop_27 rfl (lv_at hl 1 rfl) ?_
  refine lv_iconst (v := 0) hx hb dX_drop_28 (by decide) ?_
  refine va_zast hx hb hK hP hD hS 1 0 rfl rfl hj dX_drop_29 (fun H locs hP hD hS => ?_)
  have hP : va_P (dC, dI) tw_cl [(h0, .inr (0, [.ref a0, .ref a1, .ref a2, .ref a3, .long ck, .int nx])), (a0, .inl (k0, 100, .inl (upd th j.toNatClampNeg (vp_nar .boolean 0)))), (a1, .inl (k1, 100, .inr (.inl tm))), (a2, .inl (k2, 100, .inl pr)), (a3, .inl (k3, 100, .inl ag))] H := hP
  have hD : va_D A [(h0, .inr (0, [.ref a0, .ref a1, .ref a2, .ref a3, .long ck, .int nx])), (a0, .inl (k0, 100, .inl (upd th j.toNatClampNeg (vp_nar .boolean 0)))), (a1, .inl (k1, 100, .inr (.inl tm))), (a2, .inl (k2, 100, .inl pr)), (a3, .inl (k3, 100, .inl ag))] := hD
  refine lv_aload_n hx hb dX_drop_30 rfl (lv_at hl 0 rfl) ?_
  refine va_get (D := (dC, dI)) (ci := 0) (v := .ref a1) (C := RX) (T := FX) (N := 6) hx hb hT in_X hown hK hP 0 rfl rfl 1 (by decide) (hT _ tt_17) (fun _ h9 => h9) rfl dX_drop_31 ?_
  refine lv_iload_n hx hb dX_drop_34 rfl (lv_at hl 1 rfl) ?_
  refine va_lald hx hb hK hP 2 1 rfl rfl hj dX_drop_35 ?_
  exact W.lret hx hb hr (fun t ht hW => ⟨⟨_, (), rfl, rfl, by rw [ht]; exact hP, hD⟩, hS.F ht⟩) hS.2.2 dX_drop_36
set_option maxHeartbeats 4000000 in
set_option maxRecDepth 100000 in
theorem eX_dropA (l : Launch) (hfl : l.flags = pinnedFlags ++ [noTraceFlag]) (dC : Nat → ClassId) (dI : Nat → Nat → Nat) (h0 a0 a1 a2 a3 : Nat) (k0 k1 k2 k3 : ClassId) (th : Nat → Int32) (tm : Nat → Int64) (pr ag : Nat → Int32) (ck : Int64) (nx : Int32) (j : Int32) (hj : ¬ vp_in j 100) : xt_Met l yX_drop (Cond.code yX_drop bX_drop 2 (some .long) :: tw_T) { frames := 7, cells := 1, slots := 6, locals := 120 } (va_Pc [.ref h0, .int j] (fun U => tw_PX dC dI h0 a0 a1 a2 a3 k0 k1 k2 k3 th tm pr ag ck nx U ∧ tw_Z U U.heap)) (tw_thr tw_iae) 1 6 (fun _ => False) := by
  refine xt_ofW (cc := bX_drop) (maxL := 2) (ret := some .long) (by decide) rfl ?_
  intro p e s m args below meth c s₁ B hml hout hadm hv
  obtain ⟨rfl, ⟨hP, hK⟩, hZ⟩ := hv
  have hx := B.exec
  have hb := B.bytes
  have hr := B.returns
  have hT := fun (w : Cond) (h : w ∈ tw_T) => atoms_spec (ws := Cond.code yX_drop bX_drop 2 (some .long) :: tw_T) B.pre w (List.mem_cons_of_mem _ h)
  have hown : s.vm.findClass RX = some m.cls := findClass_of_methodNamed B.named
  have hlocks := B.notSynchronized
  have hl := lv_entry ([.ref h0, .int j]) (n := 2) (Nat.le_of_ble_eq_true rfl)
  rw [lg_entry_eq]
  generalize (lg_sl ([.ref h0, .int j]) ++ List.replicate (2 - (lg_sl ([.ref h0, .int j])).length) Slot.unset).toArray = ls at hl ⊢
  have hl : lv_has ls 2 [(0, .ref h0), (1, .int j)] := hl
  have htr := Launch.traces_off hfl hadm
  refine lv_iload_n hx hb dX_drop_0 rfl (lv_at hl 1 rfl) ?_
  refine xt_call (xt_runS (As := [.int j]) (rest := []) ⟨hx, hb, hml, hown, hT⟩ (eX_requireTimerNumber l hfl j hj) (cwS 1 hT (tw_gS tt_55 tt_56 tt_1 tt_57) rfl rfl rfl ⟨rfl, by decide +kernel⟩ ⟨Nat.le_of_ble_eq_true rfl, Nat.le_of_ble_eq_true rfl⟩) ⟨fun a U g mk q => ⟨q.1, q.2.call⟩, fun U hU hW => ⟨rfl, hZ.at hU hW⟩⟩ rfl rfl hl.1 rfl (lv_room (Nat.le_of_ble_eq_true rfl)) dX_drop_1 ⟨Nat.le_of_ble_eq_true rfl, Nat.le_of_ble_eq_true rfl⟩) (fun v st₀ t H1 L _ _ _ _ _ hq => ?_) (fun q st₀ t H1 L e1 e2 e3 e4 hL hq => ?_)
  · obtain ⟨q2, hq1, -⟩ := hq
    cases hq1
  · obtain ⟨q2, hq1, hE⟩ := hq
    cases hq1
    exact xt_out (fun x hx9 => hout x hx9 _) hlocks (fun t2 ht2 hW => ⟨_, rfl, hE.of e2 e1 (ht2.trans e3.symm)⟩) (fun z hz => hL z (by simpa using hz)) (Nat.le_refl _) (Nat.le_refl _)
set_option maxHeartbeats 4000000 in
set_option maxRecDepth 100000 in
theorem eX_dropN (l : Launch) (hfl : l.flags = pinnedFlags ++ [noTraceFlag]) (dC : Nat → ClassId) (dI : Nat → Nat → Nat) (h0 a0 a1 a2 a3 : Nat) (k0 k1 k2 k3 : ClassId) (th : Nat → Int32) (tm : Nat → Int64) (pr ag : Nat → Int32) (ck : Int64) (nx : Int32) (j : Int32) (hj : vp_in j 100) (ht : th j.toNatClampNeg = 0) : xt_Met l yX_drop (Cond.code yX_drop bX_drop 2 (some .long) :: tw_T) { frames := 7, cells := 1, slots := 6, locals := 120 } (va_Pc [.ref h0, .int j] (fun U => tw_PX dC dI h0 a0 a1 a2 a3 k0 k1 k2 k3 th tm pr ag ck nx U ∧ tw_Z U U.heap)) (tw_thr tw_nse) 1 6 (fun _ => False) := by
  refine xt_ofW (cc := bX_drop) (maxL := 2) (ret := some .long) (by decide) rfl ?_
  intro p e s m args below meth c s₁ B hml hout hadm hv
  obtain ⟨rfl, ⟨hP, hK⟩, hZ⟩ := hv
  have hx := B.exec
  have hb := B.bytes
  have hr := B.returns
  have hT := fun (w : Cond) (h : w ∈ tw_T) => atoms_spec (ws := Cond.code yX_drop bX_drop 2 (some .long) :: tw_T) B.pre w (List.mem_cons_of_mem _ h)
  have hown : s.vm.findClass RX = some m.cls := findClass_of_methodNamed B.named
  have hlocks := B.notSynchronized
  have hl := lv_entry ([.ref h0, .int j]) (n := 2) (Nat.le_of_ble_eq_true rfl)
  rw [lg_entry_eq]
  generalize (lg_sl ([.ref h0, .int j]) ++ List.replicate (2 - (lg_sl ([.ref h0, .int j])).length) Slot.unset).toArray = ls at hl ⊢
  have hl : lv_has ls 2 [(0, .ref h0), (1, .int j)] := hl
  have htr := Launch.traces_off hfl hadm
  refine lv_iload_n hx hb dX_drop_0 rfl (lv_at hl 1 rfl) ?_
  refine va_csv (W.runS (As := [.int j]) (rest := []) ⟨hx, hb, hml, hown, hT⟩ (cX_requireTimerNumber l j hj) (cwS 1 hT (tw_gS tt_55 tt_56 tt_1 tt_57) rfl rfl rfl ⟨rfl, by decide +kernel⟩ ⟨Nat.le_of_ble_eq_true rfl, Nat.le_of_ble_eq_true rfl⟩) ⟨fun a U g mk q => q, fun U hU hW => ⟨rfl, trivial⟩⟩ rfl rfl hl.1 rfl (lv_room (Nat.le_of_ble_eq_true rfl)) dX_drop_1 ⟨Nat.le_of_ble_eq_true rfl, Nat.le_of_ble_eq_true rfl⟩) (fun _ => ?_)
  refine lv_aload_n hx hb dX_drop_4 rfl (lv_at hl 0 rfl) ?_
  refine va_get (D := (dC, dI)) (ci := 0) (v := .ref a0) (C := RX) (T := FX) (N := 6) hx hb hT in_X hown hK hP 0 rfl rfl 0 (by decide) (hT _ tt_16) (fun _ h9 => h9) rfl dX_drop_5 ?_
  refine lv_iload_n hx hb dX_drop_8 rfl (lv_at hl 1 rfl) ?_
  refine va_zald hx hb hK hP 1 0 rfl rfl hj dX_drop_9 ?_
  refine lv_if_ne (tgt := 23) hx hb dX_drop_10 (by decide) (fun hc1 => absurd ht hc1) (fun hc1 => ?_)
  obtain ⟨q9, hq9⟩ := hZ.1 (47, "there is no such TIMER") (by decide)
  exact xt_throwN (tx := "there is no such TIMER") (names := ["java/lang/Exception"]) (Y := "java/lang/RuntimeException") (q0 := q9) (E := tw_nse) hx hb htr tw_x0 tw_x1 tw_x2 tw_x5 hown (by decide +kernel) (by decide +kernel) (by decide +kernel) (hT _ tt_145) (hT _ tt_135) (hT _ tt_7) hq9 (tw_ownN hT hZ) (hl.1.trans hml.symm) dX_drop_13 dX_drop_16 dX_drop_17 dX_drop_19 dX_drop_22 (fun x hx9 => hout x hx9 _) (Nat.le_of_ble_eq_true rfl) (Nat.le_of_ble_eq_true rfl) (Nat.le_of_ble_eq_true rfl) (Nat.le_of_ble_eq_true rfl) hlocks (fun t hW hE => ⟨_, rfl, hE⟩)
set_option maxHeartbeats 4000000 in
set_option maxRecDepth 100000 in
theorem cX_take (l : Launch) (dC : Nat → ClassId) (dI : Nat → Nat → Nat) (h0 a0 a1 a2 a3 : Nat) (k0 k1 k2 k3 : ClassId) (th : Nat → Int32) (tm : Nat → Int64) (pr ag : Nat → Int32) (ck : Int64) (nx : Int32) (sz : Nat) (hf : ¬ tw_first th tm pr ag ck 100 = -1) : Met l yX_take (Cond.code yX_take bX_take 2 (some .int) :: tw_T) { frames := 2, cells := 0, slots := 0, locals := 80 } (va_Pc [.ref h0] (fun U => U.heap.size = sz ∧ va_P (dC, dI) tw_cl (tw_wX h0 a0 a1 a2 a3 k0 k1 k2 k3 th tm pr ag ck nx) U.heap ∧ va_K (dC, dI) tw_cl (tw_k k0 k1 k2 k3) U ∧ va_D (fun _ => True) (tw_wX h0 a0 a1 a2 a3 k0 k1 k2 k3 th tm pr ag ck nx))) (va_Qi (S := Unit) (fun r _ => r = tw_first th tm pr ag ck 100) (fun _ tz => va_P (dC, dI) tw_cl (tw_wX h0 a0 a1 a2 a3 k0 k1 k2 k3 (upd th (tw_first th tm pr ag ck 100).toNatClampNeg (vp_nar .boolean 0)) tm pr ag ck nx) tz.heap ∧ va_D (va_A (tw_wX h0 a0 a1 a2 a3 k0 k1 k2 k3 th tm pr ag ck nx) sz) (tw_wX h0 a0 a1 a2 a3 k0 k1 k2 k3 (upd th (tw_first th tm pr ag ck 100).toNatClampNeg (vp_nar .boolean 0)) tm pr ag ck nx)) (va_A (tw_wX h0 a0 a1 a2 a3 k0 k1 k2 k3 th tm pr ag ck nx) sz)) 0 0 (va_A (tw_wX h0 a0 a1 a2 a3 k0 k1 k2 k3 th tm pr ag ck nx) sz) := by
  refine Met.ofW (cc := bX_take) (maxL := 2) (ret := some .int) (by decide) rfl ?_
  intro p e s m args below meth c s₁ B hml hv
  obtain ⟨rfl, hsz, hP, hK, hD0⟩ := hv
  have hx := B.exec
  have hb := B.bytes
  have hr := B.returns
  have hT := fun (w : Cond) (h : w ∈ tw_T) => atoms_spec (ws := Cond.code yX_take bX_take 2 (some .int) :: tw_T) B.pre w (List.mem_cons_of_mem _ h)
  have hown : s.vm.findClass RX = some m.cls := findClass_of_methodNamed B.named
  have hlocks := B.notSynchronized
  have hl := lv_entry ([.ref h0]) (n := 2) (Nat.le_of_ble_eq_true rfl)
  rw [lg_entry_eq]
  generalize (lg_sl ([.ref h0]) ++ List.replicate (2 - (lg_sl ([.ref h0])).length) Slot.unset).toArray = ls at hl ⊢
  have hl : lv_has ls 2 [(0, .ref h0)] := hl
  subst hsz
  have hD := hD0.self (sz := s.heap.size)
  generalize hAe : va_A (tw_wX h0 a0 a1 a2 a3 k0 k1 k2 k3 th tm pr ag ck nx) s.heap.size = A at hD ⊢
  have hS : va_S A s.heap s.heap [] := va_S.rf
  refine lv_aload_n hx hb dX_take_0 rfl (lv_at hl 0 rfl) ?_
  refine vp_callSi (W.runV (C := RX) (b := h0) (As := []) (rest := []) ⟨hx, hb, hml, hown, hT⟩ (cX_firstDue l dC dI h0 a0 a1 a2 a3 k0 k1 k2 k3 th tm pr ag ck nx) (cwV 0 hT (tw_gV tt_158 tt_160 tp_X_firstDue tt_1 tt_161) rfl rfl rfl ⟨rfl, by decide +kernel⟩ ⟨Nat.le_of_ble_eq_true rfl, Nat.le_of_ble_eq_true rfl⟩) ⟨fun a U g mk q => ⟨q.1, q.2.1, va_K.moved (u := U) (U := U.calling g mk a) (Vm.Alike.refl U.vm) q.2.2⟩, va_recv (q0 := 0) (ci := 0) hK hP rfl rfl, fun U hU hW => ⟨rfl, by rw [hU]; exact hP, va_K.moved hW.alike hK⟩⟩ rfl rfl hl.1 rfl (lv_room (Nat.le_of_ble_eq_true rfl)) dX_take_1 ⟨Nat.le_of_ble_eq_true rfl, Nat.le_of_ble_eq_true rfl⟩) (fun r1 h1 => ?_)
  subst h1
  refine lv_istore_n hx hb dX_take_4 rfl hl (by decide) rfl (fun ls hl => ?_)
  have hl : lv_has ls 2 [(1, .int (tw_first th tm pr ag ck 100)), (0, .ref h0)] := hl
  refine lv_iload_n hx hb dX_take_5 rfl (lv_at hl 0 rfl) ?_
  refine lv_iconst (v := -1) hx hb dX_take_6 (by decide) ?_
  refine lv_icmp_ne (tgt := 20) hx hb dX_take_7 (by decide) (fun hc1 => ?_) (fun hc1 => absurd hc1 hf)
  refine lv_aload_n hx hb dX_take_20 rfl (lv_at hl 1 rfl) ?_
  refine va_get (D := (dC, dI)) (ci := 0) (v := .ref a0) (C := RX) (T := FX) (N := 6) hx hb hT in_X hown hK hP 0 rfl rfl 0 (by decide) (hT _ tt_16) (fun _ h9 => h9) rfl dX_take_21 ?_
  refine lv_iload_n hx hb dX_take_24 rfl (lv_at hl 0 rfl) ?_
  refine lv_iconst (v := 0) hx hb dX_take_25 (by decide) ?_
  refine va_zast hx hb hK hP hD hS 1 0 rfl rfl (tw_first_vp (Nat.le_refl _) hf) dX_take_26 (fun H locs hP hD hS => ?_)
  have hP : va_P (dC, dI) tw_cl [(h0, .inr (0, [.ref a0, .ref a1, .ref a2, .ref a3, .long ck, .int nx])), (a0, .inl (k0, 100, .inl (upd th (tw_first th tm pr ag ck 100).toNatClampNeg (vp_nar .boolean 0)))), (a1, .inl (k1, 100, .inr (.inl tm))), (a2, .inl (k2, 100, .inl pr)), (a3, .inl (k3, 100, .inl ag))] H := hP
  have hD : va_D A [(h0, .inr (0, [.ref a0, .ref a1, .ref a2, .ref a3, .long ck, .int nx])), (a0, .inl (k0, 100, .inl (upd th (tw_first th tm pr ag ck 100).toNatClampNeg (vp_nar .boolean 0)))), (a1, .inl (k1, 100, .inr (.inl tm))), (a2, .inl (k2, 100, .inl pr)), (a3, .inl (k3, 100, .inl ag))] := hD
  refine lv_iload_n hx hb dX_take_27 rfl (lv_at hl 0 rfl) ?_
  exact W.iret hx hb hr (fun t ht hW => ⟨⟨_, (), rfl, rfl, by rw [ht]; exact hP, hD⟩, hS.F ht⟩) hS.2.2 dX_take_28
set_option maxHeartbeats 4000000 in
set_option maxRecDepth 100000 in
theorem eX_take (l : Launch) (hfl : l.flags = pinnedFlags ++ [noTraceFlag]) (dC : Nat → ClassId) (dI : Nat → Nat → Nat) (h0 a0 a1 a2 a3 : Nat) (k0 k1 k2 k3 : ClassId) (th : Nat → Int32) (tm : Nat → Int64) (pr ag : Nat → Int32) (ck : Int64) (nx : Int32) (hf : tw_first th tm pr ag ck 100 = -1) : xt_Met l yX_take (Cond.code yX_take bX_take 2 (some .int) :: tw_T) { frames := 7, cells := 1, slots := 6, locals := 120 } (va_Pc [.ref h0] (fun U => tw_PX dC dI h0 a0 a1 a2 a3 k0 k1 k2 k3 th tm pr ag ck nx U ∧ tw_Z U U.heap)) (tw_thr tw_nse) 1 6 (fun _ => False) := by
  refine xt_ofW (cc := bX_take) (maxL := 2) (ret := some .int) (by decide) rfl ?_
  intro p e s m args below meth c s₁ B hml hout hadm hv
  obtain ⟨rfl, ⟨hP, hK⟩, hZ⟩ := hv
  have hx := B.exec
  have hb := B.bytes
  have hr := B.returns
  have hT := fun (w : Cond) (h : w ∈ tw_T) => atoms_spec (ws := Cond.code yX_take bX_take 2 (some .int) :: tw_T) B.pre w (List.mem_cons_of_mem _ h)
  have hown : s.vm.findClass RX = some m.cls := findClass_of_methodNamed B.named
  have hlocks := B.notSynchronized
  have hl := lv_entry ([.ref h0]) (n := 2) (Nat.le_of_ble_eq_true rfl)
  rw [lg_entry_eq]
  generalize (lg_sl ([.ref h0]) ++ List.replicate (2 - (lg_sl ([.ref h0])).length) Slot.unset).toArray = ls at hl ⊢
  have hl : lv_has ls 2 [(0, .ref h0)] := hl
  have htr := Launch.traces_off hfl hadm
  refine lv_aload_n hx hb dX_take_0 rfl (lv_at hl 0 rfl) ?_
  refine vp_callSi (W.runV (C := RX) (b := h0) (As := []) (rest := []) ⟨hx, hb, hml, hown, hT⟩ (cX_firstDue l dC dI h0 a0 a1 a2 a3 k0 k1 k2 k3 th tm pr ag ck nx) (cwV 0 hT (tw_gV tt_158 tt_160 tp_X_firstDue tt_1 tt_161) rfl rfl rfl ⟨rfl, by decide +kernel⟩ ⟨Nat.le_of_ble_eq_true rfl, Nat.le_of_ble_eq_true rfl⟩) ⟨fun a U g mk q => ⟨q.1, q.2.1, va_K.moved (u := U) (U := U.calling g mk a) (Vm.Alike.refl U.vm) q.2.2⟩, va_recv (q0 := 0) (ci := 0) hK hP rfl rfl, fun U hU hW => ⟨rfl, by rw [hU]; exact hP, va_K.moved hW.alike hK⟩⟩ rfl rfl hl.1 rfl (lv_room (Nat.le_of_ble_eq_true rfl)) dX_take_1 ⟨Nat.le_of_ble_eq_true rfl, Nat.le_of_ble_eq_true rfl⟩) (fun r1 h1 => ?_)
  subst h1
  refine lv_istore_n hx hb dX_take_4 rfl hl (by decide) rfl (fun ls hl => ?_)
  have hl : lv_has ls 2 [(1, .int (tw_first th tm pr ag ck 100)), (0, .ref h0)] := hl
  refine lv_iload_n hx hb dX_take_5 rfl (lv_at hl 0 rfl) ?_
  refine lv_iconst (v := -1) hx hb dX_take_6 (by decide) ?_
  refine lv_icmp_ne (tgt := 20) hx hb dX_take_7 (by decide) (fun hc1 => absurd hf hc1) (fun hc1 => ?_)
  obtain ⟨q9, hq9⟩ := hZ.1 (54, "no TIMER is DUE") (by decide)
  exact xt_throwN (tx := "no TIMER is DUE") (names := ["java/lang/Exception"]) (Y := "java/lang/RuntimeException") (q0 := q9) (E := tw_nse) hx hb htr tw_x0 tw_x1 tw_x2 tw_x5 hown (by decide +kernel) (by decide +kernel) (by decide +kernel) (hT _ tt_145) (hT _ tt_135) (hT _ tt_7) hq9 (tw_ownN hT hZ) (hl.1.trans hml.symm) dX_take_10 dX_take_13 dX_take_14 dX_take_16 dX_take_19 (fun x hx9 => hout x hx9 _) (Nat.le_of_ble_eq_true rfl) (Nat.le_of_ble_eq_true rfl) (Nat.le_of_ble_eq_true rfl) (Nat.le_of_ble_eq_true rfl) hlocks (fun t hW hE => ⟨_, rfl, hE⟩)
set_option maxHeartbeats 4000000 in
set_option maxRecDepth 100000 in
theorem cX_go (l : Launch) (dC : Nat → ClassId) (dI : Nat → Nat → Nat) (h0 a0 a1 a2 a3 : Nat) (k0 k1 k2 k3 : ClassId) (th : Nat → Int32) (tm : Nat → Int64) (pr ag : Nat → Int32) (ck : Int64) (nx : Int32) (sz : Nat) (n : Int64) (h1 : 0 ≤ n) (h2 : n ≤ 17592186044416) (h3 : n ≤ 70368744177664 - ck) : Met l yX_go (Cond.code yX_go bX_go 3 (some .int) :: tw_T) { frames := 2, cells := 0, slots := 0, locals := 80 } (va_Pc [.ref h0, .long n] (fun U => U.heap.size = sz ∧ va_P (dC, dI) tw_cl (tw_wX h0 a0 a1 a2 a3 k0 k1 k2 k3 th tm pr ag ck nx) U.heap ∧ va_K (dC, dI) tw_cl (tw_k k0 k1 k2 k3) U ∧ va_D (fun _ => True) (tw_wX h0 a0 a1 a2 a3 k0 k1 k2 k3 th tm pr ag ck nx))) (va_Qi (S := Unit) (fun r _ => r = tw_dues th tm (ck + n) 100) (fun _ tz => va_P (dC, dI) tw_cl (tw_wX h0 a0 a1 a2 a3 k0 k1 k2 k3 th tm pr ag (ck + n) nx) tz.heap ∧ va_D (va_A (tw_wX h0 a0 a1 a2 a3 k0 k1 k2 k3 th tm pr ag ck nx) sz) (tw_wX h0 a0 a1 a2 a3 k0 k1 k2 k3 th tm pr ag (ck + n) nx)) (va_A (tw_wX h0 a0 a1 a2 a3 k0 k1 k2 k3 th tm pr ag ck nx) sz)) 0 0 (va_A (tw_wX h0 a0 a1 a2 a3 k0 k1 k2 k3 th tm pr ag ck nx) sz) := by
  refine Met.ofW (cc := bX_go) (maxL := 3) (ret := some .int) (by decide) rfl ?_
  intro p e s m args below meth c s₁ B hml hv
  obtain ⟨rfl, hsz, hP, hK, hD0⟩ := hv
  have hx := B.exec
  have hb := B.bytes
  have hr := B.returns
  have hT := fun (w : Cond) (h : w ∈ tw_T) => atoms_spec (ws := Cond.code yX_go bX_go 3 (some .int) :: tw_T) B.pre w (List.mem_cons_of_mem _ h)
  have hown : s.vm.findClass RX = some m.cls := findClass_of_methodNamed B.named
  have hlocks := B.notSynchronized
  have hl := lv_entry ([.ref h0, .long n]) (n := 3) (Nat.le_of_ble_eq_true rfl)
  rw [lg_entry_eq]
  generalize (lg_sl ([.ref h0, .long n]) ++ List.replicate (3 - (lg_sl ([.ref h0, .long n])).length) Slot.unset).toArray = ls at hl ⊢
  have hl : lv_has ls 3 [(0, .ref h0), (1, .long n)] := hl
  subst hsz
  have hD := hD0.self (sz := s.heap.size)
  generalize hAe : va_A (tw_wX h0 a0 a1 a2 a3 k0 k1 k2 k3 th tm pr ag ck nx) s.heap.size = A at hD ⊢
  have hS : va_S A s.heap s.heap [] := va_S.rf
  refine lv_lload_n hx hb dX_go_0 rfl (lv_at hl 1 rfl) ?_
  refine lv_lconst (v := 0) hx hb dX_go_1 (by decide) ?_
  refine W.lcmp hx hb dX_go_2 ?_
  refine lv_if_lt (tgt := 14) hx hb dX_go_3 (by decide) (fun hc1 => absurd hc1 (fun z => Int64.not_lt.mpr h1 ((lg_cmp_lt _ _).mp z))) (fun hc1 => ?_)
  refine lv_lload_n hx hb dX_go_6 rfl (lv_at hl 1 rfl) ?_
  refine lv_ldc2 (v := 17592186044416) hx hb hown (hT _ tt_174) dX_go_7 ?_
  refine W.lcmp hx hb dX_go_10 ?_
  refine lv_if_le (tgt := 24) hx hb dX_go_11 (by decide) (fun hc2 => ?_) (fun hc2 => absurd ((lg_cmp_le _ _).mpr h2) hc2)
  refine lv_lload_n hx hb dX_go_24 rfl (lv_at hl 1 rfl) ?_
  refine lv_ldc2 (v := 70368744177664) hx hb hown (hT _ tt_125) dX_go_25 ?_
  refine lv_aload_n hx hb dX_go_28 rfl (lv_at hl 0 rfl) ?_
  refine va_get (D := (dC, dI)) (ci := 0) (v := .long ck) (C := RX) (T := FX) (N := 6) hx hb hT in_X hown hK hP 0 rfl rfl 4 (by decide) (hT _ tt_20) (fun _ h9 => h9) rfl dX_go_29 ?_
  refine lv_lsub hx hb dX_go_32 ?_
  refine W.lcmp hx hb dX_go_33 ?_
  refine lv_if_le (tgt := 47) hx hb dX_go_34 (by decide) (fun hc3 => ?_) (fun hc3 => absurd ((lg_cmp_le _ _).mpr h3) hc3)
  refine lv_aload_n hx hb dX_go_47 rfl (lv_at hl 0 rfl) ?_
  refine lv_dup hx hb dX_go_48 rfl ?_
  refine va_get (D := (dC, dI)) (ci := 0) (v := .long ck) (C := RX) (T := FX) (N := 6) hx hb hT in_X hown hK hP 0 rfl rfl 4 (by decide) (hT _ tt_20) (fun _ h9 => h9) rfl dX_go_49 ?_
  refine lv_lload_n hx hb dX_go_52 rfl (lv_at hl 1 rfl) ?_
  refine lv_ladd hx hb dX_go_53 ?_
  refine va_put (D := (dC, dI)) (ci := 0) (v := .long (ck + n)) (ty := .long) (C := RX) (T := FX) (N := 6) hx hb hT in_X TX tX_ok nX_ hown hK hP hD hS 0 rfl rfl 4 (by decide) (hT _ tt_20) (fun _ h9 => h9) rfl (by decide +kernel) rfl rfl (Nat.le_of_ble_eq_true rfl) dX_go_54 (fun H locs hP hD hS => ?_)
  have hP : va_P (dC, dI) tw_cl [(h0, .inr (0, [.ref a0, .ref a1, .ref a2, .ref a3, .long (ck + n), .int nx])), (a0, .inl (k0, 100, .inl th)), (a1, .inl (k1, 100, .inr (.inl tm))), (a2, .inl (k2, 100, .inl pr)), (a3, .inl (k3, 100, .inl ag))] H := hP
  have hD : va_D A [(h0, .inr (0, [.ref a0, .ref a1, .ref a2, .ref a3, .long (ck + n), .int nx])), (a0, .inl (k0, 100, .inl th)), (a1, .inl (k1, 100, .inr (.inl tm))), (a2, .inl (k2, 100, .inl pr)), (a3, .inl (k3, 100, .inl ag))] := hD
  refine lv_aload_n hx hb dX_go_57 rfl (lv_at hl 0 rfl) ?_
  refine vp_callSi (W.runV (C := RX) (b := h0) (As := []) (rest := []) ⟨hx, hb, hml, hown, hT⟩ (cX_countDue l dC dI h0 a0 a1 a2 a3 k0 k1 k2 k3 th tm pr ag (ck + n) nx) (cwV 0 hT (tw_gV tt_177 tt_179 tp_X_countDue tt_1 tt_180) rfl rfl rfl ⟨rfl, by decide +kernel⟩ ⟨Nat.le_of_ble_eq_true rfl, Nat.le_of_ble_eq_true rfl⟩) ⟨fun a U g mk q => ⟨q.1, q.2.1, va_K.moved (u := U) (U := U.calling g mk a) (Vm.Alike.refl U.vm) q.2.2⟩, va_recv (q0 := 0) (ci := 0) hK hP rfl rfl, fun U hU hW => ⟨rfl, by rw [hU]; exact hP, va_K.moved hW.alike hK⟩⟩ rfl rfl hl.1 rfl (lv_room (Nat.le_of_ble_eq_true rfl)) dX_go_58 ⟨Nat.le_of_ble_eq_true rfl, Nat.le_of_ble_eq_true rfl⟩) (fun r2 h2 => ?_)
  subst h2
  exact W.iret hx hb hr (fun t ht hW => ⟨⟨_, (), rfl, rfl, by rw [ht]; exact hP, hD⟩, hS.F ht⟩) hS.2.2 dX_go_61
set_option maxHeartbeats 4000000 in
set_option maxRecDepth 100000 in
theorem eX_go (l : Launch) (hfl : l.flags = pinnedFlags ++ [noTraceFlag]) (dC : Nat → ClassId) (dI : Nat → Nat → Nat) (h0 a0 a1 a2 a3 : Nat) (k0 k1 k2 k3 : ClassId) (th : Nat → Int32) (tm : Nat → Int64) (pr ag : Nat → Int32) (ck : Int64) (nx : Int32) (n : Int64) (hbad : ¬ (0 ≤ n ∧ n ≤ 17592186044416 ∧ n ≤ 70368744177664 - ck)) : xt_Met l yX_go (Cond.code yX_go bX_go 3 (some .int) :: tw_T) { frames := 7, cells := 1, slots := 6, locals := 120 } (va_Pc [.ref h0, .long n] (fun U => tw_PX dC dI h0 a0 a1 a2 a3 k0 k1 k2 k3 th tm pr ag ck nx U ∧ tw_Z U U.heap)) (tw_thr tw_iae) 1 6 (fun _ => False) := by
  refine xt_ofW (cc := bX_go) (maxL := 3) (ret := some .int) (by decide) rfl ?_
  intro p e s m args below meth c s₁ B hml hout hadm hv
  obtain ⟨rfl, ⟨hP, hK⟩, hZ⟩ := hv
  have hx := B.exec
  have hb := B.bytes
  have hr := B.returns
  have hT := fun (w : Cond) (h : w ∈ tw_T) => atoms_spec (ws := Cond.code yX_go bX_go 3 (some .int) :: tw_T) B.pre w (List.mem_cons_of_mem _ h)
  have hown : s.vm.findClass RX = some m.cls := findClass_of_methodNamed B.named
  have hlocks := B.notSynchronized
  have hl := lv_entry ([.ref h0, .long n]) (n := 3) (Nat.le_of_ble_eq_true rfl)
  rw [lg_entry_eq]
  generalize (lg_sl ([.ref h0, .long n]) ++ List.replicate (3 - (lg_sl ([.ref h0, .long n])).length) Slot.unset).toArray = ls at hl ⊢
  have hl : lv_has ls 3 [(0, .ref h0), (1, .long n)] := hl
  have htr := Launch.traces_off hfl hadm
  refine lv_lload_n hx hb dX_go_0 rfl (lv_at hl 1 rfl) ?_
  refine lv_lconst (v := 0) hx hb dX_go_1 (by decide) ?_
  refine W.lcmp hx hb dX_go_2 ?_
  refine lv_if_lt (tgt := 14) hx hb dX_go_3 (by decide) (fun hc1 => ?_) (fun hc1 => ?_)
  · -- taken at 3: lg_cmp n 0 < 0
    obtain ⟨q9, hq9⟩ := hZ.1 (64, "the CLOCK goes on by 0 .. 2^44") (by decide)
    exact xt_throw (tx := "the CLOCK goes on by 0 .. 2^44") (names := tw_nm) (q0 := q9) (E := tw_iae) hx hb htr hown (by decide +kernel) (by decide +kernel) (hT _ tt_58) (hT _ tt_6) hq9 (tw_ownA hT hZ) (hl.1.trans hml.symm) dX_go_14 dX_go_17 dX_go_18 dX_go_20 dX_go_23 (fun x hx9 => hout x hx9 _) (Nat.le_of_ble_eq_true rfl) (Nat.le_of_ble_eq_true rfl) (Nat.le_of_ble_eq_true rfl) (Nat.le_of_ble_eq_true rfl) hlocks (fun t hW hE => ⟨_, rfl, hE⟩)
  · -- not taken at 3: lg_cmp n 0 < 0
    refine lv_lload_n hx hb dX_go_6 rfl (lv_at hl 1 rfl) ?_
    refine lv_ldc2 (v := 17592186044416) hx hb hown (hT _ tt_174) dX_go_7 ?_
    refine W.lcmp hx hb dX_go_10 ?_
    refine lv_if_le (tgt := 24) hx hb dX_go_11 (by decide) (fun hc2 => ?_) (fun hc2 => ?_)
    · -- taken at 11: lg_cmp n 17592186044416 ≤ 0
      refine lv_lload_n hx hb dX_go_24 rfl (lv_at hl 1 rfl) ?_
      refine lv_ldc2 (v := 70368744177664) hx hb hown (hT _ tt_125) dX_go_25 ?_
      refine lv_aload_n hx hb dX_go_28 rfl (lv_at hl 0 rfl) ?_
      refine va_get (D := (dC, dI)) (ci := 0) (v := .long ck) (C := RX) (T := FX) (N := 6) hx hb hT in_X hown hK hP 0 rfl rfl 4 (by decide) (hT _ tt_20) (fun _ h9 => h9) rfl dX_go_29 ?_
      refine lv_lsub hx hb dX_go_32 ?_
      refine W.lcmp hx hb dX_go_33 ?_
      refine lv_if_le (tgt := 47) hx hb dX_go_34 (by decide) (fun hc3 => absurd hc3 (fun z => hbad ⟨(lg_cmp_ge _ _).mp (Int32.not_lt.mp hc1), (lg_cmp_le _ _).mp hc2, (lg_cmp_le _ _).mp z⟩)) (fun hc3 => ?_)
      obtain ⟨q9, hq9⟩ := hZ.1 (66, "the CLOCK goes at most to 2^46") (by decide)
      exact xt_throw (tx := "the CLOCK goes at most to 2^46") (names := tw_nm) (q0 := q9) (E := tw_iae) hx hb htr hown (by decide +kernel) (by decide +kernel) (hT _ tt_58) (hT _ tt_6) hq9 (tw_ownA hT hZ) (hl.1.trans hml.symm) dX_go_37 dX_go_40 dX_go_41 dX_go_43 dX_go_46 (fun x hx9 => hout x hx9 _) (Nat.le_of_ble_eq_true rfl) (Nat.le_of_ble_eq_true rfl) (Nat.le_of_ble_eq_true rfl) (Nat.le_of_ble_eq_true rfl) hlocks (fun t hW hE => ⟨_, rfl, hE⟩)
    · -- not taken at 11: lg_cmp n 17592186044416 ≤ 0
      obtain ⟨q9, hq9⟩ := hZ.1 (64, "the CLOCK goes on by 0 .. 2^44") (by decide)
      exact xt_throw (tx := "the CLOCK goes on by 0 .. 2^44") (names := tw_nm) (q0 := q9) (E := tw_iae) hx hb htr hown (by decide +kernel) (by decide +kernel) (hT _ tt_58) (hT _ tt_6) hq9 (tw_ownA hT hZ) (hl.1.trans hml.symm) dX_go_14 dX_go_17 dX_go_18 dX_go_20 dX_go_23 (fun x hx9 => hout x hx9 _) (Nat.le_of_ble_eq_true rfl) (Nat.le_of_ble_eq_true rfl) (Nat.le_of_ble_eq_true rfl) (Nat.le_of_ble_eq_true rfl) hlocks (fun t hW hE => ⟨_, rfl, hE⟩)
set_option maxHeartbeats 4000000 in
set_option maxRecDepth 100000 in
theorem cX_skip (l : Launch) (dC : Nat → ClassId) (dI : Nat → Nat → Nat) (h0 a0 a1 a2 a3 : Nat) (k0 k1 k2 k3 : ClassId) (th : Nat → Int32) (tm : Nat → Int64) (pr ag : Nat → Int32) (ck : Int64) (nx : Int32) (sz : Nat) (hf : ¬ tw_least th tm ck 100 = -1) : Met l yX_skip (Cond.code yX_skip bX_skip 3 (some .int) :: tw_T) { frames := 2, cells := 0, slots := 0, locals := 80 } (va_Pc [.ref h0] (fun U => U.heap.size = sz ∧ va_P (dC, dI) tw_cl (tw_wX h0 a0 a1 a2 a3 k0 k1 k2 k3 th tm pr ag ck nx) U.heap ∧ va_K (dC, dI) tw_cl (tw_k k0 k1 k2 k3) U ∧ va_D (fun _ => True) (tw_wX h0 a0 a1 a2 a3 k0 k1 k2 k3 th tm pr ag ck nx))) (va_Qi (S := Unit) (fun r _ => r = tw_dues th tm (tw_least th tm ck 100) 100) (fun _ tz => va_P (dC, dI) tw_cl (tw_wX h0 a0 a1 a2 a3 k0 k1 k2 k3 th tm pr ag (tw_least th tm ck 100) nx) tz.heap ∧ va_D (va_A (tw_wX h0 a0 a1 a2 a3 k0 k1 k2 k3 th tm pr ag ck nx) sz) (tw_wX h0 a0 a1 a2 a3 k0 k1 k2 k3 th tm pr ag (tw_least th tm ck 100) nx)) (va_A (tw_wX h0 a0 a1 a2 a3 k0 k1 k2 k3 th tm pr ag ck nx) sz)) 0 0 (va_A (tw_wX h0 a0 a1 a2 a3 k0 k1 k2 k3 th tm pr ag ck nx) sz) := by
  refine Met.ofW (cc := bX_skip) (maxL := 3) (ret := some .int) (by decide) rfl ?_
  intro p e s m args below meth c s₁ B hml hv
  obtain ⟨rfl, hsz, hP, hK, hD0⟩ := hv
  have hx := B.exec
  have hb := B.bytes
  have hr := B.returns
  have hT := fun (w : Cond) (h : w ∈ tw_T) => atoms_spec (ws := Cond.code yX_skip bX_skip 3 (some .int) :: tw_T) B.pre w (List.mem_cons_of_mem _ h)
  have hown : s.vm.findClass RX = some m.cls := findClass_of_methodNamed B.named
  have hlocks := B.notSynchronized
  have hl := lv_entry ([.ref h0]) (n := 3) (Nat.le_of_ble_eq_true rfl)
  rw [lg_entry_eq]
  generalize (lg_sl ([.ref h0]) ++ List.replicate (3 - (lg_sl ([.ref h0])).length) Slot.unset).toArray = ls at hl ⊢
  have hl : lv_has ls 3 [(0, .ref h0)] := hl
  subst hsz
  have hD := hD0.self (sz := s.heap.size)
  generalize hAe : va_A (tw_wX h0 a0 a1 a2 a3 k0 k1 k2 k3 th tm pr ag ck nx) s.heap.size = A at hD ⊢
  have hS : va_S A s.heap s.heap [] := va_S.rf
  refine lv_aload_n hx hb dX_skip_0 rfl (lv_at hl 0 rfl) ?_
  refine vp_callSl (W.runV (C := RX) (b := h0) (As := []) (rest := []) ⟨hx, hb, hml, hown, hT⟩ (cX_least l dC dI h0 a0 a1 a2 a3 k0 k1 k2 k3 th tm pr ag ck nx) (cwV 0 hT (tw_gV tt_188 tt_39 tt_40 tt_1 tt_41) rfl rfl rfl ⟨rfl, by decide +kernel⟩ ⟨Nat.le_of_ble_eq_true rfl, Nat.le_of_ble_eq_true rfl⟩) ⟨fun a U g mk q => ⟨q.1, q.2.1, va_K.moved (u := U) (U := U.calling g mk a) (Vm.Alike.refl U.vm) q.2.2⟩, va_recv (q0 := 0) (ci := 0) hK hP rfl rfl, fun U hU hW => ⟨rfl, by rw [hU]; exact hP, va_K.moved hW.alike hK⟩⟩ rfl rfl hl.1 rfl (lv_room (Nat.le_of_ble_eq_true rfl)) dX_skip_1 ⟨Nat.le_of_ble_eq_true rfl, Nat.le_of_ble_eq_true rfl⟩) (fun r1 h1 => ?_)
  subst h1
  refine lv_lstore_n hx hb dX_skip_4 rfl hl (by decide) rfl (fun ls hl => ?_)
  have hl : lv_has ls 3 [(1, .long (tw_least th tm ck 100)), (0, .ref h0)] := hl
  refine lv_lload_n hx hb dX_skip_5 rfl (lv_at hl 0 rfl) ?_
  refine lv_ldc2 (v := -1) hx hb hown (hT _ tt_42) dX_skip_6 ?_
  refine W.lcmp hx hb dX_skip_9 ?_
  refine lv_if_ne (tgt := 23) hx hb dX_skip_10 (by decide) (fun hc1 => ?_) (fun hc1 => absurd hc1 (fun z => hf ((lg_cmp_eq _ _).mp z)))
  refine lv_aload_n hx hb dX_skip_23 rfl (lv_at hl 1 rfl) ?_
  refine lv_lload_n hx hb dX_skip_24 rfl (lv_at hl 0 rfl) ?_
  refine va_put (D := (dC, dI)) (ci := 0) (v := .long (tw_least th tm ck 100)) (ty := .long) (C := RX) (T := FX) (N := 6) hx hb hT in_X TX tX_ok nX_ hown hK hP hD hS 0 rfl rfl 4 (by decide) (hT _ tt_20) (fun _ h9 => h9) rfl (by decide +kernel) rfl rfl (Nat.le_of_ble_eq_true rfl) dX_skip_25 (fun H locs hP hD hS => ?_)
  have hP : va_P (dC, dI) tw_cl [(h0, .inr (0, [.ref a0, .ref a1, .ref a2, .ref a3, .long (tw_least th tm ck 100), .int nx])), (a0, .inl (k0, 100, .inl th)), (a1, .inl (k1, 100, .inr (.inl tm))), (a2, .inl (k2, 100, .inl pr)), (a3, .inl (k3, 100, .inl ag))] H := hP
  have hD : va_D A [(h0, .inr (0, [.ref a0, .ref a1, .ref a2, .ref a3, .long (tw_least th tm ck 100), .int nx])), (a0, .inl (k0, 100, .inl th)), (a1, .inl (k1, 100, .inr (.inl tm))), (a2, .inl (k2, 100, .inl pr)), (a3, .inl (k3, 100, .inl ag))] := hD
  refine lv_aload_n hx hb dX_skip_28 rfl (lv_at hl 1 rfl) ?_
  refine vp_callSi (W.runV (C := RX) (b := h0) (As := []) (rest := []) ⟨hx, hb, hml, hown, hT⟩ (cX_countDue l dC dI h0 a0 a1 a2 a3 k0 k1 k2 k3 th tm pr ag (tw_least th tm ck 100) nx) (cwV 0 hT (tw_gV tt_177 tt_179 tp_X_countDue tt_1 tt_180) rfl rfl rfl ⟨rfl, by decide +kernel⟩ ⟨Nat.le_of_ble_eq_true rfl, Nat.le_of_ble_eq_true rfl⟩) ⟨fun a U g mk q => ⟨q.1, q.2.1, va_K.moved (u := U) (U := U.calling g mk a) (Vm.Alike.refl U.vm) q.2.2⟩, va_recv (q0 := 0) (ci := 0) hK hP rfl rfl, fun U hU hW => ⟨rfl, by rw [hU]; exact hP, va_K.moved hW.alike hK⟩⟩ rfl rfl hl.1 rfl (lv_room (Nat.le_of_ble_eq_true rfl)) dX_skip_29 ⟨Nat.le_of_ble_eq_true rfl, Nat.le_of_ble_eq_true rfl⟩) (fun r2 h2 => ?_)
  subst h2
  exact W.iret hx hb hr (fun t ht hW => ⟨⟨_, (), rfl, rfl, by rw [ht]; exact hP, hD⟩, hS.F ht⟩) hS.2.2 dX_skip_32
set_option maxHeartbeats 4000000 in
set_option maxRecDepth 100000 in
theorem eX_skip (l : Launch) (hfl : l.flags = pinnedFlags ++ [noTraceFlag]) (dC : Nat → ClassId) (dI : Nat → Nat → Nat) (h0 a0 a1 a2 a3 : Nat) (k0 k1 k2 k3 : ClassId) (th : Nat → Int32) (tm : Nat → Int64) (pr ag : Nat → Int32) (ck : Int64) (nx : Int32) (hf : tw_least th tm ck 100 = -1) : xt_Met l yX_skip (Cond.code yX_skip bX_skip 3 (some .int) :: tw_T) { frames := 7, cells := 1, slots := 6, locals := 120 } (va_Pc [.ref h0] (fun U => tw_PX dC dI h0 a0 a1 a2 a3 k0 k1 k2 k3 th tm pr ag ck nx U ∧ tw_Z U U.heap)) (tw_thr tw_nse) 1 6 (fun _ => False) := by
  refine xt_ofW (cc := bX_skip) (maxL := 3) (ret := some .int) (by decide) rfl ?_
  intro p e s m args below meth c s₁ B hml hout hadm hv
  obtain ⟨rfl, ⟨hP, hK⟩, hZ⟩ := hv
  have hx := B.exec
  have hb := B.bytes
  have hr := B.returns
  have hT := fun (w : Cond) (h : w ∈ tw_T) => atoms_spec (ws := Cond.code yX_skip bX_skip 3 (some .int) :: tw_T) B.pre w (List.mem_cons_of_mem _ h)
  have hown : s.vm.findClass RX = some m.cls := findClass_of_methodNamed B.named
  have hlocks := B.notSynchronized
  have hl := lv_entry ([.ref h0]) (n := 3) (Nat.le_of_ble_eq_true rfl)
  rw [lg_entry_eq]
  generalize (lg_sl ([.ref h0]) ++ List.replicate (3 - (lg_sl ([.ref h0])).length) Slot.unset).toArray = ls at hl ⊢
  have hl : lv_has ls 3 [(0, .ref h0)] := hl
  have htr := Launch.traces_off hfl hadm
  refine lv_aload_n hx hb dX_skip_0 rfl (lv_at hl 0 rfl) ?_
  refine vp_callSl (W.runV (C := RX) (b := h0) (As := []) (rest := []) ⟨hx, hb, hml, hown, hT⟩ (cX_least l dC dI h0 a0 a1 a2 a3 k0 k1 k2 k3 th tm pr ag ck nx) (cwV 0 hT (tw_gV tt_188 tt_39 tt_40 tt_1 tt_41) rfl rfl rfl ⟨rfl, by decide +kernel⟩ ⟨Nat.le_of_ble_eq_true rfl, Nat.le_of_ble_eq_true rfl⟩) ⟨fun a U g mk q => ⟨q.1, q.2.1, va_K.moved (u := U) (U := U.calling g mk a) (Vm.Alike.refl U.vm) q.2.2⟩, va_recv (q0 := 0) (ci := 0) hK hP rfl rfl, fun U hU hW => ⟨rfl, by rw [hU]; exact hP, va_K.moved hW.alike hK⟩⟩ rfl rfl hl.1 rfl (lv_room (Nat.le_of_ble_eq_true rfl)) dX_skip_1 ⟨Nat.le_of_ble_eq_true rfl, Nat.le_of_ble_eq_true rfl⟩) (fun r1 h1 => ?_)
  subst h1
  refine lv_lstore_n hx hb dX_skip_4 rfl hl (by decide) rfl (fun ls hl => ?_)
  have hl : lv_has ls 3 [(1, .long (tw_least th tm ck 100)), (0, .ref h0)] := hl
  refine lv_lload_n hx hb dX_skip_5 rfl (lv_at hl 0 rfl) ?_
  refine lv_ldc2 (v := -1) hx hb hown (hT _ tt_42) dX_skip_6 ?_
  refine W.lcmp hx hb dX_skip_9 ?_
  refine lv_if_ne (tgt := 23) hx hb dX_skip_10 (by decide) (fun hc1 => absurd ((lg_cmp_eq _ _).mpr hf) hc1) (fun hc1 => ?_)
  obtain ⟨q9, hq9⟩ := hZ.1 (75, "there is no TIMER that is not DUE") (by decide)
  exact xt_throwN (tx := "there is no TIMER that is not DUE") (names := ["java/lang/Exception"]) (Y := "java/lang/RuntimeException") (q0 := q9) (E := tw_nse) hx hb htr tw_x0 tw_x1 tw_x2 tw_x5 hown (by decide +kernel) (by decide +kernel) (by decide +kernel) (hT _ tt_145) (hT _ tt_135) (hT _ tt_7) hq9 (tw_ownN hT hZ) (hl.1.trans hml.symm) dX_skip_13 dX_skip_16 dX_skip_17 dX_skip_19 dX_skip_22 (fun x hx9 => hout x hx9 _) (Nat.le_of_ble_eq_true rfl) (Nat.le_of_ble_eq_true rfl) (Nat.le_of_ble_eq_true rfl) (Nat.le_of_ble_eq_true rfl) hlocks (fun t hW hE => ⟨_, rfl, hE⟩)
set_option maxHeartbeats 4000000 in
set_option maxRecDepth 100000 in
theorem cX_timer0 (l : Launch) (dC : Nat → ClassId) (dI : Nat → Nat → Nat) (h0 a0 a1 a2 a3 : Nat) (k0 k1 k2 k3 : ClassId) (th : Nat → Int32) (tm : Nat → Int64) (pr ag : Nat → Int32) (ck : Int64) (nx : Int32) (j : Int32) (hj : vp_in j 100) : Met l yX_timer (Cond.code yX_timer bX_timer 3 (some .long) :: tw_T) { frames := 2, cells := 0, slots := 0, locals := 80 } (va_Pc [.ref h0, .int j, .int 0] (tw_PX dC dI h0 a0 a1 a2 a3 k0 k1 k2 k3 th tm pr ag ck nx)) (vp_Sl (fun r => r = (if th j.toNatClampNeg = 0 then 0 else if tw_due th tm ck j = true then 2 else 1))) 0 0 (fun _ => False) := by
  refine Met.ofW (cc := bX_timer) (maxL := 3) (ret := some .long) (by decide) rfl ?_
  intro p e s m args below meth c s₁ B hml hv
  obtain ⟨rfl, hP, hK⟩ := hv
  have hx := B.exec
  have hb := B.bytes
  have hr := B.returns
  have hT := fun (w : Cond) (h : w ∈ tw_T) => atoms_spec (ws := Cond.code yX_timer bX_timer 3 (some .long) :: tw_T) B.pre w (List.mem_cons_of_mem _ h)
  have hown : s.vm.findClass RX = some m.cls := findClass_of_methodNamed B.named
  have hlocks := B.notSynchronized
  have hl := lv_entry ([.ref h0, .int j, .int 0]) (n := 3) (Nat.le_of_ble_eq_true rfl)
  rw [lg_entry_eq]
  generalize (lg_sl ([.ref h0, .int j, .int 0]) ++ List.replicate (3 - (lg_sl ([.ref h0, .int j, .int 0])).length) Slot.unset).toArray = ls at hl ⊢
  have hl : lv_has ls 3 [(0, .ref h0), (1, .int j), (2, .int 0)] := hl
  refine lv_iload_n hx hb dX_timer_0 rfl (lv_at hl 1 rfl) ?_
  refine va_csv (W.runS (As := [.int j]) (rest := []) ⟨hx, hb, hml, hown, hT⟩ (cX_requireTimerNumber l j hj) (cwS 1 hT (tw_gS tt_55 tt_56 tt_1 tt_57) rfl rfl rfl ⟨rfl, by decide +kernel⟩ ⟨Nat.le_of_ble_eq_true rfl, Nat.le_of_ble_eq_true rfl⟩) ⟨fun a U g mk q => q, fun U hU hW => ⟨rfl, trivial⟩⟩ rfl rfl hl.1 rfl (lv_room (Nat.le_of_ble_eq_true rfl)) dX_timer_1 ⟨Nat.le_of_ble_eq_true rfl, Nat.le_of_ble_eq_true rfl⟩) (fun _ => ?_)
  refine lv_iload_n hx hb dX_timer_4 rfl (lv_at hl 2 rfl) ?_
  refine lv_if_lt (tgt := 13) hx hb dX_timer_5 (by decide) (fun hc1 => absurd hc1 (by decide)) (fun hc1 => ?_)
  refine lv_iload_n hx hb dX_timer_8 rfl (lv_at hl 2 rfl) ?_
  refine lv_iconst (v := 3) hx hb dX_timer_9 (by decide) ?_
  refine lv_icmp_le (tgt := 23) hx hb dX_timer_10 (by decide) (fun hc2 => ?_) (fun hc2 => absurd (by decide) hc2)
  refine lv_aload_n hx hb dX_timer_23 rfl (lv_at hl 0 rfl) ?_
  refine va_get (D := (dC, dI)) (ci := 0) (v := .ref a0) (C := RX) (T := FX) (N := 6) hx hb hT in_X hown hK hP 0 rfl rfl 0 (by decide) (hT _ tt_16) (fun _ h9 => h9) rfl dX_timer_24 ?_
  refine lv_iload_n hx hb dX_timer_27 rfl (lv_at hl 1 rfl) ?_
  refine va_zald hx hb hK hP 1 0 rfl rfl hj dX_timer_28 ?_
  refine lv_if_ne (tgt := 34) hx hb dX_timer_29 (by decide) (fun hc3 => ?_) (fun hc3 => ?_)
  · -- taken at 29: ¬ th j.toNatClampNeg = 0
    refine lv_iload_n hx hb dX_timer_34 rfl (lv_at hl 2 rfl) ?_
    refine lv_tableIn (off := 25) (tgt := 60) hx hb dX_timer_35 (by decide) (by decide) (by decide +kernel) (by decide) ?_
    refine lv_aload_n hx hb dX_timer_60 rfl (lv_at hl 0 rfl) ?_
    refine lv_iload_n hx hb dX_timer_61 rfl (lv_at hl 1 rfl) ?_
    refine vp_callSi (W.runV (C := RX) (b := h0) (As := [.int j]) (rest := []) ⟨hx, hb, hml, hown, hT⟩ (cX_isDue l dC dI h0 a0 a1 a2 a3 k0 k1 k2 k3 th tm pr ag ck nx j hj) (cwV 1 hT (tw_gV tt_43 tt_45 tp_X_isDue tt_1 tt_46) rfl rfl rfl ⟨rfl, by decide +kernel⟩ ⟨Nat.le_of_ble_eq_true rfl, Nat.le_of_ble_eq_true rfl⟩) ⟨fun a U g mk q => ⟨q.1, q.2.1, va_K.moved (u := U) (U := U.calling g mk a) (Vm.Alike.refl U.vm) q.2.2⟩, va_recv (q0 := 0) (ci := 0) hK hP rfl rfl, fun U hU hW => ⟨rfl, by rw [hU]; exact hP, va_K.moved hW.alike hK⟩⟩ rfl rfl hl.1 rfl (lv_room (Nat.le_of_ble_eq_true rfl)) dX_timer_62 ⟨Nat.le_of_ble_eq_true rfl, Nat.le_of_ble_eq_true rfl⟩) (fun r1 h1 => ?_)
    subst h1
    refine lv_if_eq (tgt := 74) hx hb dX_timer_65 (by decide) (fun hc4 => ?_) (fun hc4 => ?_)
    · -- taken at 65: tw_bz (tw_due th tm ck j) = 0
      refine lv_lconst (v := 1) hx hb dX_timer_74 (by decide) ?_
      exact W.lret hx hb hr (fun t ht hW => ⟨_, rfl, by rw [if_neg hc3, if_neg (by rw [tw_bz0 hc4]; decide)], ht⟩) (fun q hq => by cases hq) dX_timer_75
    · -- not taken at 65: tw_bz (tw_due th tm ck j) = 0
      refine lv_ldc2 (v := 2) hx hb hown (hT _ tt_198) dX_timer_68 ?_
      refine lv_goto (tgt := 75) hx hb dX_timer_71 (by decide) ?_
      exact W.lret hx hb hr (fun t ht hW => ⟨_, rfl, by rw [if_neg hc3, if_pos (tw_bz1 hc4)], ht⟩) (fun q hq => by cases hq) dX_timer_75
  · -- not taken at 29: ¬ th j.toNatClampNeg = 0
    refine lv_lconst (v := 0) hx hb dX_timer_32 (by decide) ?_
    exact W.lret hx hb hr (fun t ht hW => ⟨_, rfl, by rw [if_pos hc3], ht⟩) (fun q hq => by cases hq) dX_timer_33
set_option maxHeartbeats 4000000 in
set_option maxRecDepth 100000 in
theorem cX_timer1 (l : Launch) (dC : Nat → ClassId) (dI : Nat → Nat → Nat) (h0 a0 a1 a2 a3 : Nat) (k0 k1 k2 k3 : ClassId) (th : Nat → Int32) (tm : Nat → Int64) (pr ag : Nat → Int32) (ck : Int64) (nx : Int32) (j : Int32) (hj : vp_in j 100) : Met l yX_timer (Cond.code yX_timer bX_timer 3 (some .long) :: tw_T) { frames := 2, cells := 0, slots := 0, locals := 80 } (va_Pc [.ref h0, .int j, .int 1] (tw_PX dC dI h0 a0 a1 a2 a3 k0 k1 k2 k3 th tm pr ag ck nx)) (vp_Sl (fun r => r = (if th j.toNatClampNeg = 0 then 0 else tm j.toNatClampNeg))) 0 0 (fun _ => False) := by
  refine Met.ofW (cc := bX_timer) (maxL := 3) (ret := some .long) (by decide) rfl ?_
  intro p e s m args below meth c s₁ B hml hv
  obtain ⟨rfl, hP, hK⟩ := hv
  have hx := B.exec
  have hb := B.bytes
  have hr := B.returns
  have hT := fun (w : Cond) (h : w ∈ tw_T) => atoms_spec (ws := Cond.code yX_timer bX_timer 3 (some .long) :: tw_T) B.pre w (List.mem_cons_of_mem _ h)
  have hown : s.vm.findClass RX = some m.cls := findClass_of_methodNamed B.named
  have hlocks := B.notSynchronized
  have hl := lv_entry ([.ref h0, .int j, .int 1]) (n := 3) (Nat.le_of_ble_eq_true rfl)
  rw [lg_entry_eq]
  generalize (lg_sl ([.ref h0, .int j, .int 1]) ++ List.replicate (3 - (lg_sl ([.ref h0, .int j, .int 1])).length) Slot.unset).toArray = ls at hl ⊢
  have hl : lv_has ls 3 [(0, .ref h0), (1, .int j), (2, .int 1)] := hl
  refine lv_iload_n hx hb dX_timer_0 rfl (lv_at hl 1 rfl) ?_
  refine va_csv (W.runS (As := [.int j]) (rest := []) ⟨hx, hb, hml, hown, hT⟩ (cX_requireTimerNumber l j hj) (cwS 1 hT (tw_gS tt_55 tt_56 tt_1 tt_57) rfl rfl rfl ⟨rfl, by decide +kernel⟩ ⟨Nat.le_of_ble_eq_true rfl, Nat.le_of_ble_eq_true rfl⟩) ⟨fun a U g mk q => q, fun U hU hW => ⟨rfl, trivial⟩⟩ rfl rfl hl.1 rfl (lv_room (Nat.le_of_ble_eq_true rfl)) dX_timer_1 ⟨Nat.le_of_ble_eq_true rfl, Nat.le_of_ble_eq_true rfl⟩) (fun _ => ?_)
  refine lv_iload_n hx hb dX_timer_4 rfl (lv_at hl 2 rfl) ?_
  refine lv_if_lt (tgt := 13) hx hb dX_timer_5 (by decide) (fun hc1 => absurd hc1 (by decide)) (fun hc1 => ?_)
  refine lv_iload_n hx hb dX_timer_8 rfl (lv_at hl 2 rfl) ?_
  refine lv_iconst (v := 3) hx hb dX_timer_9 (by decide) ?_
  refine lv_icmp_le (tgt := 23) hx hb dX_timer_10 (by decide) (fun hc2 => ?_) (fun hc2 => absurd (by decide) hc2)
  refine lv_aload_n hx hb dX_timer_23 rfl (lv_at hl 0 rfl) ?_
  refine va_get (D := (dC, dI)) (ci := 0) (v := .ref a0) (C := RX) (T := FX) (N := 6) hx hb hT in_X hown hK hP 0 rfl rfl 0 (by decide) (hT _ tt_16) (fun _ h9 => h9) rfl dX_timer_24 ?_
  refine lv_iload_n hx hb dX_timer_27 rfl (lv_at hl 1 rfl) ?_
  refine va_zald hx hb hK hP 1 0 rfl rfl hj dX_timer_28 ?_
  refine lv_if_ne (tgt := 34) hx hb dX_timer_29 (by decide) (fun hc3 => ?_) (fun hc3 => ?_)
  · -- taken at 29: ¬ th j.toNatClampNeg = 0
    refine lv_iload_n hx hb dX_timer_34 rfl (lv_at hl 2 rfl) ?_
    refine lv_tableIn (off := 41) (tgt := 76) hx hb dX_timer_35 (by decide) (by decide) (by decide +kernel) (by decide) ?_
    refine lv_aload_n hx hb dX_timer_76 rfl (lv_at hl 0 rfl) ?_
    refine va_get (D := (dC, dI)) (ci := 0) (v := .ref a1) (C := RX) (T := FX) (N := 6) hx hb hT in_X hown hK hP 0 rfl rfl 1 (by decide) (hT _ tt_17) (fun _ h9 => h9) rfl dX_timer_77 ?_
    refine lv_iload_n hx hb dX_timer_80 rfl (lv_at hl 1 rfl) ?_
    refine va_lald hx hb hK hP 2 1 rfl rfl hj dX_timer_81 ?_
    exact W.lret hx hb hr (fun t ht hW => ⟨_, rfl, by rw [if_neg hc3], ht⟩) (fun q hq => by cases hq) dX_timer_82
  · -- not taken at 29: ¬ th j.toNatClampNeg = 0
    refine lv_lconst (v := 0) hx hb dX_timer_32 (by decide) ?_
    exact W.lret hx hb hr (fun t ht hW => ⟨_, rfl, by rw [if_pos hc3], ht⟩) (fun q hq => by cases hq) dX_timer_33
set_option maxHeartbeats 4000000 in
set_option maxRecDepth 100000 in
theorem cX_timer2 (l : Launch) (dC : Nat → ClassId) (dI : Nat → Nat → Nat) (h0 a0 a1 a2 a3 : Nat) (k0 k1 k2 k3 : ClassId) (th : Nat → Int32) (tm : Nat → Int64) (pr ag : Nat → Int32) (ck : Int64) (nx : Int32) (j : Int32) (hj : vp_in j 100) : Met l yX_timer (Cond.code yX_timer bX_timer 3 (some .long) :: tw_T) { frames := 2, cells := 0, slots := 0, locals := 80 } (va_Pc [.ref h0, .int j, .int 2] (tw_PX dC dI h0 a0 a1 a2 a3 k0 k1 k2 k3 th tm pr ag ck nx)) (vp_Sl (fun r => r = (if th j.toNatClampNeg = 0 then 0 else (pr j.toNatClampNeg).toInt64))) 0 0 (fun _ => False) := by
  refine Met.ofW (cc := bX_timer) (maxL := 3) (ret := some .long) (by decide) rfl ?_
  intro p e s m args below meth c s₁ B hml hv
  obtain ⟨rfl, hP, hK⟩ := hv
  have hx := B.exec
  have hb := B.bytes
  have hr := B.returns
  have hT := fun (w : Cond) (h : w ∈ tw_T) => atoms_spec (ws := Cond.code yX_timer bX_timer 3 (some .long) :: tw_T) B.pre w (List.mem_cons_of_mem _ h)
  have hown : s.vm.findClass RX = some m.cls := findClass_of_methodNamed B.named
  have hlocks := B.notSynchronized
  have hl := lv_entry ([.ref h0, .int j, .int 2]) (n := 3) (Nat.le_of_ble_eq_true rfl)
  rw [lg_entry_eq]
  generalize (lg_sl ([.ref h0, .int j, .int 2]) ++ List.replicate (3 - (lg_sl ([.ref h0, .int j, .int 2])).length) Slot.unset).toArray = ls at hl ⊢
  have hl : lv_has ls 3 [(0, .ref h0), (1, .int j), (2, .int 2)] := hl
  refine lv_iload_n hx hb dX_timer_0 rfl (lv_at hl 1 rfl) ?_
  refine va_csv (W.runS (As := [.int j]) (rest := []) ⟨hx, hb, hml, hown, hT⟩ (cX_requireTimerNumber l j hj) (cwS 1 hT (tw_gS tt_55 tt_56 tt_1 tt_57) rfl rfl rfl ⟨rfl, by decide +kernel⟩ ⟨Nat.le_of_ble_eq_true rfl, Nat.le_of_ble_eq_true rfl⟩) ⟨fun a U g mk q => q, fun U hU hW => ⟨rfl, trivial⟩⟩ rfl rfl hl.1 rfl (lv_room (Nat.le_of_ble_eq_true rfl)) dX_timer_1 ⟨Nat.le_of_ble_eq_true rfl, Nat.le_of_ble_eq_true rfl⟩) (fun _ => ?_)
  refine lv_iload_n hx hb dX_timer_4 rfl (lv_at hl 2 rfl) ?_
  refine lv_if_lt (tgt := 13) hx hb dX_timer_5 (by decide) (fun hc1 => absurd hc1 (by decide)) (fun hc1 => ?_)
  refine lv_iload_n hx hb dX_timer_8 rfl (lv_at hl 2 rfl) ?_
  refine lv_iconst (v := 3) hx hb dX_timer_9 (by decide) ?_
  refine lv_icmp_le (tgt := 23) hx hb dX_timer_10 (by decide) (fun hc2 => ?_) (fun hc2 => absurd (by decide) hc2)
  refine lv_aload_n hx hb dX_timer_23 rfl (lv_at hl 0 rfl) ?_
  refine va_get (D := (dC, dI)) (ci := 0) (v := .ref a0) (C := RX) (T := FX) (N := 6) hx hb hT in_X hown hK hP 0 rfl rfl 0 (by decide) (hT _ tt_16) (fun _ h9 => h9) rfl dX_timer_24 ?_
  refine lv_iload_n hx hb dX_timer_27 rfl (lv_at hl 1 rfl) ?_
  refine va_zald hx hb hK hP 1 0 rfl rfl hj dX_timer_28 ?_
  refine lv_if_ne (tgt := 34) hx hb dX_timer_29 (by decide) (fun hc3 => ?_) (fun hc3 => ?_)
  · -- taken at 29: ¬ th j.toNatClampNeg = 0
    refine lv_iload_n hx hb dX_timer_34 rfl (lv_at hl 2 rfl) ?_
    refine lv_tableIn (off := 48) (tgt := 83) hx hb dX_timer_35 (by decide) (by decide) (by decide +kernel) (by decide) ?_
    refine lv_aload_n hx hb dX_timer_83 rfl (lv_at hl 0 rfl) ?_
    refine va_get (D := (dC, dI)) (ci := 0) (v := .ref a2) (C := RX) (T := FX) (N := 6) hx hb hT in_X hown hK hP 0 rfl rfl 2 (by decide) (hT _ tt_18) (fun _ h9 => h9) rfl dX_timer_84 ?_
    refine lv_iload_n hx hb dX_timer_87 rfl (lv_at hl 1 rfl) ?_
    refine va_iald hx hb hK hP 3 2 rfl rfl hj dX_timer_88 ?_
    refine lv_i2l hx hb dX_timer_89 rfl ?_
    exact W.lret hx hb hr (fun t ht hW => ⟨_, rfl, by rw [if_neg hc3], ht⟩) (fun q hq => by cases hq) dX_timer_90
  · -- not taken at 29: ¬ th j.toNatClampNeg = 0
    refine lv_lconst (v := 0) hx hb dX_timer_32 (by decide) ?_
    exact W.lret hx hb hr (fun t ht hW => ⟨_, rfl, by rw [if_pos hc3], ht⟩) (fun q hq => by cases hq) dX_timer_33
set_option maxHeartbeats 4000000 in
set_option maxRecDepth 100000 in
theorem cX_timer3 (l : Launch) (dC : Nat → ClassId) (dI : Nat → Nat → Nat) (h0 a0 a1 a2 a3 : Nat) (k0 k1 k2 k3 : ClassId) (th : Nat → Int32) (tm : Nat → Int64) (pr ag : Nat → Int32) (ck : Int64) (nx : Int32) (j : Int32) (hj : vp_in j 100) : Met l yX_timer (Cond.code yX_timer bX_timer 3 (some .long) :: tw_T) { frames := 2, cells := 0, slots := 0, locals := 80 } (va_Pc [.ref h0, .int j, .int 3] (tw_PX dC dI h0 a0 a1 a2 a3 k0 k1 k2 k3 th tm pr ag ck nx)) (vp_Sl (fun r => r = (if th j.toNatClampNeg = 0 then 0 else (ag j.toNatClampNeg).toInt64))) 0 0 (fun _ => False) := by
  refine Met.ofW (cc := bX_timer) (maxL := 3) (ret := some .long) (by decide) rfl ?_
  intro p e s m args below meth c s₁ B hml hv
  obtain ⟨rfl, hP, hK⟩ := hv
  have hx := B.exec
  have hb := B.bytes
  have hr := B.returns
  have hT := fun (w : Cond) (h : w ∈ tw_T) => atoms_spec (ws := Cond.code yX_timer bX_timer 3 (some .long) :: tw_T) B.pre w (List.mem_cons_of_mem _ h)
  have hown : s.vm.findClass RX = some m.cls := findClass_of_methodNamed B.named
  have hlocks := B.notSynchronized
  have hl := lv_entry ([.ref h0, .int j, .int 3]) (n := 3) (Nat.le_of_ble_eq_true rfl)
  rw [lg_entry_eq]
  generalize (lg_sl ([.ref h0, .int j, .int 3]) ++ List.replicate (3 - (lg_sl ([.ref h0, .int j, .int 3])).length) Slot.unset).toArray = ls at hl ⊢
  have hl : lv_has ls 3 [(0, .ref h0), (1, .int j), (2, .int 3)] := hl
  refine lv_iload_n hx hb dX_timer_0 rfl (lv_at hl 1 rfl) ?_
  refine va_csv (W.runS (As := [.int j]) (rest := []) ⟨hx, hb, hml, hown, hT⟩ (cX_requireTimerNumber l j hj) (cwS 1 hT (tw_gS tt_55 tt_56 tt_1 tt_57) rfl rfl rfl ⟨rfl, by decide +kernel⟩ ⟨Nat.le_of_ble_eq_true rfl, Nat.le_of_ble_eq_true rfl⟩) ⟨fun a U g mk q => q, fun U hU hW => ⟨rfl, trivial⟩⟩ rfl rfl hl.1 rfl (lv_room (Nat.le_of_ble_eq_true rfl)) dX_timer_1 ⟨Nat.le_of_ble_eq_true rfl, Nat.le_of_ble_eq_true rfl⟩) (fun _ => ?_)
  refine lv_iload_n hx hb dX_timer_4 rfl (lv_at hl 2 rfl) ?_
  refine lv_if_lt (tgt := 13) hx hb dX_timer_5 (by decide) (fun hc1 => absurd hc1 (by decide)) (fun hc1 => ?_)
  refine lv_iload_n hx hb dX_timer_8 rfl (lv_at hl 2 rfl) ?_
  refine lv_iconst (v := 3) hx hb dX_timer_9 (by decide) ?_
  refine lv_icmp_le (tgt := 23) hx hb dX_timer_10 (by decide) (fun hc2 => ?_) (fun hc2 => absurd (by decide) hc2)
  refine lv_aload_n hx hb dX_timer_23 rfl (lv_at hl 0 rfl) ?_
  refine va_get (D := (dC, dI)) (ci := 0) (v := .ref a0) (C := RX) (T := FX) (N := 6) hx hb hT in_X hown hK hP 0 rfl rfl 0 (by decide) (hT _ tt_16) (fun _ h9 => h9) rfl dX_timer_24 ?_
  refine lv_iload_n hx hb dX_timer_27 rfl (lv_at hl 1 rfl) ?_
  refine va_zald hx hb hK hP 1 0 rfl rfl hj dX_timer_28 ?_
  refine lv_if_ne (tgt := 34) hx hb dX_timer_29 (by decide) (fun hc3 => ?_) (fun hc3 => ?_)
  · -- taken at 29: ¬ th j.toNatClampNeg = 0
    refine lv_iload_n hx hb dX_timer_34 rfl (lv_at hl 2 rfl) ?_
    refine lv_tableOut (tgt := 91) hx hb dX_timer_35 (by decide) (by decide) ?_
    refine lv_aload_n hx hb dX_timer_91 rfl (lv_at hl 0 rfl) ?_
    refine va_get (D := (dC, dI)) (ci := 0) (v := .ref a3) (C := RX) (T := FX) (N := 6) hx hb hT in_X hown hK hP 0 rfl rfl 3 (by decide) (hT _ tt_19) (fun _ h9 => h9) rfl dX_timer_92 ?_
    refine lv_iload_n hx hb dX_timer_95 rfl (lv_at hl 1 rfl) ?_
    refine va_iald hx hb hK hP 4 3 rfl rfl hj dX_timer_96 ?_
    refine lv_i2l hx hb dX_timer_97 rfl ?_
    exact W.lret hx hb hr (fun t ht hW => ⟨_, rfl, by rw [if_neg hc3], ht⟩) (fun q hq => by cases hq) dX_timer_98
  · -- not taken at 29: ¬ th j.toNatClampNeg = 0
    refine lv_lconst (v := 0) hx hb dX_timer_32 (by decide) ?_
    exact W.lret hx hb hr (fun t ht hW => ⟨_, rfl, by rw [if_pos hc3], ht⟩) (fun q hq => by cases hq) dX_timer_33
set_option maxHeartbeats 4000000 in
set_option maxRecDepth 100000 in
theorem eX_timer (l : Launch) (hfl : l.flags = pinnedFlags ++ [noTraceFlag]) (dC : Nat → ClassId) (dI : Nat → Nat → Nat) (h0 a0 a1 a2 a3 : Nat) (k0 k1 k2 k3 : ClassId) (th : Nat → Int32) (tm : Nat → Int64) (pr ag : Nat → Int32) (ck : Int64) (nx : Int32) (j k : Int32) (hbad : ¬ (vp_in j 100 ∧ ¬ k < 0 ∧ k ≤ 3)) : xt_Met l yX_timer (Cond.code yX_timer bX_timer 3 (some .long) :: tw_T) { frames := 7, cells := 1, slots := 6, locals := 120 } (va_Pc [.ref h0, .int j, .int k] (fun U => tw_PX dC dI h0 a0 a1 a2 a3 k0 k1 k2 k3 th tm pr ag ck nx U ∧ tw_Z U U.heap)) (tw_thr tw_iae) 1 6 (fun _ => False) := by
  refine xt_ofW (cc := bX_timer) (maxL := 3) (ret := some .long) (by decide) rfl ?_
  intro p e s m args below meth c s₁ B hml hout hadm hv
  obtain ⟨rfl, ⟨hP, hK⟩, hZ⟩ := hv
  have hx := B.exec
  have hb := B.bytes
  have hr := B.returns
  have hT := fun (w : Cond) (h : w ∈ tw_T) => atoms_spec (ws := Cond.code yX_timer bX_timer 3 (some .long) :: tw_T) B.pre w (List.mem_cons_of_mem _ h)
  have hown : s.vm.findClass RX = some m.cls := findClass_of_methodNamed B.named
  have hlocks := B.notSynchronized
  have hl := lv_entry ([.ref h0, .int j, .int k]) (n := 3) (Nat.le_of_ble_eq_true rfl)
  rw [lg_entry_eq]
  generalize (lg_sl ([.ref h0, .int j, .int k]) ++ List.replicate (3 - (lg_sl ([.ref h0, .int j, .int k])).length) Slot.unset).toArray = ls at hl ⊢
  have hl : lv_has ls 3 [(0, .ref h0), (1, .int j), (2, .int k)] := hl
  have htr := Launch.traces_off hfl hadm
  by_cases hj : vp_in j 100
  · -- a TIMER
    refine lv_iload_n hx hb dX_timer_0 rfl (lv_at hl 1 rfl) ?_
    refine va_csv (W.runS (As := [.int j]) (rest := []) ⟨hx, hb, hml, hown, hT⟩ (cX_requireTimerNumber l j hj) (cwS 1 hT (tw_gS tt_55 tt_56 tt_1 tt_57) rfl rfl rfl ⟨rfl, by decide +kernel⟩ ⟨Nat.le_of_ble_eq_true rfl, Nat.le_of_ble_eq_true rfl⟩) ⟨fun a U g mk q => q, fun U hU hW => ⟨rfl, trivial⟩⟩ rfl rfl hl.1 rfl (lv_room (Nat.le_of_ble_eq_true rfl)) dX_timer_1 ⟨Nat.le_of_ble_eq_true rfl, Nat.le_of_ble_eq_true rfl⟩) (fun _ => ?_)
    refine lv_iload_n hx hb dX_timer_4 rfl (lv_at hl 2 rfl) ?_
    refine lv_if_lt (tgt := 13) hx hb dX_timer_5 (by decide) (fun hc1 => ?_) (fun hc1 => ?_)
    · -- taken at 5: k < 0
      obtain ⟨q9, hq9⟩ := hZ.1 (77, "what is 0 .. 3") (by decide)
      exact xt_throw (tx := "what is 0 .. 3") (names := tw_nm) (q0 := q9) (E := tw_iae) hx hb htr hown (by decide +kernel) (by decide +kernel) (hT _ tt_58) (hT _ tt_6) hq9 (tw_ownA hT hZ) (hl.1.trans hml.symm) dX_timer_13 dX_timer_16 dX_timer_17 dX_timer_19 dX_timer_22 (fun x hx9 => hout x hx9 _) (Nat.le_of_ble_eq_true rfl) (Nat.le_of_ble_eq_true rfl) (Nat.le_of_ble_eq_true rfl) (Nat.le_of_ble_eq_true rfl) hlocks (fun t hW hE => ⟨_, rfl, hE⟩)
    · -- not taken at 5: k < 0
      refine lv_iload_n hx hb dX_timer_8 rfl (lv_at hl 2 rfl) ?_
      refine lv_iconst (v := 3) hx hb dX_timer_9 (by decide) ?_
      refine lv_icmp_le (tgt := 23) hx hb dX_timer_10 (by decide) (fun hc2 => absurd hc2 (fun z => hbad ⟨hj, hc1, z⟩)) (fun hc2 => ?_)
      obtain ⟨q9, hq9⟩ := hZ.1 (77, "what is 0 .. 3") (by decide)
      exact xt_throw (tx := "what is 0 .. 3") (names := tw_nm) (q0 := q9) (E := tw_iae) hx hb htr hown (by decide +kernel) (by decide +kernel) (hT _ tt_58) (hT _ tt_6) hq9 (tw_ownA hT hZ) (hl.1.trans hml.symm) dX_timer_13 dX_timer_16 dX_timer_17 dX_timer_19 dX_timer_22 (fun x hx9 => hout x hx9 _) (Nat.le_of_ble_eq_true rfl) (Nat.le_of_ble_eq_true rfl) (Nat.le_of_ble_eq_true rfl) (Nat.le_of_ble_eq_true rfl) hlocks (fun t hW hE => ⟨_, rfl, hE⟩)
  · -- no TIMER
    refine lv_iload_n hx hb dX_timer_0 rfl (lv_at hl 1 rfl) ?_
    refine xt_call (xt_runS (As := [.int j]) (rest := []) ⟨hx, hb, hml, hown, hT⟩ (eX_requireTimerNumber l hfl j hj) (cwS 1 hT (tw_gS tt_55 tt_56 tt_1 tt_57) rfl rfl rfl ⟨rfl, by decide +kernel⟩ ⟨Nat.le_of_ble_eq_true rfl, Nat.le_of_ble_eq_true rfl⟩) ⟨fun a U g mk q => ⟨q.1, q.2.call⟩, fun U hU hW => ⟨rfl, hZ.at hU hW⟩⟩ rfl rfl hl.1 rfl (lv_room (Nat.le_of_ble_eq_true rfl)) dX_timer_1 ⟨Nat.le_of_ble_eq_true rfl, Nat.le_of_ble_eq_true rfl⟩) (fun v st₀ t H1 L _ _ _ _ _ hq => ?_) (fun q st₀ t H1 L e1 e2 e3 e4 hL hq => ?_)
    · obtain ⟨q2, hq1, -⟩ := hq
      cases hq1
    · obtain ⟨q2, hq1, hE⟩ := hq
      cases hq1
      exact xt_out (fun x hx9 => hout x hx9 _) hlocks (fun t2 ht2 hW => ⟨_, rfl, hE.of e2 e1 (ht2.trans e3.symm)⟩) (fun z hz => hL z (by simpa using hz)) (Nat.le_refl _) (Nat.le_refl _)
set_option maxHeartbeats 4000000 in
set_option maxRecDepth 100000 in
theorem cX_count0 (l : Launch) (dC : Nat → ClassId) (dI : Nat → Nat → Nat) (h0 a0 a1 a2 a3 : Nat) (k0 k1 k2 k3 : ClassId) (th : Nat → Int32) (tm : Nat → Int64) (pr ag : Nat → Int32) (ck : Int64) (nx : Int32)  : Met l yX_count (Cond.code yX_count bX_count 2 (some .long) :: tw_T) { frames := 2, cells := 0, slots := 0, locals := 80 } (va_Pc [.ref h0, .int 0] (tw_PX dC dI h0 a0 a1 a2 a3 k0 k1 k2 k3 th tm pr ag ck nx)) (vp_Sl (fun r => r = ck)) 0 0 (fun _ => False) := by
  refine Met.ofW (cc := bX_count) (maxL := 2) (ret := some .long) (by decide) rfl ?_
  intro p e s m args below meth c s₁ B hml hv
  obtain ⟨rfl, hP, hK⟩ := hv
  have hx := B.exec
  have hb := B.bytes
  have hr := B.returns
  have hT := fun (w : Cond) (h : w ∈ tw_T) => atoms_spec (ws := Cond.code yX_count bX_count 2 (some .long) :: tw_T) B.pre w (List.mem_cons_of_mem _ h)
  have hown : s.vm.findClass RX = some m.cls := findClass_of_methodNamed B.named
  have hlocks := B.notSynchronized
  have hl := lv_entry ([.ref h0, .int 0]) (n := 2) (Nat.le_of_ble_eq_true rfl)
  rw [lg_entry_eq]
  generalize (lg_sl ([.ref h0, .int 0]) ++ List.replicate (2 - (lg_sl ([.ref h0, .int 0])).length) Slot.unset).toArray = ls at hl ⊢
  have hl : lv_has ls 2 [(0, .ref h0), (1, .int 0)] := hl
  refine lv_iload_n hx hb dX_count_0 rfl (lv_at hl 1 rfl) ?_
  refine lv_tableIn (off := 27) (tgt := 28) hx hb dX_count_1 (by decide) (by decide) (by decide +kernel) (by decide) ?_
  refine lv_aload_n hx hb dX_count_28 rfl (lv_at hl 0 rfl) ?_
  refine va_get (D := (dC, dI)) (ci := 0) (v := .long ck) (C := RX) (T := FX) (N := 6) hx hb hT in_X hown hK hP 0 rfl rfl 4 (by decide) (hT _ tt_20) (fun _ h9 => h9) rfl dX_count_29 ?_
  exact W.lret hx hb hr (fun t ht hW => ⟨_, rfl, rfl, ht⟩) (fun q hq => by cases hq) dX_count_32
set_option maxHeartbeats 4000000 in
set_option maxRecDepth 100000 in
theorem cX_count1 (l : Launch) (dC : Nat → ClassId) (dI : Nat → Nat → Nat) (h0 a0 a1 a2 a3 : Nat) (k0 k1 k2 k3 : ClassId) (th : Nat → Int32) (tm : Nat → Int64) (pr ag : Nat → Int32) (ck : Int64) (nx : Int32)  : Met l yX_count (Cond.code yX_count bX_count 2 (some .long) :: tw_T) { frames := 2, cells := 0, slots := 0, locals := 80 } (va_Pc [.ref h0, .int 1] (tw_PX dC dI h0 a0 a1 a2 a3 k0 k1 k2 k3 th tm pr ag ck nx)) (vp_Sl (fun r => r = (tw_ther th 100).toInt64)) 0 0 (fun _ => False) := by
  refine Met.ofW (cc := bX_count) (maxL := 2) (ret := some .long) (by decide) rfl ?_
  intro p e s m args below meth c s₁ B hml hv
  obtain ⟨rfl, hP, hK⟩ := hv
  have hx := B.exec
  have hb := B.bytes
  have hr := B.returns
  have hT := fun (w : Cond) (h : w ∈ tw_T) => atoms_spec (ws := Cond.code yX_count bX_count 2 (some .long) :: tw_T) B.pre w (List.mem_cons_of_mem _ h)
  have hown : s.vm.findClass RX = some m.cls := findClass_of_methodNamed B.named
  have hlocks := B.notSynchronized
  have hl := lv_entry ([.ref h0, .int 1]) (n := 2) (Nat.le_of_ble_eq_true rfl)
  rw [lg_entry_eq]
  generalize (lg_sl ([.ref h0, .int 1]) ++ List.replicate (2 - (lg_sl ([.ref h0, .int 1])).length) Slot.unset).toArray = ls at hl ⊢
  have hl : lv_has ls 2 [(0, .ref h0), (1, .int 1)] := hl
  refine lv_iload_n hx hb dX_count_0 rfl (lv_at hl 1 rfl) ?_
  refine lv_tableIn (off := 32) (tgt := 33) hx hb dX_count_1 (by decide) (by decide) (by decide +kernel) (by decide) ?_
  refine lv_aload_n hx hb dX_count_33 rfl (lv_at hl 0 rfl) ?_
  refine vp_callSi (W.runV (C := RX) (b := h0) (As := []) (rest := []) ⟨hx, hb, hml, hown, hT⟩ (cX_countThere l dC dI h0 a0 a1 a2 a3 k0 k1 k2 k3 th tm pr ag ck nx) (cwV 0 hT (tw_gV tt_206 tt_208 tp_X_countThere tt_1 tt_209) rfl rfl rfl ⟨rfl, by decide +kernel⟩ ⟨Nat.le_of_ble_eq_true rfl, Nat.le_of_ble_eq_true rfl⟩) ⟨fun a U g mk q => ⟨q.1, q.2.1, va_K.moved (u := U) (U := U.calling g mk a) (Vm.Alike.refl U.vm) q.2.2⟩, va_recv (q0 := 0) (ci := 0) hK hP rfl rfl, fun U hU hW => ⟨rfl, by rw [hU]; exact hP, va_K.moved hW.alike hK⟩⟩ rfl rfl hl.1 rfl (lv_room (Nat.le_of_ble_eq_true rfl)) dX_count_34 ⟨Nat.le_of_ble_eq_true rfl, Nat.le_of_ble_eq_true rfl⟩) (fun r2 h2 => ?_)
  subst h2
  refine lv_i2l hx hb dX_count_37 rfl ?_
  exact W.lret hx hb hr (fun t ht hW => ⟨_, rfl, rfl, ht⟩) (fun q hq => by cases hq) dX_count_38
set_option maxHeartbeats 4000000 in
set_option maxRecDepth 100000 in
theorem cX_count2 (l : Launch) (dC : Nat → ClassId) (dI : Nat → Nat → Nat) (h0 a0 a1 a2 a3 : Nat) (k0 k1 k2 k3 : ClassId) (th : Nat → Int32) (tm : Nat → Int64) (pr ag : Nat → Int32) (ck : Int64) (nx : Int32)  : Met l yX_count (Cond.code yX_count bX_count 2 (some .long) :: tw_T) { frames := 2, cells := 0, slots := 0, locals := 80 } (va_Pc [.ref h0, .int 2] (tw_PX dC dI h0 a0 a1 a2 a3 k0 k1 k2 k3 th tm pr ag ck nx)) (vp_Sl (fun r => r = (tw_dues th tm ck 100).toInt64)) 0 0 (fun _ => False) := by
  refine Met.ofW (cc := bX_count) (maxL := 2) (ret := some .long) (by decide) rfl ?_
  intro p e s m args below meth c s₁ B hml hv
  obtain ⟨rfl, hP, hK⟩ := hv
  have hx := B.exec
  have hb := B.bytes
  have hr := B.returns
  have hT := fun (w : Cond) (h : w ∈ tw_T) => atoms_spec (ws := Cond.code yX_count bX_count 2 (some .long) :: tw_T) B.pre w (List.mem_cons_of_mem _ h)
  have hown : s.vm.findClass RX = some m.cls := findClass_of_methodNamed B.named
  have hlocks := B.notSynchronized
  have hl := lv_entry ([.ref h0, .int 2]) (n := 2) (Nat.le_of_ble_eq_true rfl)
  rw [lg_entry_eq]
  generalize (lg_sl ([.ref h0, .int 2]) ++ List.replicate (2 - (lg_sl ([.ref h0, .int 2])).length) Slot.unset).toArray = ls at hl ⊢
  have hl : lv_has ls 2 [(0, .ref h0), (1, .int 2)] := hl
  refine lv_iload_n hx hb dX_count_0 rfl (lv_at hl 1 rfl) ?_
  refine lv_tableIn (off := 38) (tgt := 39) hx hb dX_count_1 (by decide) (by decide) (by decide +kernel) (by decide) ?_
  refine lv_aload_n hx hb dX_count_39 rfl (lv_at hl 0 rfl) ?_
  refine vp_callSi (W.runV (C := RX) (b := h0) (As := []) (rest := []) ⟨hx, hb, hml, hown, hT⟩ (cX_countDue l dC dI h0 a0 a1 a2 a3 k0 k1 k2 k3 th tm pr ag ck nx) (cwV 0 hT (tw_gV tt_177 tt_179 tp_X_countDue tt_1 tt_180) rfl rfl rfl ⟨rfl, by decide +kernel⟩ ⟨Nat.le_of_ble_eq_true rfl, Nat.le_of_ble_eq_true rfl⟩) ⟨fun a U g mk q => ⟨q.1, q.2.1, va_K.moved (u := U) (U := U.calling g mk a) (Vm.Alike.refl U.vm) q.2.2⟩, va_recv (q0 := 0) (ci := 0) hK hP rfl rfl, fun U hU hW => ⟨rfl, by rw [hU]; exact hP, va_K.moved hW.alike hK⟩⟩ rfl rfl hl.1 rfl (lv_room (Nat.le_of_ble_eq_true rfl)) dX_count_40 ⟨Nat.le_of_ble_eq_true rfl, Nat.le_of_ble_eq_true rfl⟩) (fun r2 h2 => ?_)
  subst h2
  refine lv_i2l hx hb dX_count_43 rfl ?_
  exact W.lret hx hb hr (fun t ht hW => ⟨_, rfl, rfl, ht⟩) (fun q hq => by cases hq) dX_count_44
set_option maxHeartbeats 4000000 in
set_option maxRecDepth 100000 in
theorem eX_count (l : Launch) (hfl : l.flags = pinnedFlags ++ [noTraceFlag]) (dC : Nat → ClassId) (dI : Nat → Nat → Nat) (h0 a0 a1 a2 a3 : Nat) (k0 k1 k2 k3 : ClassId) (th : Nat → Int32) (tm : Nat → Int64) (pr ag : Nat → Int32) (ck : Int64) (nx : Int32) (k : Int32) (hbad : k.toInt < 0 ∨ 2 < k.toInt) : xt_Met l yX_count (Cond.code yX_count bX_count 2 (some .long) :: tw_T) { frames := 7, cells := 1, slots := 6, locals := 120 } (va_Pc [.ref h0, .int k] (fun U => tw_PX dC dI h0 a0 a1 a2 a3 k0 k1 k2 k3 th tm pr ag ck nx U ∧ tw_Z U U.heap)) (tw_thr tw_iae) 1 6 (fun _ => False) := by
  refine xt_ofW (cc := bX_count) (maxL := 2) (ret := some .long) (by decide) rfl ?_
  intro p e s m args below meth c s₁ B hml hout hadm hv
  obtain ⟨rfl, ⟨hP, hK⟩, hZ⟩ := hv
  have hx := B.exec
  have hb := B.bytes
  have hr := B.returns
  have hT := fun (w : Cond) (h : w ∈ tw_T) => atoms_spec (ws := Cond.code yX_count bX_count 2 (some .long) :: tw_T) B.pre w (List.mem_cons_of_mem _ h)
  have hown : s.vm.findClass RX = some m.cls := findClass_of_methodNamed B.named
  have hlocks := B.notSynchronized
  have hl := lv_entry ([.ref h0, .int k]) (n := 2) (Nat.le_of_ble_eq_true rfl)
  rw [lg_entry_eq]
  generalize (lg_sl ([.ref h0, .int k]) ++ List.replicate (2 - (lg_sl ([.ref h0, .int k])).length) Slot.unset).toArray = ls at hl ⊢
  have hl : lv_has ls 2 [(0, .ref h0), (1, .int k)] := hl
  have htr := Launch.traces_off hfl hadm
  refine lv_iload_n hx hb dX_count_0 rfl (lv_at hl 1 rfl) ?_
  refine lv_tableOut (tgt := 45) hx hb dX_count_1 hbad (by decide) ?_
  obtain ⟨q9, hq9⟩ := hZ.1 (84, "what is 0 .. 2") (by decide)
  exact xt_throw (tx := "what is 0 .. 2") (names := tw_nm) (q0 := q9) (E := tw_iae) hx hb htr hown (by decide +kernel) (by decide +kernel) (hT _ tt_58) (hT _ tt_6) hq9 (tw_ownA hT hZ) (hl.1.trans hml.symm) dX_count_45 dX_count_48 dX_count_49 dX_count_51 dX_count_54 (fun x hx9 => hout x hx9 _) (Nat.le_of_ble_eq_true rfl) (Nat.le_of_ble_eq_true rfl) (Nat.le_of_ble_eq_true rfl) (Nat.le_of_ble_eq_true rfl) hlocks (fun t hW hE => ⟨_, rfl, hE⟩)
end
section
/-! The reference, methods that only read, and its loops. Rows laid by our own program (wip/gen/gm.py). -/
abbrev tw_wM (h0 a0 a1 a2 a3 : Nat) (k0 k1 k2 k3 : ClassId) (fl : Int32) (th : Nat → Int32) (tm : Nat → Int64) (pr ag : Nat → Int32) (ck : Int64) (nx : Int32) : va_W := [(h0, .inr (1, [.int fl, .ref a0, .ref a1, .ref a2, .ref a3, .int nx, .long ck])), (a0, .inl (k0, 100, .inl th)), (a1, .inl (k1, 100, .inr (.inl tm))), (a2, .inl (k2, 100, .inl pr)), (a3, .inl (k3, 100, .inl ag))]
abbrev tw_PM (dC : Nat → ClassId) (dI : Nat → Nat → Nat) (h0 a0 a1 a2 a3 : Nat) (k0 k1 k2 k3 : ClassId) (fl : Int32) (th : Nat → Int32) (tm : Nat → Int64) (pr ag : Nat → Int32) (ck : Int64) (nx : Int32) (U : State) : Prop := va_P (dC, dI) tw_cl (tw_wM h0 a0 a1 a2 a3 k0 k1 k2 k3 fl th tm pr ag ck nx) U.heap ∧ va_K (dC, dI) tw_cl (tw_k k0 k1 k2 k3) U
set_option maxHeartbeats 4000000 in
set_option maxRecDepth 100000 in
theorem cM_thrown (l : Launch) (dC : Nat → ClassId) (dI : Nat → Nat → Nat) (h0 a0 a1 a2 a3 : Nat) (k0 k1 k2 k3 : ClassId) (fl : Int32) (th : Nat → Int32) (tm : Nat → Int64) (pr ag : Nat → Int32) (ck : Int64) (nx : Int32)  : Met l yM_thrown (Cond.code yM_thrown bM_thrown 1 (some .int) :: tw_T) { frames := 0, cells := 0, slots := 0, locals := 0 } (va_Pc [.ref h0] (tw_PM dC dI h0 a0 a1 a2 a3 k0 k1 k2 k3 fl th tm pr ag ck nx)) (vp_Si (fun r => r = fl)) 0 0 (fun _ => False) := by
  refine Met.ofW (cc := bM_thrown) (maxL := 1) (ret := some .int) (by decide) rfl ?_
  intro p e s m args below meth c s₁ B hml hv
  obtain ⟨rfl, hP, hK⟩ := hv
  have hx := B.exec
  have hb := B.bytes
  have hr := B.returns
  have hT := fun (w : Cond) (h : w ∈ tw_T) => atoms_spec (ws := Cond.code yM_thrown bM_thrown 1 (some .int) :: tw_T) B.pre w (List.mem_cons_of_mem _ h)
  have hown : s.vm.findClass RM = some m.cls := findClass_of_methodNamed B.named
  have hlocks := B.notSynchronized
  have hl := lv_entry ([.ref h0]) (n := 1) (Nat.le_of_ble_eq_true rfl)
  rw [lg_entry_eq]
  generalize (lg_sl ([.ref h0]) ++ List.replicate (1 - (lg_sl ([.ref h0])).length) Slot.unset).toArray = ls at hl ⊢
  have hl : lv_has ls 1 [(0, .ref h0)] := hl
  refine lv_aload_n hx hb dM_thrown_0 rfl (lv_at hl 0 rfl) ?_
  refine va_get (D := (dC, dI)) (ci := 1) (v := .int fl) (C := RM) (T := FM) (N := 7) hx hb hT in_M hown hK hP 0 rfl rfl 0 (by decide) (hT _ tt_217) (fun _ h9 => h9) rfl dM_thrown_1 ?_
  exact W.iret hx hb hr (fun t ht hW => ⟨_, rfl, rfl, ht⟩) (fun q hq => by cases hq) dM_thrown_4
set_option maxHeartbeats 4000000 in
set_option maxRecDepth 100000 in
theorem cM_due (l : Launch) (dC : Nat → ClassId) (dI : Nat → Nat → Nat) (h0 a0 a1 a2 a3 : Nat) (k0 k1 k2 k3 : ClassId) (fl : Int32) (th : Nat → Int32) (tm : Nat → Int64) (pr ag : Nat → Int32) (ck : Int64) (nx : Int32) (i : Int32) (hi : vp_in i 100) : Met l yM_due (Cond.code yM_due bM_due 2 (some .boolean) :: tw_T) { frames := 0, cells := 0, slots := 0, locals := 0 } (va_Pc [.ref h0, .int i] (tw_PM dC dI h0 a0 a1 a2 a3 k0 k1 k2 k3 fl th tm pr ag ck nx)) (vp_Si (fun r => r = tw_bz (tw_due th tm ck i))) 0 0 (fun _ => False) := by
  refine Met.ofW (cc := bM_due) (maxL := 2) (ret := some .boolean) (by decide) rfl ?_
  intro p e s m args below meth c s₁ B hml hv
  obtain ⟨rfl, hP, hK⟩ := hv
  have hx := B.exec
  have hb := B.bytes
  have hr := B.returns
  have hT := fun (w : Cond) (h : w ∈ tw_T) => atoms_spec (ws := Cond.code yM_due bM_due 2 (some .boolean) :: tw_T) B.pre w (List.mem_cons_of_mem _ h)
  have hown : s.vm.findClass RM = some m.cls := findClass_of_methodNamed B.named
  have hlocks := B.notSynchronized
  have hl := lv_entry ([.ref h0, .int i]) (n := 2) (Nat.le_of_ble_eq_true rfl)
  rw [lg_entry_eq]
  generalize (lg_sl ([.ref h0, .int i]) ++ List.replicate (2 - (lg_sl ([.ref h0, .int i])).length) Slot.unset).toArray = ls at hl ⊢
  have hl : lv_has ls 2 [(0, .ref h0), (1, .int i)] := hl
  refine lv_aload_n hx hb dM_due_0 rfl (lv_at hl 0 rfl) ?_
  refine va_get (D := (dC, dI)) (ci := 1) (v := .ref a0) (C := RM) (T := FM) (N := 7) hx hb hT in_M hown hK hP 0 rfl rfl 1 (by decide) (hT _ tt_218) (fun _ h9 => h9) rfl dM_due_1 ?_
  refine lv_iload_n hx hb dM_due_4 rfl (lv_at hl 1 rfl) ?_
  refine va_zald hx hb hK hP 1 0 rfl rfl hi dM_due_5 ?_
  refine lv_if_eq (tgt := 27) hx hb dM_due_6 (by decide) (fun hc1 => ?_) (fun hc1 => ?_)
  · -- taken at 6: th i.toNatClampNeg = 0
    refine lv_iconst (v := 0) hx hb dM_due_27 (by decide) ?_
    exact W.zret (v := 0) hx hb hr rfl (fun t ht hW => ⟨0, rfl, by rw [tw_due_f1 hc1]; rfl, ht⟩) (fun q hq => by cases hq) dM_due_28
  · -- not taken at 6: th i.toNatClampNeg = 0
    refine lv_aload_n hx hb dM_due_9 rfl (lv_at hl 0 rfl) ?_
    refine va_get (D := (dC, dI)) (ci := 1) (v := .ref a1) (C := RM) (T := FM) (N := 7) hx hb hT in_M hown hK hP 0 rfl rfl 2 (by decide) (hT _ tt_219) (fun _ h9 => h9) rfl dM_due_10 ?_
    refine lv_iload_n hx hb dM_due_13 rfl (lv_at hl 1 rfl) ?_
    refine va_lald hx hb hK hP 2 1 rfl rfl hi dM_due_14 ?_
    refine lv_aload_n hx hb dM_due_15 rfl (lv_at hl 0 rfl) ?_
    refine va_get (D := (dC, dI)) (ci := 1) (v := .long ck) (C := RM) (T := FM) (N := 7) hx hb hT in_M hown hK hP 0 rfl rfl 6 (by decide) (hT _ tt_223) (fun _ h9 => h9) rfl dM_due_16 ?_
    refine W.lcmp hx hb dM_due_19 ?_
    refine lv_if_gt (tgt := 27) hx hb dM_due_20 (by decide) (fun hc2 => ?_) (fun hc2 => ?_)
    · -- taken at 20: lg_cmp (tm i.toNatClampNeg) ck > 0
      refine lv_iconst (v := 0) hx hb dM_due_27 (by decide) ?_
      exact W.zret (v := 0) hx hb hr rfl (fun t ht hW => ⟨0, rfl, by rw [tw_due_f2 (Int64.not_le.mpr ((lg_cmp_gt _ _).mp hc2))]; rfl, ht⟩) (fun q hq => by cases hq) dM_due_28
    · -- not taken at 20: lg_cmp (tm i.toNatClampNeg) ck > 0
      refine lv_iconst (v := 1) hx hb dM_due_23 (by decide) ?_
      refine lv_goto (tgt := 28) hx hb dM_due_24 (by decide) ?_
      exact W.zret (v := 1) hx hb hr rfl (fun t ht hW => ⟨1, rfl, by rw [tw_due_t hc1 ((lg_cmp_le _ _).mp (Int32.not_lt.mp hc2))]; rfl, ht⟩) (fun q hq => by cases hq) dM_due_28
theorem tw_dues_f0 {th : Nat → Int32} {tm : Nat → Int64} {ck : Int64} {n : Nat} (h : tw_due th tm ck (nI n) = false) : tw_dues th tm ck n + 0 = tw_dues th tm ck (n + 1) := by simp [tw_dues, h]
theorem tw_ther_f0 {th : Nat → Int32} {n : Nat} (h : th (nI n).toNatClampNeg = 0) : tw_ther th n + 0 = tw_ther th (n + 1) := by simp [tw_ther, h]
section LMdues
variable {p : Program} {l : Launch} {e : Env} {R : Room} {s : State} {m : MethodId} {args : Array Value} {below : List Frame} {meth : Method} {c : Code} {H : Heap} {locs : List Loc} {cells slots : Nat} {Q : State → Prop}
set_option maxHeartbeats 4000000 in
set_option maxRecDepth 100000 in
theorem lpM_dues (dC : Nat → ClassId) (dI : Nat → Nat → Nat) (h0 a0 a1 a2 a3 : Nat) (k0 k1 k2 k3 : ClassId) (fl : Int32) (th : Nat → Int32) (tm : Nat → Int64) (pr ag : Nat → Int32) (ck : Int64) (nx : Int32) (hx : p.tables.exec = Jvm.exec) (hb : c.code = bM_dues) (hml : c.maxLocals = 3) (hT : ∀ w ∈ tw_T, w.before args s = true) (hown : s.vm.findClass RM = some m.cls) (hP : va_P (dC, dI) tw_cl (tw_wM h0 a0 a1 a2 a3 k0 k1 k2 k3 fl th tm pr ag ck nx) H) (hK : va_K (dC, dI) tw_cl (tw_k k0 k1 k2 k3) s) (hR : 1 ≤ R.frames ∧ 40 ≤ R.locals) (hc : cells + 0 ≤ R.cells ∧ slots + 0 ≤ R.slots) (kk : ∀ ls : Array Slot, lv_has ls 3 [(2, .int (nI 100)), (1, .int (tw_dues th tm ck 100)), (0, .ref h0)] → W p l e R s m args below meth c H locs cells slots Q (F0 m 32 ls [])) : ∀ (k n : Nat), n + k = 100 → ∀ ls : Array Slot, lv_has ls 3 [(2, .int (nI n)), (1, .int (tw_dues th tm ck n)), (0, .ref h0)] → W p l e R s m args below meth c H locs cells slots Q (F0 m 4 ls []) := by
  intro k
  induction k with
  | zero =>
    intro n hn ls hl
    have hn : n = 100 := by omega
    subst hn
    refine lv_iload_n hx hb dM_dues_4 rfl (lv_at hl 0 rfl) ?_
    refine lv_bipush (v := 100) hx hb dM_dues_5 (by decide) ?_
    refine lv_icmp_ge (tgt := 32) hx hb dM_dues_7 (by decide) (fun hc1 => ?_) (fun hc1 => absurd (by decide) hc1)
    exact kk ls hl
  | succ k ih =>
    intro n hn0 ls hl
    have hn : n < 100 := by omega
    refine lv_iload_n hx hb dM_dues_4 rfl (lv_at hl 0 rfl) ?_
    refine lv_bipush (v := 100) hx hb dM_dues_5 (by decide) ?_
    refine lv_icmp_ge (tgt := 32) hx hb dM_dues_7 (by decide) (fun hc1 => absurd hc1 (tw_lt100 hn)) (fun hc1 => ?_)
    refine lv_iload_n hx hb dM_dues_10 rfl (lv_at hl 1 rfl) ?_
    refine lv_aload_n hx hb dM_dues_11 rfl (lv_at hl 2 rfl) ?_
    refine lv_iload_n hx hb dM_dues_12 rfl (lv_at hl 0 rfl) ?_
    refine vp_callSi (W.runV (C := RM) (b := h0) (As := [.int (nI n)]) (rest := [.int (tw_dues th tm ck n)]) ⟨hx, hb, hml, hown, hT⟩ (cM_due l dC dI h0 a0 a1 a2 a3 k0 k1 k2 k3 fl th tm pr ag ck nx (nI n) (tw_in100 hn)) (cwV 1 hT (tw_gV tt_260 tt_262 tp_M_due tt_2 tt_263) rfl rfl rfl ⟨rfl, by decide +kernel⟩ ⟨Nat.le_trans (by decide) hR.1, Nat.le_trans (by decide) hR.2⟩) ⟨fun a U g mk q => ⟨q.1, q.2.1, va_K.moved (u := U) (U := U.calling g mk a) (Vm.Alike.refl U.vm) q.2.2⟩, va_recv (q0 := 0) (ci := 1) hK hP rfl rfl, fun U hU hW => ⟨rfl, by rw [hU]; exact hP, va_K.moved hW.alike hK⟩⟩ rfl rfl hl.1 rfl (lv_room (Nat.le_of_ble_eq_true rfl)) dM_dues_13 hc) (fun r1 h1 => ?_)
    subst h1
    refine lv_if_eq (tgt := 23) hx hb dM_dues_16 (by decide) (fun hc2 => ?_) (fun hc2 => ?_)
    · -- taken at 16: tw_bz (tw_due th tm ck (nI n)) = 0
      refine lv_iconst (v := 0) hx hb dM_dues_23 (by decide) ?_
      refine lv_iadd hx hb dM_dues_24 ?_
      refine lv_istore_n hx hb dM_dues_25 rfl hl (by decide) rfl (fun ls hl => ?_)
      have hl : lv_has ls 3 [(1, .int ((tw_dues th tm ck n) + 0)), (2, .int (nI n)), (0, .ref h0)] := hl
      refine lv_iinc (k := 1) hx hb dM_dues_26 hl rfl (nI_succ _).symm (by decide) rfl (fun ls hl => ?_)
      have hl : lv_has ls 3 [(2, .int (nI (n + 1))), (1, .int ((tw_dues th tm ck n) + 0)), (0, .ref h0)] := hl
      refine lv_goto (tgt := 4) hx hb dM_dues_29 (by decide) ?_
      rw [tw_dues_f0 (tw_bz0 hc2)] at hl
      exact ih (n + 1) (by omega) ls (lv_sub hl [0, 1, 2] rfl)
    · -- not taken at 16: tw_bz (tw_due th tm ck (nI n)) = 0
      refine lv_iconst (v := 1) hx hb dM_dues_19 (by decide) ?_
      refine lv_goto (tgt := 24) hx hb dM_dues_20 (by decide) ?_
      refine lv_iadd hx hb dM_dues_24 ?_
      refine lv_istore_n hx hb dM_dues_25 rfl hl (by decide) rfl (fun ls hl => ?_)
      have hl : lv_has ls 3 [(1, .int ((tw_dues th tm ck n) + 1)), (2, .int (nI n)), (0, .ref h0)] := hl
      refine lv_iinc (k := 1) hx hb dM_dues_26 hl rfl (nI_succ _).symm (by decide) rfl (fun ls hl => ?_)
      have hl : lv_has ls 3 [(2, .int (nI (n + 1))), (1, .int ((tw_dues th tm ck n) + 1)), (0, .ref h0)] := hl
      refine lv_goto (tgt := 4) hx hb dM_dues_29 (by decide) ?_
      rw [tw_dues_t (tw_bz1 hc2)] at hl
      exact ih (n + 1) (by omega) ls (lv_sub hl [0, 1, 2] rfl)
end LMdues
set_option maxHeartbeats 4000000 in
set_option maxRecDepth 100000 in
theorem cM_dues (l : Launch) (dC : Nat → ClassId) (dI : Nat → Nat → Nat) (h0 a0 a1 a2 a3 : Nat) (k0 k1 k2 k3 : ClassId) (fl : Int32) (th : Nat → Int32) (tm : Nat → Int64) (pr ag : Nat → Int32) (ck : Int64) (nx : Int32)  : Met l yM_dues (Cond.code yM_dues bM_dues 3 (some .int) :: tw_T) { frames := 1, cells := 0, slots := 0, locals := 40 } (va_Pc [.ref h0] (tw_PM dC dI h0 a0 a1 a2 a3 k0 k1 k2 k3 fl th tm pr ag ck nx)) (vp_Si (fun r => r = tw_dues th tm ck 100)) 0 0 (fun _ => False) := by
  refine Met.ofW (cc := bM_dues) (maxL := 3) (ret := some .int) (by decide) rfl ?_
  intro p e s m args below meth c s₁ B hml hv
  obtain ⟨rfl, hP, hK⟩ := hv
  have hx := B.exec
  have hb := B.bytes
  have hr := B.returns
  have hT := fun (w : Cond) (h : w ∈ tw_T) => atoms_spec (ws := Cond.code yM_dues bM_dues 3 (some .int) :: tw_T) B.pre w (List.mem_cons_of_mem _ h)
  have hown : s.vm.findClass RM = some m.cls := findClass_of_methodNamed B.named
  have hlocks := B.notSynchronized
  have hl := lv_entry ([.ref h0]) (n := 3) (Nat.le_of_ble_eq_true rfl)
  rw [lg_entry_eq]
  generalize (lg_sl ([.ref h0]) ++ List.replicate (3 - (lg_sl ([.ref h0])).length) Slot.unset).toArray = ls at hl ⊢
  have hl : lv_has ls 3 [(0, .ref h0)] := hl
  refine lv_iconst (v := 0) hx hb dM_dues_0 (by decide) ?_
  refine lv_istore_n hx hb dM_dues_1 rfl hl (by decide) rfl (fun ls hl => ?_)
  have hl : lv_has ls 3 [(1, .int 0), (0, .ref h0)] := hl
  refine lv_iconst (v := 0) hx hb dM_dues_2 (by decide) ?_
  refine lv_istore_n hx hb dM_dues_3 rfl hl (by decide) rfl (fun ls hl => ?_)
  have hl : lv_has ls 3 [(2, .int 0), (1, .int 0), (0, .ref h0)] := hl
  have hl : lv_has ls 3 [(2, .int 0), (1, .int 0), (0, .ref h0)] := hl
  refine lpM_dues dC dI h0 a0 a1 a2 a3 k0 k1 k2 k3 fl th tm pr ag ck nx hx hb hml hT hown hP hK ⟨Nat.le_refl _, Nat.le_refl _⟩ ⟨Nat.le_refl _, Nat.le_refl _⟩ (fun ls hl => ?_) 100 0 rfl ls (lv_sub hl [0, 1, 2] rfl)
  refine lv_iload_n hx hb dM_dues_32 rfl (lv_at hl 1 rfl) ?_
  exact W.iret hx hb hr (fun t ht hW => ⟨_, rfl, rfl, ht⟩) (fun q hq => by cases hq) dM_dues_33
theorem tw_first_neg {th : Nat → Int32} {tm : Nat → Int64} {pr ag : Nat → Int32} {ck : Int64} {n : Nat} (hn : n ≤ 100) : tw_first th tm pr ag ck n < 0 ↔ tw_first th tm pr ag ck n = -1 := by
  constructor
  · intro h
    rcases tw_first_in th tm pr ag ck n with h1 | ⟨k, hk, h1⟩
    · exact h1
    · rw [h1] at h
      exact absurd h (nI_pos (by omega))
  · intro h
    rw [h]; decide
theorem tw_bef_1 {tm : Nat → Int64} {pr ag : Nat → Int32} {a b : Int32} (h : tm a.toNatClampNeg < tm b.toNatClampNeg) : tw_bef tm pr ag a b = true := by
  have h1 : ¬ tm a.toNatClampNeg = tm b.toNatClampNeg := fun e => by rw [e] at h; exact Int64.lt_irrefl h
  simp [tw_bef, h, h1]
theorem tw_bef_2 {tm : Nat → Int64} {pr ag : Nat → Int32} {a b : Int32} (h : ¬ tm a.toNatClampNeg < tm b.toNatClampNeg) (h1 : ¬ tm a.toNatClampNeg = tm b.toNatClampNeg) : tw_bef tm pr ag a b = false := by simp [tw_bef, h, h1]
theorem tw_bef_3 {tm : Nat → Int64} {pr ag : Nat → Int32} {a b : Int32} (h1 : tm a.toNatClampNeg = tm b.toNatClampNeg) (h : pr a.toNatClampNeg > pr b.toNatClampNeg) : tw_bef tm pr ag a b = true := by
  have h2 : ¬ pr a.toNatClampNeg = pr b.toNatClampNeg := fun e => by rw [e] at h; exact Int32.lt_irrefl h
  simp [tw_bef, h1, h2]; exact h
theorem tw_bef_4 {tm : Nat → Int64} {pr ag : Nat → Int32} {a b : Int32} (h1 : tm a.toNatClampNeg = tm b.toNatClampNeg) (h : ¬ pr a.toNatClampNeg > pr b.toNatClampNeg) (h2 : ¬ pr a.toNatClampNeg = pr b.toNatClampNeg) : tw_bef tm pr ag a b = false := by
  simp [tw_bef, h1, h2]; exact Int32.not_lt.mp h
theorem tw_bef_5 {tm : Nat → Int64} {pr ag : Nat → Int32} {a b : Int32} (h1 : tm a.toNatClampNeg = tm b.toNatClampNeg) (h2 : pr a.toNatClampNeg = pr b.toNatClampNeg) (h : ag a.toNatClampNeg ≥ ag b.toNatClampNeg) : tw_bef tm pr ag a b = false := by
  simp [tw_bef, h1, h2]; exact h
theorem tw_bef_6 {tm : Nat → Int64} {pr ag : Nat → Int32} {a b : Int32} (h1 : tm a.toNatClampNeg = tm b.toNatClampNeg) (h2 : pr a.toNatClampNeg = pr b.toNatClampNeg) (h : ¬ ag a.toNatClampNeg ≥ ag b.toNatClampNeg) : tw_bef tm pr ag a b = true := by
  simp [tw_bef, h1, h2]; exact Int32.not_le.mp h
section LMtake
variable {p : Program} {l : Launch} {e : Env} {R : Room} {s : State} {m : MethodId} {args : Array Value} {below : List Frame} {meth : Method} {c : Code} {H : Heap} {locs : List Loc} {cells slots : Nat} {Q : State → Prop}
set_option maxHeartbeats 4000000 in
set_option maxRecDepth 100000 in
theorem lpM_take (dC : Nat → ClassId) (dI : Nat → Nat → Nat) (h0 a0 a1 a2 a3 : Nat) (k0 k1 k2 k3 : ClassId) (fl : Int32) (th : Nat → Int32) (tm : Nat → Int64) (pr ag : Nat → Int32) (ck : Int64) (nx : Int32) (hx : p.tables.exec = Jvm.exec) (hb : c.code = bM_take) (hml : c.maxLocals = 3) (hT : ∀ w ∈ tw_T, w.before args s = true) (hown : s.vm.findClass RM = some m.cls) (hP : va_P (dC, dI) tw_cl (tw_wM h0 a0 a1 a2 a3 k0 k1 k2 k3 fl th tm pr ag ck nx) H) (hK : va_K (dC, dI) tw_cl (tw_k k0 k1 k2 k3) s) (hR : 1 ≤ R.frames ∧ 40 ≤ R.locals) (hc : cells + 0 ≤ R.cells ∧ slots + 0 ≤ R.slots) (kk : ∀ ls : Array Slot, lv_has ls 3 [(2, .int (nI 100)), (1, .int (tw_first th tm pr ag ck 100)), (0, .ref h0)] → W p l e R s m args below meth c H locs cells slots Q (F0 m 115 ls [])) : ∀ (k n : Nat), n + k = 100 → ∀ ls : Array Slot, lv_has ls 3 [(2, .int (nI n)), (1, .int (tw_first th tm pr ag ck n)), (0, .ref h0)] → W p l e R s m args below meth c H locs cells slots Q (F0 m 9 ls []) := by
  intro k
  induction k with
  | zero =>
    intro n hn ls hl
    have hn : n = 100 := by omega
    subst hn
    refine lv_iload_n hx hb dM_take_9 rfl (lv_at hl 0 rfl) ?_
    refine lv_bipush (v := 100) hx hb dM_take_10 (by decide) ?_
    refine lv_icmp_ge (tgt := 115) hx hb dM_take_12 (by decide) (fun hc1 => ?_) (fun hc1 => absurd (by decide) hc1)
    exact kk ls hl
  | succ k ih =>
    intro n hn0 ls hl
    have hn : n < 100 := by omega
    refine lv_iload_n hx hb dM_take_9 rfl (lv_at hl 0 rfl) ?_
    refine lv_bipush (v := 100) hx hb dM_take_10 (by decide) ?_
    refine lv_icmp_ge (tgt := 115) hx hb dM_take_12 (by decide) (fun hc1 => absurd hc1 (tw_lt100 hn)) (fun hc1 => ?_)
    refine lv_aload_n hx hb dM_take_15 rfl (lv_at hl 2 rfl) ?_
    refine lv_iload_n hx hb dM_take_16 rfl (lv_at hl 0 rfl) ?_
    refine vp_callSi (W.runV (C := RM) (b := h0) (As := [.int (nI n)]) (rest := []) ⟨hx, hb, hml, hown, hT⟩ (cM_due l dC dI h0 a0 a1 a2 a3 k0 k1 k2 k3 fl th tm pr ag ck nx (nI n) (tw_in100 hn)) (cwV 1 hT (tw_gV tt_260 tt_262 tp_M_due tt_2 tt_263) rfl rfl rfl ⟨rfl, by decide +kernel⟩ ⟨Nat.le_trans (by decide) hR.1, Nat.le_trans (by decide) hR.2⟩) ⟨fun a U g mk q => ⟨q.1, q.2.1, va_K.moved (u := U) (U := U.calling g mk a) (Vm.Alike.refl U.vm) q.2.2⟩, va_recv (q0 := 0) (ci := 1) hK hP rfl rfl, fun U hU hW => ⟨rfl, by rw [hU]; exact hP, va_K.moved hW.alike hK⟩⟩ rfl rfl hl.1 rfl (lv_room (Nat.le_of_ble_eq_true rfl)) dM_take_17 hc) (fun r1 h1 => ?_)
    subst h1
    refine lv_if_ne (tgt := 26) hx hb dM_take_20 (by decide) (fun hc2 => ?_) (fun hc2 => ?_)
    · -- taken at 20: ¬ tw_bz (tw_due th tm ck (nI n)) = 0
      refine lv_iload_n hx hb dM_take_26 rfl (lv_at hl 1 rfl) ?_
      refine lv_if_lt (tgt := 107) hx hb dM_take_27 (by decide) (fun hc3 => ?_) (fun hc3 => ?_)
      · -- taken at 27: tw_first th tm pr ag ck n < 0
        refine lv_iload_n hx hb dM_take_107 rfl (lv_at hl 0 rfl) ?_
        refine lv_istore_n hx hb dM_take_108 rfl hl (by decide) rfl (fun ls hl => ?_)
        have hl : lv_has ls 3 [(1, .int (nI n)), (2, .int (nI n)), (0, .ref h0)] := hl
        refine lv_iinc (k := 1) hx hb dM_take_109 hl rfl (nI_succ _).symm (by decide) rfl (fun ls hl => ?_)
        have hl : lv_has ls 3 [(2, .int (nI (n + 1))), (1, .int (nI n)), (0, .ref h0)] := hl
        refine lv_goto (tgt := 9) hx hb dM_take_112 (by decide) ?_
        rw [tw_first_b (tw_bz1 hc2) ((tw_first_neg (Nat.le_of_lt hn)).mp hc3)] at hl
        exact ih (n + 1) (by omega) ls (lv_sub hl [0, 1, 2] rfl)
      · -- not taken at 27: tw_first th tm pr ag ck n < 0
        have hneg := hc3
        refine lv_aload_n hx hb dM_take_30 rfl (lv_at hl 2 rfl) ?_
        refine va_get (D := (dC, dI)) (ci := 1) (v := .ref a1) (C := RM) (T := FM) (N := 7) hx hb hT in_M hown hK hP 0 rfl rfl 2 (by decide) (hT _ tt_219) (fun _ h9 => h9) rfl dM_take_31 ?_
        refine lv_iload_n hx hb dM_take_34 rfl (lv_at hl 0 rfl) ?_
        refine va_lald hx hb hK hP 2 1 rfl rfl (tw_in100 hn) dM_take_35 ?_
        refine lv_aload_n hx hb dM_take_36 rfl (lv_at hl 2 rfl) ?_
        refine va_get (D := (dC, dI)) (ci := 1) (v := .ref a1) (C := RM) (T := FM) (N := 7) hx hb hT in_M hown hK hP 0 rfl rfl 2 (by decide) (hT _ tt_219) (fun _ h9 => h9) rfl dM_take_37 ?_
        refine lv_iload_n hx hb dM_take_40 rfl (lv_at hl 1 rfl) ?_
        refine va_lald hx hb hK hP 2 1 rfl rfl (tw_first_vp (Nat.le_of_lt hn) (fun z => hneg (( tw_first_neg (Nat.le_of_lt hn)).mpr z))) dM_take_41 ?_
        refine W.lcmp hx hb dM_take_42 ?_
        refine lv_if_lt (tgt := 107) hx hb dM_take_43 (by decide) (fun hc4 => ?_) (fun hc4 => ?_)
        · -- taken at 43: lg_cmp (tm (nI n).toNatClampNeg) (tm (tw_first th tm pr ag ck n).toNatClampNeg) < 0
          refine lv_iload_n hx hb dM_take_107 rfl (lv_at hl 0 rfl) ?_
          refine lv_istore_n hx hb dM_take_108 rfl hl (by decide) rfl (fun ls hl => ?_)
          have hl : lv_has ls 3 [(1, .int (nI n)), (2, .int (nI n)), (0, .ref h0)] := hl
          refine lv_iinc (k := 1) hx hb dM_take_109 hl rfl (nI_succ _).symm (by decide) rfl (fun ls hl => ?_)
          have hl : lv_has ls 3 [(2, .int (nI (n + 1))), (1, .int (nI n)), (0, .ref h0)] := hl
          refine lv_goto (tgt := 9) hx hb dM_take_112 (by decide) ?_
          rw [tw_first_c (tw_bz1 hc2) (tw_bef_1 ((lg_cmp_lt _ _).mp hc4))] at hl
          exact ih (n + 1) (by omega) ls (lv_sub hl [0, 1, 2] rfl)
        · -- not taken at 43: lg_cmp (tm (nI n).toNatClampNeg) (tm (tw_first th tm pr ag ck n).toNatClampNeg) < 0
          refine lv_aload_n hx hb dM_take_46 rfl (lv_at hl 2 rfl) ?_
          refine va_get (D := (dC, dI)) (ci := 1) (v := .ref a1) (C := RM) (T := FM) (N := 7) hx hb hT in_M hown hK hP 0 rfl rfl 2 (by decide) (hT _ tt_219) (fun _ h9 => h9) rfl dM_take_47 ?_
          refine lv_iload_n hx hb dM_take_50 rfl (lv_at hl 0 rfl) ?_
          refine va_lald hx hb hK hP 2 1 rfl rfl (tw_in100 hn) dM_take_51 ?_
          refine lv_aload_n hx hb dM_take_52 rfl (lv_at hl 2 rfl) ?_
          refine va_get (D := (dC, dI)) (ci := 1) (v := .ref a1) (C := RM) (T := FM) (N := 7) hx hb hT in_M hown hK hP 0 rfl rfl 2 (by decide) (hT _ tt_219) (fun _ h9 => h9) rfl dM_take_53 ?_
          refine lv_iload_n hx hb dM_take_56 rfl (lv_at hl 1 rfl) ?_
          refine va_lald hx hb hK hP 2 1 rfl rfl (tw_first_vp (Nat.le_of_lt hn) (fun z => hneg (( tw_first_neg (Nat.le_of_lt hn)).mpr z))) dM_take_57 ?_
          refine W.lcmp hx hb dM_take_58 ?_
          refine lv_if_ne (tgt := 109) hx hb dM_take_59 (by decide) (fun hc5 => ?_) (fun hc5 => ?_)
          · -- taken at 59: ¬ lg_cmp (tm (nI n).toNatClampNeg) (tm (tw_first th tm pr ag ck n).toNatClampNeg) = 0
            refine lv_iinc (k := 0) hx hb dM_take_109 hl rfl (nI_succ _).symm (by decide) rfl (fun ls hl => ?_)
            have hl : lv_has ls 3 [(2, .int (nI (n + 1))), (1, .int (tw_first th tm pr ag ck n)), (0, .ref h0)] := hl
            refine lv_goto (tgt := 9) hx hb dM_take_112 (by decide) ?_
            rw [tw_first_d (fun z => hc3 ((tw_first_neg (Nat.le_of_lt hn)).mpr z)) (tw_bef_2 (fun z => hc4 ((lg_cmp_lt _ _).mpr z)) (fun z => hc5 ((lg_cmp_eq _ _).mpr z)))] at hl
            exact ih (n + 1) (by omega) ls (lv_sub hl [0, 1, 2] rfl)
          · -- not taken at 59: ¬ lg_cmp (tm (nI n).toNatClampNeg) (tm (tw_first th tm pr ag ck n).toNatClampNeg) = 0
            refine lv_aload_n hx hb dM_take_62 rfl (lv_at hl 2 rfl) ?_
            refine va_get (D := (dC, dI)) (ci := 1) (v := .ref a2) (C := RM) (T := FM) (N := 7) hx hb hT in_M hown hK hP 0 rfl rfl 3 (by decide) (hT _ tt_220) (fun _ h9 => h9) rfl dM_take_63 ?_
            refine lv_iload_n hx hb dM_take_66 rfl (lv_at hl 0 rfl) ?_
            refine va_iald hx hb hK hP 3 2 rfl rfl (tw_in100 hn) dM_take_67 ?_
            refine lv_aload_n hx hb dM_take_68 rfl (lv_at hl 2 rfl) ?_
            refine va_get (D := (dC, dI)) (ci := 1) (v := .ref a2) (C := RM) (T := FM) (N := 7) hx hb hT in_M hown hK hP 0 rfl rfl 3 (by decide) (hT _ tt_220) (fun _ h9 => h9) rfl dM_take_69 ?_
            refine lv_iload_n hx hb dM_take_72 rfl (lv_at hl 1 rfl) ?_
            refine va_iald hx hb hK hP 3 2 rfl rfl (tw_first_vp (Nat.le_of_lt hn) (fun z => hneg (( tw_first_neg (Nat.le_of_lt hn)).mpr z))) dM_take_73 ?_
            refine lv_icmp_gt (tgt := 107) hx hb dM_take_74 (by decide) (fun hc6 => ?_) (fun hc6 => ?_)
            · -- taken at 74: pr (nI n).toNatClampNeg > pr (tw_first th tm pr ag ck n).toNatClampNeg
              refine lv_iload_n hx hb dM_take_107 rfl (lv_at hl 0 rfl) ?_
              refine lv_istore_n hx hb dM_take_108 rfl hl (by decide) rfl (fun ls hl => ?_)
              have hl : lv_has ls 3 [(1, .int (nI n)), (2, .int (nI n)), (0, .ref h0)] := hl
              refine lv_iinc (k := 1) hx hb dM_take_109 hl rfl (nI_succ _).symm (by decide) rfl (fun ls hl => ?_)
              have hl : lv_has ls 3 [(2, .int (nI (n + 1))), (1, .int (nI n)), (0, .ref h0)] := hl
              refine lv_goto (tgt := 9) hx hb dM_take_112 (by decide) ?_
              rw [tw_first_c (tw_bz1 hc2) (tw_bef_3 ((lg_cmp_eq _ _).mp hc5) hc6)] at hl
              exact ih (n + 1) (by omega) ls (lv_sub hl [0, 1, 2] rfl)
            · -- not taken at 74: pr (nI n).toNatClampNeg > pr (tw_first th tm pr ag ck n).toNatClampNeg
              refine lv_aload_n hx hb dM_take_77 rfl (lv_at hl 2 rfl) ?_
              refine va_get (D := (dC, dI)) (ci := 1) (v := .ref a2) (C := RM) (T := FM) (N := 7) hx hb hT in_M hown hK hP 0 rfl rfl 3 (by decide) (hT _ tt_220) (fun _ h9 => h9) rfl dM_take_78 ?_
              refine lv_iload_n hx hb dM_take_81 rfl (lv_at hl 0 rfl) ?_
              refine va_iald hx hb hK hP 3 2 rfl rfl (tw_in100 hn) dM_take_82 ?_
              refine lv_aload_n hx hb dM_take_83 rfl (lv_at hl 2 rfl) ?_
              refine va_get (D := (dC, dI)) (ci := 1) (v := .ref a2) (C := RM) (T := FM) (N := 7) hx hb hT in_M hown hK hP 0 rfl rfl 3 (by decide) (hT _ tt_220) (fun _ h9 => h9) rfl dM_take_84 ?_
              refine lv_iload_n hx hb dM_take_87 rfl (lv_at hl 1 rfl) ?_
              refine va_iald hx hb hK hP 3 2 rfl rfl (tw_first_vp (Nat.le_of_lt hn) (fun z => hneg (( tw_first_neg (Nat.le_of_lt hn)).mpr z))) dM_take_88 ?_
              refine lv_icmp_ne (tgt := 109) hx hb dM_take_89 (by decide) (fun hc7 => ?_) (fun hc7 => ?_)
              · -- taken at 89: ¬ pr (nI n).toNatClampNeg = pr (tw_first th tm pr ag ck n).toNatClampNeg
                refine lv_iinc (k := 0) hx hb dM_take_109 hl rfl (nI_succ _).symm (by decide) rfl (fun ls hl => ?_)
                have hl : lv_has ls 3 [(2, .int (nI (n + 1))), (1, .int (tw_first th tm pr ag ck n)), (0, .ref h0)] := hl
                refine lv_goto (tgt := 9) hx hb dM_take_112 (by decide) ?_
                rw [tw_first_d (fun z => hc3 ((tw_first_neg (Nat.le_of_lt hn)).mpr z)) (tw_bef_4 ((lg_cmp_eq _ _).mp hc5) hc6 hc7)] at hl
                exact ih (n + 1) (by omega) ls (lv_sub hl [0, 1, 2] rfl)
              · -- not taken at 89: ¬ pr (nI n).toNatClampNeg = pr (tw_first th tm pr ag ck n).toNatClampNeg
                refine lv_aload_n hx hb dM_take_92 rfl (lv_at hl 2 rfl) ?_
                refine va_get (D := (dC, dI)) (ci := 1) (v := .ref a3) (C := RM) (T := FM) (N := 7) hx hb hT in_M hown hK hP 0 rfl rfl 4 (by decide) (hT _ tt_221) (fun _ h9 => h9) rfl dM_take_93 ?_
                refine lv_iload_n hx hb dM_take_96 rfl (lv_at hl 0 rfl) ?_
                refine va_iald hx hb hK hP 4 3 rfl rfl (tw_in100 hn) dM_take_97 ?_
                refine lv_aload_n hx hb dM_take_98 rfl (lv_at hl 2 rfl) ?_
                refine va_get (D := (dC, dI)) (ci := 1) (v := .ref a3) (C := RM) (T := FM) (N := 7) hx hb hT in_M hown hK hP 0 rfl rfl 4 (by decide) (hT _ tt_221) (fun _ h9 => h9) rfl dM_take_99 ?_
                refine lv_iload_n hx hb dM_take_102 rfl (lv_at hl 1 rfl) ?_
                refine va_iald hx hb hK hP 4 3 rfl rfl (tw_first_vp (Nat.le_of_lt hn) (fun z => hneg (( tw_first_neg (Nat.le_of_lt hn)).mpr z))) dM_take_103 ?_
                refine lv_icmp_ge (tgt := 109) hx hb dM_take_104 (by decide) (fun hc8 => ?_) (fun hc8 => ?_)
                · -- taken at 104: ag (nI n).toNatClampNeg ≥ ag (tw_first th tm pr ag ck n).toNatClampNeg
                  refine lv_iinc (k := 0) hx hb dM_take_109 hl rfl (nI_succ _).symm (by decide) rfl (fun ls hl => ?_)
                  have hl : lv_has ls 3 [(2, .int (nI (n + 1))), (1, .int (tw_first th tm pr ag ck n)), (0, .ref h0)] := hl
                  refine lv_goto (tgt := 9) hx hb dM_take_112 (by decide) ?_
                  rw [tw_first_d (fun z => hc3 ((tw_first_neg (Nat.le_of_lt hn)).mpr z)) (tw_bef_5 ((lg_cmp_eq _ _).mp hc5) hc7 hc8)] at hl
                  exact ih (n + 1) (by omega) ls (lv_sub hl [0, 1, 2] rfl)
                · -- not taken at 104: ag (nI n).toNatClampNeg ≥ ag (tw_first th tm pr ag ck n).toNatClampNeg
                  refine lv_iload_n hx hb dM_take_107 rfl (lv_at hl 0 rfl) ?_
                  refine lv_istore_n hx hb dM_take_108 rfl hl (by decide) rfl (fun ls hl => ?_)
                  have hl : lv_has ls 3 [(1, .int (nI n)), (2, .int (nI n)), (0, .ref h0)] := hl
                  refine lv_iinc (k := 1) hx hb dM_take_109 hl rfl (nI_succ _).symm (by decide) rfl (fun ls hl => ?_)
                  have hl : lv_has ls 3 [(2, .int (nI (n + 1))), (1, .int (nI n)), (0, .ref h0)] := hl
                  refine lv_goto (tgt := 9) hx hb dM_take_112 (by decide) ?_
                  rw [tw_first_c (tw_bz1 hc2) (tw_bef_6 ((lg_cmp_eq _ _).mp hc5) hc7 hc8)] at hl
                  exact ih (n + 1) (by omega) ls (lv_sub hl [0, 1, 2] rfl)
    · -- not taken at 20: ¬ tw_bz (tw_due th tm ck (nI n)) = 0
      refine lv_goto (tgt := 109) hx hb dM_take_23 (by decide) ?_
      refine lv_iinc (k := 0) hx hb dM_take_109 hl rfl (nI_succ _).symm (by decide) rfl (fun ls hl => ?_)
      have hl : lv_has ls 3 [(2, .int (nI (n + 1))), (1, .int (tw_first th tm pr ag ck n)), (0, .ref h0)] := hl
      refine lv_goto (tgt := 9) hx hb dM_take_112 (by decide) ?_
      rw [tw_first_a (tw_bz0 hc2)] at hl
      exact ih (n + 1) (by omega) ls (lv_sub hl [0, 1, 2] rfl)
end LMtake
theorem tw_leastM_b {th : Nat → Int32} {tm : Nat → Int64} {ck : Int64} {n : Nat} (h : ¬ ck < tm (nI n).toNatClampNeg) : tw_least th tm ck n = tw_least th tm ck (n + 1) := by simp [tw_least, h]
theorem tw_leastM_c {th : Nat → Int32} {tm : Nat → Int64} {ck : Int64} {n : Nat} (h1 : ¬ th (nI n).toNatClampNeg = 0) (h2 : ck < tm (nI n).toNatClampNeg) (h3 : tw_least th tm ck n = -1) : tm (nI n).toNatClampNeg = tw_least th tm ck (n + 1) := by simp [tw_least, h1, h2, h3]
theorem tw_leastM_d {th : Nat → Int32} {tm : Nat → Int64} {ck : Int64} {n : Nat} (h1 : ¬ th (nI n).toNatClampNeg = 0) (h2 : ck < tm (nI n).toNatClampNeg) (h3 : tm (nI n).toNatClampNeg < tw_least th tm ck n) : tm (nI n).toNatClampNeg = tw_least th tm ck (n + 1) := by simp [tw_least, h1, h2, h3]
theorem tw_least_neg {th : Nat → Int32} {tm : Nat → Int64} {ck : Int64} (h0 : ∀ k : Nat, 0 ≤ tm k) (n : Nat) : tw_least th tm ck n = -1 ↔ tw_least th tm ck n < 0 := tw_m1 ((tw_least_in h0 n).imp id (fun h => h.1))
section LMleast
variable {p : Program} {l : Launch} {e : Env} {R : Room} {s : State} {m : MethodId} {args : Array Value} {below : List Frame} {meth : Method} {c : Code} {H : Heap} {locs : List Loc} {cells slots : Nat} {Q : State → Prop}
set_option maxHeartbeats 4000000 in
set_option maxRecDepth 100000 in
theorem lpM_least (dC : Nat → ClassId) (dI : Nat → Nat → Nat) (h0 a0 a1 a2 a3 : Nat) (k0 k1 k2 k3 : ClassId) (fl : Int32) (th : Nat → Int32) (tm : Nat → Int64) (pr ag : Nat → Int32) (ck : Int64) (nx : Int32) (hx : p.tables.exec = Jvm.exec) (hb : c.code = bM_least) (hml : c.maxLocals = 4) (hT : ∀ w ∈ tw_T, w.before args s = true) (hown : s.vm.findClass RM = some m.cls) (hP : va_P (dC, dI) tw_cl (tw_wM h0 a0 a1 a2 a3 k0 k1 k2 k3 fl th tm pr ag ck nx) H) (hK : va_K (dC, dI) tw_cl (tw_k k0 k1 k2 k3) s) (h00 : ∀ k : Nat, 0 ≤ tm k) (kk : ∀ ls : Array Slot, lv_has ls 4 [(3, .int (nI 100)), (1, .long (tw_least th tm ck 100)), (0, .ref h0)] → W p l e R s m args below meth c H locs cells slots Q (F0 m 70 ls [])) : ∀ (k n : Nat), n + k = 100 → ∀ ls : Array Slot, lv_has ls 4 [(3, .int (nI n)), (1, .long (tw_least th tm ck n)), (0, .ref h0)] → W p l e R s m args below meth c H locs cells slots Q (F0 m 11 ls []) := by
  intro k
  induction k with
  | zero =>
    intro n hn ls hl
    have hn : n = 100 := by omega
    subst hn
    refine lv_iload_n hx hb dM_least_11 rfl (lv_at hl 0 rfl) ?_
    refine lv_bipush (v := 100) hx hb dM_least_12 (by decide) ?_
    refine lv_icmp_ge (tgt := 70) hx hb dM_least_14 (by decide) (fun hc1 => ?_) (fun hc1 => absurd (by decide) hc1)
    exact kk ls hl
  | succ k ih =>
    intro n hn0 ls hl
    have hn : n < 100 := by omega
    refine lv_iload_n hx hb dM_least_11 rfl (lv_at hl 0 rfl) ?_
    refine lv_bipush (v := 100) hx hb dM_least_12 (by decide) ?_
    refine lv_icmp_ge (tgt := 70) hx hb dM_least_14 (by decide) (fun hc1 => absurd hc1 (tw_lt100 hn)) (fun hc1 => ?_)
    refine lv_aload_n hx hb dM_least_17 rfl (lv_at hl 2 rfl) ?_
    refine va_get (D := (dC, dI)) (ci := 1) (v := .ref a0) (C := RM) (T := FM) (N := 7) hx hb hT in_M hown hK hP 0 rfl rfl 1 (by decide) (hT _ tt_218) (fun _ h9 => h9) rfl dM_least_18 ?_
    refine lv_iload_n hx hb dM_least_21 rfl (lv_at hl 0 rfl) ?_
    refine va_zald hx hb hK hP 1 0 rfl rfl (tw_in100 hn) dM_least_22 ?_
    refine lv_if_eq (tgt := 64) hx hb dM_least_23 (by decide) (fun hc2 => ?_) (fun hc2 => ?_)
    · -- taken at 23: th (nI n).toNatClampNeg = 0
      refine lv_iinc (k := 0) hx hb dM_least_64 hl rfl (nI_succ _).symm (by decide) rfl (fun ls hl => ?_)
      have hl : lv_has ls 4 [(3, .int (nI (n + 1))), (1, .long (tw_least th tm ck n)), (0, .ref h0)] := hl
      refine lv_goto (tgt := 11) hx hb dM_least_67 (by decide) ?_
      rw [tw_least_a hc2] at hl
      exact ih (n + 1) (by omega) ls (lv_sub hl [0, 1, 2] rfl)
    · -- not taken at 23: th (nI n).toNatClampNeg = 0
      refine lv_aload_n hx hb dM_least_26 rfl (lv_at hl 2 rfl) ?_
      refine va_get (D := (dC, dI)) (ci := 1) (v := .ref a1) (C := RM) (T := FM) (N := 7) hx hb hT in_M hown hK hP 0 rfl rfl 2 (by decide) (hT _ tt_219) (fun _ h9 => h9) rfl dM_least_27 ?_
      refine lv_iload_n hx hb dM_least_30 rfl (lv_at hl 0 rfl) ?_
      refine va_lald hx hb hK hP 2 1 rfl rfl (tw_in100 hn) dM_least_31 ?_
      refine lv_aload_n hx hb dM_least_32 rfl (lv_at hl 2 rfl) ?_
      refine va_get (D := (dC, dI)) (ci := 1) (v := .long ck) (C := RM) (T := FM) (N := 7) hx hb hT in_M hown hK hP 0 rfl rfl 6 (by decide) (hT _ tt_223) (fun _ h9 => h9) rfl dM_least_33 ?_
      refine W.lcmp hx hb dM_least_36 ?_
      refine lv_if_le (tgt := 64) hx hb dM_least_37 (by decide) (fun hc3 => ?_) (fun hc3 => ?_)
      · -- taken at 37: lg_cmp (tm (nI n).toNatClampNeg) ck ≤ 0
        refine lv_iinc (k := 0) hx hb dM_least_64 hl rfl (nI_succ _).symm (by decide) rfl (fun ls hl => ?_)
        have hl : lv_has ls 4 [(3, .int (nI (n + 1))), (1, .long (tw_least th tm ck n)), (0, .ref h0)] := hl
        refine lv_goto (tgt := 11) hx hb dM_least_67 (by decide) ?_
        rw [tw_leastM_b (Int64.not_lt.mpr ((lg_cmp_le _ _).mp hc3))] at hl
        exact ih (n + 1) (by omega) ls (lv_sub hl [0, 1, 2] rfl)
      · -- not taken at 37: lg_cmp (tm (nI n).toNatClampNeg) ck ≤ 0
        refine lv_lload_n hx hb dM_least_40 rfl (lv_at hl 1 rfl) ?_
        refine lv_lconst (v := 0) hx hb dM_least_41 (by decide) ?_
        refine W.lcmp hx hb dM_least_42 ?_
        refine lv_if_lt (tgt := 57) hx hb dM_least_43 (by decide) (fun hc4 => ?_) (fun hc4 => ?_)
        · -- taken at 43: lg_cmp (tw_least th tm ck n) 0 < 0
          refine lv_aload_n hx hb dM_least_57 rfl (lv_at hl 2 rfl) ?_
          refine va_get (D := (dC, dI)) (ci := 1) (v := .ref a1) (C := RM) (T := FM) (N := 7) hx hb hT in_M hown hK hP 0 rfl rfl 2 (by decide) (hT _ tt_219) (fun _ h9 => h9) rfl dM_least_58 ?_
          refine lv_iload_n hx hb dM_least_61 rfl (lv_at hl 0 rfl) ?_
          refine va_lald hx hb hK hP 2 1 rfl rfl (tw_in100 hn) dM_least_62 ?_
          refine lv_lstore_n hx hb dM_least_63 rfl hl (by decide) rfl (fun ls hl => ?_)
          have hl : lv_has ls 4 [(1, .long (tm (nI n).toNatClampNeg)), (3, .int (nI n)), (0, .ref h0)] := hl
          refine lv_iinc (k := 1) hx hb dM_least_64 hl rfl (nI_succ _).symm (by decide) rfl (fun ls hl => ?_)
          have hl : lv_has ls 4 [(3, .int (nI (n + 1))), (1, .long (tm (nI n).toNatClampNeg)), (0, .ref h0)] := hl
          refine lv_goto (tgt := 11) hx hb dM_least_67 (by decide) ?_
          rw [tw_leastM_c hc2 ((lg_cmp_gt _ _).mp (Int32.not_le.mp hc3)) ((tw_least_neg h00 n).mpr ((lg_cmp_lt _ _).mp hc4))] at hl
          exact ih (n + 1) (by omega) ls (lv_sub hl [0, 1, 2] rfl)
        · -- not taken at 43: lg_cmp (tw_least th tm ck n) 0 < 0
          refine lv_aload_n hx hb dM_least_46 rfl (lv_at hl 2 rfl) ?_
          refine va_get (D := (dC, dI)) (ci := 1) (v := .ref a1) (C := RM) (T := FM) (N := 7) hx hb hT in_M hown hK hP 0 rfl rfl 2 (by decide) (hT _ tt_219) (fun _ h9 => h9) rfl dM_least_47 ?_
          refine lv_iload_n hx hb dM_least_50 rfl (lv_at hl 0 rfl) ?_
          refine va_lald hx hb hK hP 2 1 rfl rfl (tw_in100 hn) dM_least_51 ?_
          refine lv_lload_n hx hb dM_least_52 rfl (lv_at hl 1 rfl) ?_
          refine W.lcmp hx hb dM_least_53 ?_
          refine lv_if_ge (tgt := 64) hx hb dM_least_54 (by decide) (fun hc5 => ?_) (fun hc5 => ?_)
          · -- taken at 54: lg_cmp (tm (nI n).toNatClampNeg) (tw_least th tm ck n) ≥ 0
            refine lv_iinc (k := 0) hx hb dM_least_64 hl rfl (nI_succ _).symm (by decide) rfl (fun ls hl => ?_)
            have hl : lv_has ls 4 [(3, .int (nI (n + 1))), (1, .long (tw_least th tm ck n)), (0, .ref h0)] := hl
            refine lv_goto (tgt := 11) hx hb dM_least_67 (by decide) ?_
            rw [tw_least_e (fun z => hc4 ((lg_cmp_lt _ _).mpr ((tw_least_neg h00 n).mp z))) (Int64.not_lt.mpr ((lg_cmp_ge _ _).mp hc5))] at hl
            exact ih (n + 1) (by omega) ls (lv_sub hl [0, 1, 2] rfl)
          · -- not taken at 54: lg_cmp (tm (nI n).toNatClampNeg) (tw_least th tm ck n) ≥ 0
            refine lv_aload_n hx hb dM_least_57 rfl (lv_at hl 2 rfl) ?_
            refine va_get (D := (dC, dI)) (ci := 1) (v := .ref a1) (C := RM) (T := FM) (N := 7) hx hb hT in_M hown hK hP 0 rfl rfl 2 (by decide) (hT _ tt_219) (fun _ h9 => h9) rfl dM_least_58 ?_
            refine lv_iload_n hx hb dM_least_61 rfl (lv_at hl 0 rfl) ?_
            refine va_lald hx hb hK hP 2 1 rfl rfl (tw_in100 hn) dM_least_62 ?_
            refine lv_lstore_n hx hb dM_least_63 rfl hl (by decide) rfl (fun ls hl => ?_)
            have hl : lv_has ls 4 [(1, .long (tm (nI n).toNatClampNeg)), (3, .int (nI n)), (0, .ref h0)] := hl
            refine lv_iinc (k := 1) hx hb dM_least_64 hl rfl (nI_succ _).symm (by decide) rfl (fun ls hl => ?_)
            have hl : lv_has ls 4 [(3, .int (nI (n + 1))), (1, .long (tm (nI n).toNatClampNeg)), (0, .ref h0)] := hl
            refine lv_goto (tgt := 11) hx hb dM_least_67 (by decide) ?_
            rw [tw_leastM_d hc2 ((lg_cmp_gt _ _).mp (Int32.not_le.mp hc3)) ((lg_cmp_lt _ _).mp (Int32.not_le.mp hc5))] at hl
            exact ih (n + 1) (by omega) ls (lv_sub hl [0, 1, 2] rfl)
end LMleast
section LMcount
variable {p : Program} {l : Launch} {e : Env} {R : Room} {s : State} {m : MethodId} {args : Array Value} {below : List Frame} {meth : Method} {c : Code} {H : Heap} {locs : List Loc} {cells slots : Nat} {Q : State → Prop}
set_option maxHeartbeats 4000000 in
set_option maxRecDepth 100000 in
theorem lpM_count (dC : Nat → ClassId) (dI : Nat → Nat → Nat) (h0 a0 a1 a2 a3 : Nat) (k0 k1 k2 k3 : ClassId) (fl : Int32) (th : Nat → Int32) (tm : Nat → Int64) (pr ag : Nat → Int32) (ck : Int64) (nx : Int32) (hx : p.tables.exec = Jvm.exec) (hb : c.code = bM_count) (hml : c.maxLocals = 4) (hT : ∀ w ∈ tw_T, w.before args s = true) (hown : s.vm.findClass RM = some m.cls) (hP : va_P (dC, dI) tw_cl (tw_wM h0 a0 a1 a2 a3 k0 k1 k2 k3 fl th tm pr ag ck nx) H) (hK : va_K (dC, dI) tw_cl (tw_k k0 k1 k2 k3) s) (wh : Int32) (kk : ∀ ls : Array Slot, lv_has ls 4 [(3, .int (nI 100)), (2, .int (tw_ther th 100)), (1, .int wh), (0, .ref h0)] → W p l e R s m args below meth c H locs cells slots Q (F0 m 54 ls [])) : ∀ (k n : Nat), n + k = 100 → ∀ ls : Array Slot, lv_has ls 4 [(3, .int (nI n)), (2, .int (tw_ther th n)), (1, .int wh), (0, .ref h0)] → W p l e R s m args below meth c H locs cells slots Q (F0 m 25 ls []) := by
  intro k
  induction k with
  | zero =>
    intro n hn ls hl
    have hn : n = 100 := by omega
    subst hn
    refine lv_iload_n hx hb dM_count_25 rfl (lv_at hl 0 rfl) ?_
    refine lv_bipush (v := 100) hx hb dM_count_26 (by decide) ?_
    refine lv_icmp_ge (tgt := 54) hx hb dM_count_28 (by decide) (fun hc1 => ?_) (fun hc1 => absurd (by decide) hc1)
    exact kk ls hl
  | succ k ih =>
    intro n hn0 ls hl
    have hn : n < 100 := by omega
    refine lv_iload_n hx hb dM_count_25 rfl (lv_at hl 0 rfl) ?_
    refine lv_bipush (v := 100) hx hb dM_count_26 (by decide) ?_
    refine lv_icmp_ge (tgt := 54) hx hb dM_count_28 (by decide) (fun hc1 => absurd hc1 (tw_lt100 hn)) (fun hc1 => ?_)
    refine lv_iload_n hx hb dM_count_31 rfl (lv_at hl 1 rfl) ?_
    refine lv_aload_n hx hb dM_count_32 rfl (lv_at hl 3 rfl) ?_
    refine va_get (D := (dC, dI)) (ci := 1) (v := .ref a0) (C := RM) (T := FM) (N := 7) hx hb hT in_M hown hK hP 0 rfl rfl 1 (by decide) (hT _ tt_218) (fun _ h9 => h9) rfl dM_count_33 ?_
    refine lv_iload_n hx hb dM_count_36 rfl (lv_at hl 0 rfl) ?_
    refine va_zald hx hb hK hP 1 0 rfl rfl (tw_in100 hn) dM_count_37 ?_
    refine lv_if_eq (tgt := 45) hx hb dM_count_38 (by decide) (fun hc2 => ?_) (fun hc2 => ?_)
    · -- taken at 38: th (nI n).toNatClampNeg = 0
      refine lv_iconst (v := 0) hx hb dM_count_45 (by decide) ?_
      refine lv_iadd hx hb dM_count_46 ?_
      refine lv_istore_n hx hb dM_count_47 rfl hl (by decide) rfl (fun ls hl => ?_)
      have hl : lv_has ls 4 [(2, .int ((tw_ther th n) + 0)), (3, .int (nI n)), (1, .int wh), (0, .ref h0)] := hl
      refine lv_iinc (k := 1) hx hb dM_count_48 hl rfl (nI_succ _).symm (by decide) rfl (fun ls hl => ?_)
      have hl : lv_has ls 4 [(3, .int (nI (n + 1))), (2, .int ((tw_ther th n) + 0)), (1, .int wh), (0, .ref h0)] := hl
      refine lv_goto (tgt := 25) hx hb dM_count_51 (by decide) ?_
      rw [tw_ther_f0 hc2] at hl
      exact ih (n + 1) (by omega) ls (lv_sub hl [0, 1, 2, 3] rfl)
    · -- not taken at 38: th (nI n).toNatClampNeg = 0
      refine lv_iconst (v := 1) hx hb dM_count_41 (by decide) ?_
      refine lv_goto (tgt := 46) hx hb dM_count_42 (by decide) ?_
      refine lv_iadd hx hb dM_count_46 ?_
      refine lv_istore_n hx hb dM_count_47 rfl hl (by decide) rfl (fun ls hl => ?_)
      have hl : lv_has ls 4 [(2, .int ((tw_ther th n) + 1)), (3, .int (nI n)), (1, .int wh), (0, .ref h0)] := hl
      refine lv_iinc (k := 1) hx hb dM_count_48 hl rfl (nI_succ _).symm (by decide) rfl (fun ls hl => ?_)
      have hl : lv_has ls 4 [(3, .int (nI (n + 1))), (2, .int ((tw_ther th n) + 1)), (1, .int wh), (0, .ref h0)] := hl
      refine lv_goto (tgt := 25) hx hb dM_count_51 (by decide) ?_
      rw [tw_ther_t hc2] at hl
      exact ih (n + 1) (by omega) ls (lv_sub hl [0, 1, 2, 3] rfl)
end LMcount
end
section
/-! The reference, methods that write: what each answers, and the picture behind it. Rows laid by our own program (wip/gen/gm.py). -/
theorem tw_vp99 {j : Int32} : vp_in j 100 ↔ ¬ j < 0 ∧ j ≤ 99 := by
  rw [vp_in_iff, Int32.lt_iff_toInt_lt, Int32.le_iff_toInt_le]
  show _ ↔ ¬ j.toInt < 0 ∧ j.toInt ≤ 99
  omega
theorem tw_k2 {k : Int32} (h : k.toInt < 0 ∨ 2 < k.toInt) (h1 : ¬ k < 0) (h2 : k ≤ 2) : False := by
  rw [Int32.lt_iff_toInt_lt] at h1
  rw [Int32.le_iff_toInt_le] at h2
  have h1 : ¬ k.toInt < 0 := h1
  have h2 : k.toInt ≤ 2 := h2
  omega
set_option maxHeartbeats 4000000 in
set_option maxRecDepth 100000 in
theorem cM_fail (l : Launch) (dC : Nat → ClassId) (dI : Nat → Nat → Nat) (h0 a0 a1 a2 a3 : Nat) (k0 k1 k2 k3 : ClassId) (fl : Int32) (th : Nat → Int32) (tm : Nat → Int64) (pr ag : Nat → Int32) (ck : Int64) (nx : Int32) (sz : Nat) (k : Int32) : Met l yM_fail (Cond.code yM_fail bM_fail 2 (some .int) :: tw_T) { frames := 0, cells := 0, slots := 0, locals := 0 } (va_Pc [.ref h0, .int k] (fun U => U.heap.size = sz ∧ va_P (dC, dI) tw_cl (tw_wM h0 a0 a1 a2 a3 k0 k1 k2 k3 fl th tm pr ag ck nx) U.heap ∧ va_K (dC, dI) tw_cl (tw_k k0 k1 k2 k3) U ∧ va_D (fun _ => True) (tw_wM h0 a0 a1 a2 a3 k0 k1 k2 k3 fl th tm pr ag ck nx))) (va_Qi (S := Unit) (fun r _ => r = 0) (fun _ tz => va_P (dC, dI) tw_cl (tw_wM h0 a0 a1 a2 a3 k0 k1 k2 k3 k th tm pr ag ck nx) tz.heap ∧ va_D (va_A (tw_wM h0 a0 a1 a2 a3 k0 k1 k2 k3 fl th tm pr ag ck nx) sz) (tw_wM h0 a0 a1 a2 a3 k0 k1 k2 k3 k th tm pr ag ck nx)) (va_A (tw_wM h0 a0 a1 a2 a3 k0 k1 k2 k3 fl th tm pr ag ck nx) sz)) 0 0 (va_A (tw_wM h0 a0 a1 a2 a3 k0 k1 k2 k3 fl th tm pr ag ck nx) sz) := by
  refine Met.ofW (cc := bM_fail) (maxL := 2) (ret := some .int) (by decide) rfl ?_
  intro p e s m args below meth c s₁ B hml hv
  obtain ⟨rfl, hsz, hP, hK, hD0⟩ := hv
  have hx := B.exec
  have hb := B.bytes
  have hr := B.returns
  have hT := fun (w : Cond) (h : w ∈ tw_T) => atoms_spec (ws := Cond.code yM_fail bM_fail 2 (some .int) :: tw_T) B.pre w (List.mem_cons_of_mem _ h)
  have hown : s.vm.findClass RM = some m.cls := findClass_of_methodNamed B.named
  have hlocks := B.notSynchronized
  have hl := lv_entry ([.ref h0, .int k]) (n := 2) (Nat.le_of_ble_eq_true rfl)
  rw [lg_entry_eq]
  generalize (lg_sl ([.ref h0, .int k]) ++ List.replicate (2 - (lg_sl ([.ref h0, .int k])).length) Slot.unset).toArray = ls at hl ⊢
  have hl : lv_has ls 2 [(0, .ref h0), (1, .int k)] := hl
  subst hsz
  have hD := hD0.self (sz := s.heap.size)
  generalize hAe : va_A (tw_wM h0 a0 a1 a2 a3 k0 k1 k2 k3 fl th tm pr ag ck nx) s.heap.size = A at hD ⊢
  have hA : ∀ q : Nat, s.heap.size ≤ q → A q := fun q h => by rw [← hAe]; exact Or.inr h
  have hS : va_S A s.heap s.heap [] := va_S.rf
  refine lv_aload_n hx hb dM_fail_0 rfl (lv_at hl 0 rfl) ?_
  refine lv_iload_n hx hb dM_fail_1 rfl (lv_at hl 1 rfl) ?_
  refine va_put (D := (dC, dI)) (ci := 1) (v := .int k) (ty := .int) (C := RM) (T := FM) (N := 7) hx hb hT in_M TM tM_ok nM_ hown hK hP hD hS 0 rfl rfl 0 (by decide) (hT _ tt_217) (fun _ h9 => h9) rfl (by decide +kernel) rfl rfl (Nat.le_of_ble_eq_true rfl) dM_fail_2 (fun H locs hP hD hS => ?_)
  have hP : va_P (dC, dI) tw_cl [(h0, .inr (1, [.int k, .ref a0, .ref a1, .ref a2, .ref a3, .int nx, .long ck])), (a0, .inl (k0, 100, .inl th)), (a1, .inl (k1, 100, .inr (.inl tm))), (a2, .inl (k2, 100, .inl pr)), (a3, .inl (k3, 100, .inl ag))] H := hP
  have hD : va_D A [(h0, .inr (1, [.int k, .ref a0, .ref a1, .ref a2, .ref a3, .int nx, .long ck])), (a0, .inl (k0, 100, .inl th)), (a1, .inl (k1, 100, .inr (.inl tm))), (a2, .inl (k2, 100, .inl pr)), (a3, .inl (k3, 100, .inl ag))] := hD
  refine lv_iconst (v := 0) hx hb dM_fail_5 (by decide) ?_
  exact W.iret hx hb hr (fun t ht hW => ⟨⟨_, (), rfl, rfl, by rw [ht]; exact hP, hD⟩, hS.F ht⟩) hS.2.2 dM_fail_6
set_option maxHeartbeats 4000000 in
set_option maxRecDepth 100000 in
theorem cM_set (l : Launch) (dC : Nat → ClassId) (dI : Nat → Nat → Nat) (h0 a0 a1 a2 a3 : Nat) (k0 k1 k2 k3 : ClassId) (fl : Int32) (th : Nat → Int32) (tm : Nat → Int64) (pr ag : Nat → Int32) (ck : Int64) (nx : Int32) (sz : Nat) (j : Int32) (hj : vp_in j 100) (t : Int64) (ht0 : 0 ≤ t) (ht1 : t ≤ 70368744177664) (q : Int32) : Met l yM_set (Cond.code yM_set bM_set 5 (some .int) :: tw_T) { frames := 2, cells := 0, slots := 0, locals := 80 } (va_Pc [.ref h0, .int j, .long t, .int q] (fun U => U.heap.size = sz ∧ va_P (dC, dI) tw_cl (tw_wM h0 a0 a1 a2 a3 k0 k1 k2 k3 fl th tm pr ag ck nx) U.heap ∧ va_K (dC, dI) tw_cl (tw_k k0 k1 k2 k3) U ∧ va_D (fun _ => True) (tw_wM h0 a0 a1 a2 a3 k0 k1 k2 k3 fl th tm pr ag ck nx))) (va_Qi (S := Unit) (fun r _ => r = upd ag j.toNatClampNeg nx j.toNatClampNeg) (fun _ tz => va_P (dC, dI) tw_cl (tw_wM h0 a0 a1 a2 a3 k0 k1 k2 k3 0 (upd th j.toNatClampNeg (vp_nar .boolean 1)) (vp_updL tm j.toNatClampNeg t) (upd pr j.toNatClampNeg q) (upd ag j.toNatClampNeg nx) ck (nx + 1)) tz.heap ∧ va_D (va_A (tw_wM h0 a0 a1 a2 a3 k0 k1 k2 k3 fl th tm pr ag ck nx) sz) (tw_wM h0 a0 a1 a2 a3 k0 k1 k2 k3 0 (upd th j.toNatClampNeg (vp_nar .boolean 1)) (vp_updL tm j.toNatClampNeg t) (upd pr j.toNatClampNeg q) (upd ag j.toNatClampNeg nx) ck (nx + 1))) (va_A (tw_wM h0 a0 a1 a2 a3 k0 k1 k2 k3 fl th tm pr ag ck nx) sz)) 0 0 (va_A (tw_wM h0 a0 a1 a2 a3 k0 k1 k2 k3 fl th tm pr ag ck nx) sz) := by
  refine Met.ofW (cc := bM_set) (maxL := 5) (ret := some .int) (by decide) rfl ?_
  intro p e s m args below meth c s₁ B hml hv
  obtain ⟨rfl, hsz, hP, hK, hD0⟩ := hv
  have hx := B.exec
  have hb := B.bytes
  have hr := B.returns
  have hT := fun (w : Cond) (h : w ∈ tw_T) => atoms_spec (ws := Cond.code yM_set bM_set 5 (some .int) :: tw_T) B.pre w (List.mem_cons_of_mem _ h)
  have hown : s.vm.findClass RM = some m.cls := findClass_of_methodNamed B.named
  have hlocks := B.notSynchronized
  have hl := lv_entry ([.ref h0, .int j, .long t, .int q]) (n := 5) (Nat.le_of_ble_eq_true rfl)
  rw [lg_entry_eq]
  generalize (lg_sl ([.ref h0, .int j, .long t, .int q]) ++ List.replicate (5 - (lg_sl ([.ref h0, .int j, .long t, .int q])).length) Slot.unset).toArray = ls at hl ⊢
  have hl : lv_has ls 5 [(0, .ref h0), (1, .int j), (2, .long t), (4, .int q)] := hl
  subst hsz
  have hD := hD0.self (sz := s.heap.size)
  generalize hAe : va_A (tw_wM h0 a0 a1 a2 a3 k0 k1 k2 k3 fl th tm pr ag ck nx) s.heap.size = A at hD ⊢
  have hA : ∀ q : Nat, s.heap.size ≤ q → A q := fun q h => by rw [← hAe]; exact Or.inr h
  have hS : va_S A s.heap s.heap [] := va_S.rf
  refine lv_aload_n hx hb dM_set_0 rfl (lv_at hl 0 rfl) ?_
  refine lv_iconst (v := 0) hx hb dM_set_1 (by decide) ?_
  refine va_put (D := (dC, dI)) (ci := 1) (v := .int 0) (ty := .int) (C := RM) (T := FM) (N := 7) hx hb hT in_M TM tM_ok nM_ hown hK hP hD hS 0 rfl rfl 0 (by decide) (hT _ tt_217) (fun _ h9 => h9) rfl (by decide +kernel) rfl rfl (Nat.le_of_ble_eq_true rfl) dM_set_2 (fun H locs hP hD hS => ?_)
  have hP : va_P (dC, dI) tw_cl [(h0, .inr (1, [.int 0, .ref a0, .ref a1, .ref a2, .ref a3, .int nx, .long ck])), (a0, .inl (k0, 100, .inl th)), (a1, .inl (k1, 100, .inr (.inl tm))), (a2, .inl (k2, 100, .inl pr)), (a3, .inl (k3, 100, .inl ag))] H := hP
  have hD : va_D A [(h0, .inr (1, [.int 0, .ref a0, .ref a1, .ref a2, .ref a3, .int nx, .long ck])), (a0, .inl (k0, 100, .inl th)), (a1, .inl (k1, 100, .inr (.inl tm))), (a2, .inl (k2, 100, .inl pr)), (a3, .inl (k3, 100, .inl ag))] := hD
  refine lv_iload_n hx hb dM_set_5 rfl (lv_at hl 1 rfl) ?_
  refine lv_if_lt (tgt := 29) hx hb dM_set_6 (by decide) (fun hc1 => absurd hc1 ((tw_vp99.mp hj).1)) (fun hc1 => ?_)
  refine lv_iload_n hx hb dM_set_9 rfl (lv_at hl 1 rfl) ?_
  refine lv_bipush (v := 99) hx hb dM_set_10 (by decide) ?_
  refine lv_icmp_gt (tgt := 29) hx hb dM_set_12 (by decide) (fun hc2 => absurd hc2 (fun z => Int32.not_lt.mpr (tw_vp99.mp hj).2 z)) (fun hc2 => ?_)
  refine lv_lload_n hx hb dM_set_15 rfl (lv_at hl 2 rfl) ?_
  refine lv_lconst (v := 0) hx hb dM_set_16 (by decide) ?_
  refine W.lcmp hx hb dM_set_17 ?_
  refine lv_if_lt (tgt := 29) hx hb dM_set_18 (by decide) (fun hc3 => absurd hc3 (fun z => Int64.not_lt.mpr ht0 ((lg_cmp_lt _ _).mp z))) (fun hc3 => ?_)
  refine lv_lload_n hx hb dM_set_21 rfl (lv_at hl 2 rfl) ?_
  refine lv_ldc2 (v := 70368744177664) hx hb hown (hT _ tt_247) dM_set_22 ?_
  refine W.lcmp hx hb dM_set_25 ?_
  refine lv_if_le (tgt := 35) hx hb dM_set_26 (by decide) (fun hc4 => ?_) (fun hc4 => absurd ((lg_cmp_le _ _).mpr ht1) hc4)
  refine lv_aload_n hx hb dM_set_35 rfl (lv_at hl 0 rfl) ?_
  refine va_get (D := (dC, dI)) (ci := 1) (v := .ref a0) (C := RM) (T := FM) (N := 7) hx hb hT in_M hown hK hP 0 rfl rfl 1 (by decide) (hT _ tt_218) (fun _ h9 => h9) rfl dM_set_36 ?_
  refine lv_iload_n hx hb dM_set_39 rfl (lv_at hl 1 rfl) ?_
  refine lv_iconst (v := 1) hx hb dM_set_40 (by decide) ?_
  refine va_zast hx hb hK hP hD hS 1 0 rfl rfl hj dM_set_41 (fun H locs hP hD hS => ?_)
  have hP : va_P (dC, dI) tw_cl [(h0, .inr (1, [.int 0, .ref a0, .ref a1, .ref a2, .ref a3, .int nx, .long ck])), (a0, .inl (k0, 100, .inl (upd th j.toNatClampNeg (vp_nar .boolean 1)))), (a1, .inl (k1, 100, .inr (.inl tm))), (a2, .inl (k2, 100, .inl pr)), (a3, .inl (k3, 100, .inl ag))] H := hP
  have hD : va_D A [(h0, .inr (1, [.int 0, .ref a0, .ref a1, .ref a2, .ref a3, .int nx, .long ck])), (a0, .inl (k0, 100, .inl (upd th j.toNatClampNeg (vp_nar .boolean 1)))), (a1, .inl (k1, 100, .inr (.inl tm))), (a2, .inl (k2, 100, .inl pr)), (a3, .inl (k3, 100, .inl ag))] := hD
  refine lv_aload_n hx hb dM_set_42 rfl (lv_at hl 0 rfl) ?_
  refine va_get (D := (dC, dI)) (ci := 1) (v := .ref a1) (C := RM) (T := FM) (N := 7) hx hb hT in_M hown hK hP 0 rfl rfl 2 (by decide) (hT _ tt_219) (fun _ h9 => h9) rfl dM_set_43 ?_
  refine lv_iload_n hx hb dM_set_46 rfl (lv_at hl 1 rfl) ?_
  refine lv_lload_n hx hb dM_set_47 rfl (lv_at hl 2 rfl) ?_
  refine va_last hx hb hK hP hD hS 2 1 rfl rfl hj dM_set_48 (fun H locs hP hD hS => ?_)
  have hP : va_P (dC, dI) tw_cl [(h0, .inr (1, [.int 0, .ref a0, .ref a1, .ref a2, .ref a3, .int nx, .long ck])), (a0, .inl (k0, 100, .inl (upd th j.toNatClampNeg (vp_nar .boolean 1)))), (a1, .inl (k1, 100, .inr (.inl (vp_updL tm j.toNatClampNeg t)))), (a2, .inl (k2, 100, .inl pr)), (a3, .inl (k3, 100, .inl ag))] H := hP
  have hD : va_D A [(h0, .inr (1, [.int 0, .ref a0, .ref a1, .ref a2, .ref a3, .int nx, .long ck])), (a0, .inl (k0, 100, .inl (upd th j.toNatClampNeg (vp_nar .boolean 1)))), (a1, .inl (k1, 100, .inr (.inl (vp_updL tm j.toNatClampNeg t)))), (a2, .inl (k2, 100, .inl pr)), (a3, .inl (k3, 100, .inl ag))] := hD
  refine lv_aload_n hx hb dM_set_49 rfl (lv_at hl 0 rfl) ?_
  refine va_get (D := (dC, dI)) (ci := 1) (v := .ref a2) (C := RM) (T := FM) (N := 7) hx hb hT in_M hown hK hP 0 rfl rfl 3 (by decide) (hT _ tt_220) (fun _ h9 => h9) rfl dM_set_50 ?_
  refine lv_iload_n hx hb dM_set_53 rfl (lv_at hl 1 rfl) ?_
  refine lv_iload hx hb dM_set_54 (lv_at hl 3 rfl) ?_
  refine va_iast hx hb hK hP hD hS 3 2 rfl rfl hj dM_set_56 (fun H locs hP hD hS => ?_)
  have hP : va_P (dC, dI) tw_cl [(h0, .inr (1, [.int 0, .ref a0, .ref a1, .ref a2, .ref a3, .int nx, .long ck])), (a0, .inl (k0, 100, .inl (upd th j.toNatClampNeg (vp_nar .boolean 1)))), (a1, .inl (k1, 100, .inr (.inl (vp_updL tm j.toNatClampNeg t)))), (a2, .inl (k2, 100, .inl (upd pr j.toNatClampNeg q))), (a3, .inl (k3, 100, .inl ag))] H := hP
  have hD : va_D A [(h0, .inr (1, [.int 0, .ref a0, .ref a1, .ref a2, .ref a3, .int nx, .long ck])), (a0, .inl (k0, 100, .inl (upd th j.toNatClampNeg (vp_nar .boolean 1)))), (a1, .inl (k1, 100, .inr (.inl (vp_updL tm j.toNatClampNeg t)))), (a2, .inl (k2, 100, .inl (upd pr j.toNatClampNeg q))), (a3, .inl (k3, 100, .inl ag))] := hD
  refine lv_aload_n hx hb dM_set_57 rfl (lv_at hl 0 rfl) ?_
  refine va_get (D := (dC, dI)) (ci := 1) (v := .ref a3) (C := RM) (T := FM) (N := 7) hx hb hT in_M hown hK hP 0 rfl rfl 4 (by decide) (hT _ tt_221) (fun _ h9 => h9) rfl dM_set_58 ?_
  refine lv_iload_n hx hb dM_set_61 rfl (lv_at hl 1 rfl) ?_
  refine lv_aload_n hx hb dM_set_62 rfl (lv_at hl 0 rfl) ?_
  refine va_get (D := (dC, dI)) (ci := 1) (v := .int nx) (C := RM) (T := FM) (N := 7) hx hb hT in_M hown hK hP 0 rfl rfl 5 (by decide) (hT _ tt_222) (fun _ h9 => h9) rfl dM_set_63 ?_
  refine va_iast hx hb hK hP hD hS 4 3 rfl rfl hj dM_set_66 (fun H locs hP hD hS => ?_)
  have hP : va_P (dC, dI) tw_cl [(h0, .inr (1, [.int 0, .ref a0, .ref a1, .ref a2, .ref a3, .int nx, .long ck])), (a0, .inl (k0, 100, .inl (upd th j.toNatClampNeg (vp_nar .boolean 1)))), (a1, .inl (k1, 100, .inr (.inl (vp_updL tm j.toNatClampNeg t)))), (a2, .inl (k2, 100, .inl (upd pr j.toNatClampNeg q))), (a3, .inl (k3, 100, .inl (upd ag j.toNatClampNeg nx)))] H := hP
  have hD : va_D A [(h0, .inr (1, [.int 0, .ref a0, .ref a1, .ref a2, .ref a3, .int nx, .long ck])), (a0, .inl (k0, 100, .inl (upd th j.toNatClampNeg (vp_nar .boolean 1)))), (a1, .inl (k1, 100, .inr (.inl (vp_updL tm j.toNatClampNeg t)))), (a2, .inl (k2, 100, .inl (upd pr j.toNatClampNeg q))), (a3, .inl (k3, 100, .inl (upd ag j.toNatClampNeg nx)))] := hD
  refine lv_aload_n hx hb dM_set_67 rfl (lv_at hl 0 rfl) ?_
  refine lv_dup hx hb dM_set_68 rfl ?_
  refine va_get (D := (dC, dI)) (ci := 1) (v := .int nx) (C := RM) (T := FM) (N := 7) hx hb hT in_M hown hK hP 0 rfl rfl 5 (by decide) (hT _ tt_222) (fun _ h9 => h9) rfl dM_set_69 ?_
  refine lv_iconst (v := 1) hx hb dM_set_72 (by decide) ?_
  refine lv_iadd hx hb dM_set_73 ?_
  refine va_put (D := (dC, dI)) (ci := 1) (v := .int (nx + 1)) (ty := .int) (C := RM) (T := FM) (N := 7) hx hb hT in_M TM tM_ok nM_ hown hK hP hD hS 0 rfl rfl 5 (by decide) (hT _ tt_222) (fun _ h9 => h9) rfl (by decide +kernel) rfl rfl (Nat.le_of_ble_eq_true rfl) dM_set_74 (fun H locs hP hD hS => ?_)
  have hP : va_P (dC, dI) tw_cl [(h0, .inr (1, [.int 0, .ref a0, .ref a1, .ref a2, .ref a3, .int (nx + 1), .long ck])), (a0, .inl (k0, 100, .inl (upd th j.toNatClampNeg (vp_nar .boolean 1)))), (a1, .inl (k1, 100, .inr (.inl (vp_updL tm j.toNatClampNeg t)))), (a2, .inl (k2, 100, .inl (upd pr j.toNatClampNeg q))), (a3, .inl (k3, 100, .inl (upd ag j.toNatClampNeg nx)))] H := hP
  have hD : va_D A [(h0, .inr (1, [.int 0, .ref a0, .ref a1, .ref a2, .ref a3, .int (nx + 1), .long ck])), (a0, .inl (k0, 100, .inl (upd th j.toNatClampNeg (vp_nar .boolean 1)))), (a1, .inl (k1, 100, .inr (.inl (vp_updL tm j.toNatClampNeg t)))), (a2, .inl (k2, 100, .inl (upd pr j.toNatClampNeg q))), (a3, .inl (k3, 100, .inl (upd ag j.toNatClampNeg nx)))] := hD
  refine lv_aload_n hx hb dM_set_77 rfl (lv_at hl 0 rfl) ?_
  refine va_get (D := (dC, dI)) (ci := 1) (v := .ref a3) (C := RM) (T := FM) (N := 7) hx hb hT in_M hown hK hP 0 rfl rfl 4 (by decide) (hT _ tt_221) (fun _ h9 => h9) rfl dM_set_78 ?_
  refine lv_iload_n hx hb dM_set_81 rfl (lv_at hl 1 rfl) ?_
  refine va_iald hx hb hK hP 4 3 rfl rfl hj dM_set_82 ?_
  exact W.iret hx hb hr (fun t ht hW => ⟨⟨_, (), rfl, rfl, by rw [ht]; exact hP, hD⟩, hS.F ht⟩) hS.2.2 dM_set_83
set_option maxHeartbeats 4000000 in
set_option maxRecDepth 100000 in
theorem cM_setB (l : Launch) (dC : Nat → ClassId) (dI : Nat → Nat → Nat) (h0 a0 a1 a2 a3 : Nat) (k0 k1 k2 k3 : ClassId) (fl : Int32) (th : Nat → Int32) (tm : Nat → Int64) (pr ag : Nat → Int32) (ck : Int64) (nx : Int32) (sz : Nat) (j : Int32) (t : Int64) (q : Int32) (hbad : ¬ (vp_in j 100 ∧ 0 ≤ t ∧ t ≤ 70368744177664)) : Met l yM_set (Cond.code yM_set bM_set 5 (some .int) :: tw_T) { frames := 2, cells := 0, slots := 0, locals := 80 } (va_Pc [.ref h0, .int j, .long t, .int q] (fun U => U.heap.size = sz ∧ va_P (dC, dI) tw_cl (tw_wM h0 a0 a1 a2 a3 k0 k1 k2 k3 fl th tm pr ag ck nx) U.heap ∧ va_K (dC, dI) tw_cl (tw_k k0 k1 k2 k3) U ∧ va_D (fun _ => True) (tw_wM h0 a0 a1 a2 a3 k0 k1 k2 k3 fl th tm pr ag ck nx))) (va_Qi (S := Unit) (fun r _ => r = 0) (fun _ tz => va_P (dC, dI) tw_cl (tw_wM h0 a0 a1 a2 a3 k0 k1 k2 k3 1 th tm pr ag ck nx) tz.heap ∧ va_D (va_A (tw_wM h0 a0 a1 a2 a3 k0 k1 k2 k3 fl th tm pr ag ck nx) sz) (tw_wM h0 a0 a1 a2 a3 k0 k1 k2 k3 1 th tm pr ag ck nx)) (va_A (tw_wM h0 a0 a1 a2 a3 k0 k1 k2 k3 fl th tm pr ag ck nx) sz)) 0 0 (va_A (tw_wM h0 a0 a1 a2 a3 k0 k1 k2 k3 fl th tm pr ag ck nx) sz) := by
  refine Met.ofW (cc := bM_set) (maxL := 5) (ret := some .int) (by decide) rfl ?_
  intro p e s m args below meth c s₁ B hml hv
  obtain ⟨rfl, hsz, hP, hK, hD0⟩ := hv
  have hx := B.exec
  have hb := B.bytes
  have hr := B.returns
  have hT := fun (w : Cond) (h : w ∈ tw_T) => atoms_spec (ws := Cond.code yM_set bM_set 5 (some .int) :: tw_T) B.pre w (List.mem_cons_of_mem _ h)
  have hown : s.vm.findClass RM = some m.cls := findClass_of_methodNamed B.named
  have hlocks := B.notSynchronized
  have hl := lv_entry ([.ref h0, .int j, .long t, .int q]) (n := 5) (Nat.le_of_ble_eq_true rfl)
  rw [lg_entry_eq]
  generalize (lg_sl ([.ref h0, .int j, .long t, .int q]) ++ List.replicate (5 - (lg_sl ([.ref h0, .int j, .long t, .int q])).length) Slot.unset).toArray = ls at hl ⊢
  have hl : lv_has ls 5 [(0, .ref h0), (1, .int j), (2, .long t), (4, .int q)] := hl
  subst hsz
  have hD := hD0.self (sz := s.heap.size)
  generalize hAe : va_A (tw_wM h0 a0 a1 a2 a3 k0 k1 k2 k3 fl th tm pr ag ck nx) s.heap.size = A at hD ⊢
  have hA : ∀ q : Nat, s.heap.size ≤ q → A q := fun q h => by rw [← hAe]; exact Or.inr h
  have hS : va_S A s.heap s.heap [] := va_S.rf
  refine lv_aload_n hx hb dM_set_0 rfl (lv_at hl 0 rfl) ?_
  refine lv_iconst (v := 0) hx hb dM_set_1 (by decide) ?_
  refine va_put (D := (dC, dI)) (ci := 1) (v := .int 0) (ty := .int) (C := RM) (T := FM) (N := 7) hx hb hT in_M TM tM_ok nM_ hown hK hP hD hS 0 rfl rfl 0 (by decide) (hT _ tt_217) (fun _ h9 => h9) rfl (by decide +kernel) rfl rfl (Nat.le_of_ble_eq_true rfl) dM_set_2 (fun H locs hP hD hS => ?_)
  have hP : va_P (dC, dI) tw_cl [(h0, .inr (1, [.int 0, .ref a0, .ref a1, .ref a2, .ref a3, .int nx, .long ck])), (a0, .inl (k0, 100, .inl th)), (a1, .inl (k1, 100, .inr (.inl tm))), (a2, .inl (k2, 100, .inl pr)), (a3, .inl (k3, 100, .inl ag))] H := hP
  have hD : va_D A [(h0, .inr (1, [.int 0, .ref a0, .ref a1, .ref a2, .ref a3, .int nx, .long ck])), (a0, .inl (k0, 100, .inl th)), (a1, .inl (k1, 100, .inr (.inl tm))), (a2, .inl (k2, 100, .inl pr)), (a3, .inl (k3, 100, .inl ag))] := hD
  refine lv_iload_n hx hb dM_set_5 rfl (lv_at hl 1 rfl) ?_
  refine lv_if_lt (tgt := 29) hx hb dM_set_6 (by decide) (fun hc1 => ?_) (fun hc1 => ?_)
  · -- taken at 6: j < 0
    refine lv_aload_n hx hb dM_set_29 rfl (lv_at hl 0 rfl) ?_
    refine lv_iconst (v := 1) hx hb dM_set_30 (by decide) ?_
    have hFc := va_free (wc := (tw_wM h0 a0 a1 a2 a3 k0 k1 k2 k3 0 th tm pr ag ck nx)) hD hS hA [0, 1, 2, 3, 4] rfl
    refine va_calli (va_runV (C := RM) (b := h0) (As := [.int 1]) (rest := []) ⟨hx, hb, hml, hown, hT⟩ (cM_fail l dC dI h0 a0 a1 a2 a3 k0 k1 k2 k3 0 th tm pr ag ck nx H.size 1) (cwV 1 hT (tw_gV tt_248 tt_250 tp_M_fail tt_2 tt_251) rfl rfl rfl ⟨rfl, by decide +kernel⟩ ⟨Nat.le_of_ble_eq_true rfl, Nat.le_of_ble_eq_true rfl⟩) ⟨fun a U g mk q => by obtain ⟨q0, q1, qP, qK, qD⟩ := q; exact ⟨q0, q1, qP, va_K.moved (u := U) (U := U.calling g mk a) (Vm.Alike.refl U.vm) qK, qD⟩, va_recv (q0 := 0) (ci := 1) hK hP rfl rfl, fun U hU hW => ⟨rfl, by rw [hU], by rw [hU]; exact hP, va_K.moved hW.alike hK, hD.weaken (fun _ _ _ _ => trivial)⟩⟩ rfl rfl hl.1 rfl (lv_room (Nat.le_of_ble_eq_true rfl)) dM_set_31 ⟨Nat.le_of_ble_eq_true rfl, Nat.le_of_ble_eq_true rfl⟩) hS (fun q _ h => hFc q h) hFc (fun r9 u9 t9 H1 locs ht9 hvm9 hw9 hB9 hz9 hk9 hS => ?_)
    obtain ⟨hP1, hD1⟩ := hB9
    rw [ht9] at hP1
    have hw9 : r9 = 0 := hw9
    subst hw9
    obtain ⟨hP, hD⟩ := va_join (wr := []) (w1 := (tw_wM h0 a0 a1 a2 a3 k0 k1 k2 k3 1 th tm pr ag ck nx)) hP hD [0, 1, 2, 3, 4] [] rfl rfl (by decide) (by decide) hk9 hFc hP1 hD1
    generalize H1 = H at hP hS ⊢
    have hP : va_P (dC, dI) tw_cl [(h0, .inr (1, [.int 1, .ref a0, .ref a1, .ref a2, .ref a3, .int nx, .long ck])), (a0, .inl (k0, 100, .inl th)), (a1, .inl (k1, 100, .inr (.inl tm))), (a2, .inl (k2, 100, .inl pr)), (a3, .inl (k3, 100, .inl ag))] H := hP
    have hD : va_D A [(h0, .inr (1, [.int 1, .ref a0, .ref a1, .ref a2, .ref a3, .int nx, .long ck])), (a0, .inl (k0, 100, .inl th)), (a1, .inl (k1, 100, .inr (.inl tm))), (a2, .inl (k2, 100, .inl pr)), (a3, .inl (k3, 100, .inl ag))] := hD
    exact W.iret hx hb hr (fun t ht hW => ⟨⟨_, (), rfl, rfl, by rw [ht]; exact hP, hD⟩, hS.F ht⟩) hS.2.2 dM_set_34
  · -- not taken at 6: j < 0
    refine lv_iload_n hx hb dM_set_9 rfl (lv_at hl 1 rfl) ?_
    refine lv_bipush (v := 99) hx hb dM_set_10 (by decide) ?_
    refine lv_icmp_gt (tgt := 29) hx hb dM_set_12 (by decide) (fun hc2 => ?_) (fun hc2 => ?_)
    · -- taken at 12: j > 99
      refine lv_aload_n hx hb dM_set_29 rfl (lv_at hl 0 rfl) ?_
      refine lv_iconst (v := 1) hx hb dM_set_30 (by decide) ?_
      have hFc := va_free (wc := (tw_wM h0 a0 a1 a2 a3 k0 k1 k2 k3 0 th tm pr ag ck nx)) hD hS hA [0, 1, 2, 3, 4] rfl
      refine va_calli (va_runV (C := RM) (b := h0) (As := [.int 1]) (rest := []) ⟨hx, hb, hml, hown, hT⟩ (cM_fail l dC dI h0 a0 a1 a2 a3 k0 k1 k2 k3 0 th tm pr ag ck nx H.size 1) (cwV 1 hT (tw_gV tt_248 tt_250 tp_M_fail tt_2 tt_251) rfl rfl rfl ⟨rfl, by decide +kernel⟩ ⟨Nat.le_of_ble_eq_true rfl, Nat.le_of_ble_eq_true rfl⟩) ⟨fun a U g mk q => by obtain ⟨q0, q1, qP, qK, qD⟩ := q; exact ⟨q0, q1, qP, va_K.moved (u := U) (U := U.calling g mk a) (Vm.Alike.refl U.vm) qK, qD⟩, va_recv (q0 := 0) (ci := 1) hK hP rfl rfl, fun U hU hW => ⟨rfl, by rw [hU], by rw [hU]; exact hP, va_K.moved hW.alike hK, hD.weaken (fun _ _ _ _ => trivial)⟩⟩ rfl rfl hl.1 rfl (lv_room (Nat.le_of_ble_eq_true rfl)) dM_set_31 ⟨Nat.le_of_ble_eq_true rfl, Nat.le_of_ble_eq_true rfl⟩) hS (fun q _ h => hFc q h) hFc (fun r9 u9 t9 H1 locs ht9 hvm9 hw9 hB9 hz9 hk9 hS => ?_)
      obtain ⟨hP1, hD1⟩ := hB9
      rw [ht9] at hP1
      have hw9 : r9 = 0 := hw9
      subst hw9
      obtain ⟨hP, hD⟩ := va_join (wr := []) (w1 := (tw_wM h0 a0 a1 a2 a3 k0 k1 k2 k3 1 th tm pr ag ck nx)) hP hD [0, 1, 2, 3, 4] [] rfl rfl (by decide) (by decide) hk9 hFc hP1 hD1
      generalize H1 = H at hP hS ⊢
      have hP : va_P (dC, dI) tw_cl [(h0, .inr (1, [.int 1, .ref a0, .ref a1, .ref a2, .ref a3, .int nx, .long ck])), (a0, .inl (k0, 100, .inl th)), (a1, .inl (k1, 100, .inr (.inl tm))), (a2, .inl (k2, 100, .inl pr)), (a3, .inl (k3, 100, .inl ag))] H := hP
      have hD : va_D A [(h0, .inr (1, [.int 1, .ref a0, .ref a1, .ref a2, .ref a3, .int nx, .long ck])), (a0, .inl (k0, 100, .inl th)), (a1, .inl (k1, 100, .inr (.inl tm))), (a2, .inl (k2, 100, .inl pr)), (a3, .inl (k3, 100, .inl ag))] := hD
      exact W.iret hx hb hr (fun t ht hW => ⟨⟨_, (), rfl, rfl, by rw [ht]; exact hP, hD⟩, hS.F ht⟩) hS.2.2 dM_set_34
    · -- not taken at 12: j > 99
      refine lv_lload_n hx hb dM_set_15 rfl (lv_at hl 2 rfl) ?_
      refine lv_lconst (v := 0) hx hb dM_set_16 (by decide) ?_
      refine W.lcmp hx hb dM_set_17 ?_
      refine lv_if_lt (tgt := 29) hx hb dM_set_18 (by decide) (fun hc3 => ?_) (fun hc3 => ?_)
      · -- taken at 18: lg_cmp t 0 < 0
        refine lv_aload_n hx hb dM_set_29 rfl (lv_at hl 0 rfl) ?_
        refine lv_iconst (v := 1) hx hb dM_set_30 (by decide) ?_
        have hFc := va_free (wc := (tw_wM h0 a0 a1 a2 a3 k0 k1 k2 k3 0 th tm pr ag ck nx)) hD hS hA [0, 1, 2, 3, 4] rfl
        refine va_calli (va_runV (C := RM) (b := h0) (As := [.int 1]) (rest := []) ⟨hx, hb, hml, hown, hT⟩ (cM_fail l dC dI h0 a0 a1 a2 a3 k0 k1 k2 k3 0 th tm pr ag ck nx H.size 1) (cwV 1 hT (tw_gV tt_248 tt_250 tp_M_fail tt_2 tt_251) rfl rfl rfl ⟨rfl, by decide +kernel⟩ ⟨Nat.le_of_ble_eq_true rfl, Nat.le_of_ble_eq_true rfl⟩) ⟨fun a U g mk q => by obtain ⟨q0, q1, qP, qK, qD⟩ := q; exact ⟨q0, q1, qP, va_K.moved (u := U) (U := U.calling g mk a) (Vm.Alike.refl U.vm) qK, qD⟩, va_recv (q0 := 0) (ci := 1) hK hP rfl rfl, fun U hU hW => ⟨rfl, by rw [hU], by rw [hU]; exact hP, va_K.moved hW.alike hK, hD.weaken (fun _ _ _ _ => trivial)⟩⟩ rfl rfl hl.1 rfl (lv_room (Nat.le_of_ble_eq_true rfl)) dM_set_31 ⟨Nat.le_of_ble_eq_true rfl, Nat.le_of_ble_eq_true rfl⟩) hS (fun q _ h => hFc q h) hFc (fun r9 u9 t9 H1 locs ht9 hvm9 hw9 hB9 hz9 hk9 hS => ?_)
        obtain ⟨hP1, hD1⟩ := hB9
        rw [ht9] at hP1
        have hw9 : r9 = 0 := hw9
        subst hw9
        obtain ⟨hP, hD⟩ := va_join (wr := []) (w1 := (tw_wM h0 a0 a1 a2 a3 k0 k1 k2 k3 1 th tm pr ag ck nx)) hP hD [0, 1, 2, 3, 4] [] rfl rfl (by decide) (by decide) hk9 hFc hP1 hD1
        generalize H1 = H at hP hS ⊢
        have hP : va_P (dC, dI) tw_cl [(h0, .inr (1, [.int 1, .ref a0, .ref a1, .ref a2, .ref a3, .int nx, .long ck])), (a0, .inl (k0, 100, .inl th)), (a1, .inl (k1, 100, .inr (.inl tm))), (a2, .inl (k2, 100, .inl pr)), (a3, .inl (k3, 100, .inl ag))] H := hP
        have hD : va_D A [(h0, .inr (1, [.int 1, .ref a0, .ref a1, .ref a2, .ref a3, .int nx, .long ck])), (a0, .inl (k0, 100, .inl th)), (a1, .inl (k1, 100, .inr (.inl tm))), (a2, .inl (k2, 100, .inl pr)), (a3, .inl (k3, 100, .inl ag))] := hD
        exact W.iret hx hb hr (fun t ht hW => ⟨⟨_, (), rfl, rfl, by rw [ht]; exact hP, hD⟩, hS.F ht⟩) hS.2.2 dM_set_34
      · -- not taken at 18: lg_cmp t 0 < 0
        refine lv_lload_n hx hb dM_set_21 rfl (lv_at hl 2 rfl) ?_
        refine lv_ldc2 (v := 70368744177664) hx hb hown (hT _ tt_247) dM_set_22 ?_
        refine W.lcmp hx hb dM_set_25 ?_
        refine lv_if_le (tgt := 35) hx hb dM_set_26 (by decide) (fun hc4 => absurd hc4 (fun z => hbad ⟨tw_vp99.mpr ⟨hc1, Int32.not_lt.mp hc2⟩, (lg_cmp_ge _ _).mp (Int32.not_lt.mp hc3), (lg_cmp_le _ _).mp z⟩)) (fun hc4 => ?_)
        refine lv_aload_n hx hb dM_set_29 rfl (lv_at hl 0 rfl) ?_
        refine lv_iconst (v := 1) hx hb dM_set_30 (by decide) ?_
        have hFc := va_free (wc := (tw_wM h0 a0 a1 a2 a3 k0 k1 k2 k3 0 th tm pr ag ck nx)) hD hS hA [0, 1, 2, 3, 4] rfl
        refine va_calli (va_runV (C := RM) (b := h0) (As := [.int 1]) (rest := []) ⟨hx, hb, hml, hown, hT⟩ (cM_fail l dC dI h0 a0 a1 a2 a3 k0 k1 k2 k3 0 th tm pr ag ck nx H.size 1) (cwV 1 hT (tw_gV tt_248 tt_250 tp_M_fail tt_2 tt_251) rfl rfl rfl ⟨rfl, by decide +kernel⟩ ⟨Nat.le_of_ble_eq_true rfl, Nat.le_of_ble_eq_true rfl⟩) ⟨fun a U g mk q => by obtain ⟨q0, q1, qP, qK, qD⟩ := q; exact ⟨q0, q1, qP, va_K.moved (u := U) (U := U.calling g mk a) (Vm.Alike.refl U.vm) qK, qD⟩, va_recv (q0 := 0) (ci := 1) hK hP rfl rfl, fun U hU hW => ⟨rfl, by rw [hU], by rw [hU]; exact hP, va_K.moved hW.alike hK, hD.weaken (fun _ _ _ _ => trivial)⟩⟩ rfl rfl hl.1 rfl (lv_room (Nat.le_of_ble_eq_true rfl)) dM_set_31 ⟨Nat.le_of_ble_eq_true rfl, Nat.le_of_ble_eq_true rfl⟩) hS (fun q _ h => hFc q h) hFc (fun r9 u9 t9 H1 locs ht9 hvm9 hw9 hB9 hz9 hk9 hS => ?_)
        obtain ⟨hP1, hD1⟩ := hB9
        rw [ht9] at hP1
        have hw9 : r9 = 0 := hw9
        subst hw9
        obtain ⟨hP, hD⟩ := va_join (wr := []) (w1 := (tw_wM h0 a0 a1 a2 a3 k0 k1 k2 k3 1 th tm pr ag ck nx)) hP hD [0, 1, 2, 3, 4] [] rfl rfl (by decide) (by decide) hk9 hFc hP1 hD1
        generalize H1 = H at hP hS ⊢
        have hP : va_P (dC, dI) tw_cl [(h0, .inr (1, [.int 1, .ref a0, .ref a1, .ref a2, .ref a3, .int nx, .long ck])), (a0, .inl (k0, 100, .inl th)), (a1, .inl (k1, 100, .inr (.inl tm))), (a2, .inl (k2, 100, .inl pr)), (a3, .inl (k3, 100, .inl ag))] H := hP
        have hD : va_D A [(h0, .inr (1, [.int 1, .ref a0, .ref a1, .ref a2, .ref a3, .int nx, .long ck])), (a0, .inl (k0, 100, .inl th)), (a1, .inl (k1, 100, .inr (.inl tm))), (a2, .inl (k2, 100, .inl pr)), (a3, .inl (k3, 100, .inl ag))] := hD
        exact W.iret hx hb hr (fun t ht hW => ⟨⟨_, (), rfl, rfl, by rw [ht]; exact hP, hD⟩, hS.F ht⟩) hS.2.2 dM_set_34
set_option maxHeartbeats 4000000 in
set_option maxRecDepth 100000 in
theorem cM_drop (l : Launch) (dC : Nat → ClassId) (dI : Nat → Nat → Nat) (h0 a0 a1 a2 a3 : Nat) (k0 k1 k2 k3 : ClassId) (fl : Int32) (th : Nat → Int32) (tm : Nat → Int64) (pr ag : Nat → Int32) (ck : Int64) (nx : Int32) (sz : Nat) (j : Int32) (hj : vp_in j 100) (ht : ¬ th j.toNatClampNeg = 0) : Met l yM_drop (Cond.code yM_drop bM_drop 2 (some .long) :: tw_T) { frames := 2, cells := 0, slots := 0, locals := 80 } (va_Pc [.ref h0, .int j] (fun U => U.heap.size = sz ∧ va_P (dC, dI) tw_cl (tw_wM h0 a0 a1 a2 a3 k0 k1 k2 k3 fl th tm pr ag ck nx) U.heap ∧ va_K (dC, dI) tw_cl (tw_k k0 k1 k2 k3) U ∧ va_D (fun _ => True) (tw_wM h0 a0 a1 a2 a3 k0 k1 k2 k3 fl th tm pr ag ck nx))) (va_Ql (S := Unit) (fun r _ => r = tm j.toNatClampNeg) (fun _ tz => va_P (dC, dI) tw_cl (tw_wM h0 a0 a1 a2 a3 k0 k1 k2 k3 0 (upd th j.toNatClampNeg (vp_nar .boolean 0)) tm pr ag ck nx) tz.heap ∧ va_D (va_A (tw_wM h0 a0 a1 a2 a3 k0 k1 k2 k3 fl th tm pr ag ck nx) sz) (tw_wM h0 a0 a1 a2 a3 k0 k1 k2 k3 0 (upd th j.toNatClampNeg (vp_nar .boolean 0)) tm pr ag ck nx)) (va_A (tw_wM h0 a0 a1 a2 a3 k0 k1 k2 k3 fl th tm pr ag ck nx) sz)) 0 0 (va_A (tw_wM h0 a0 a1 a2 a3 k0 k1 k2 k3 fl th tm pr ag ck nx) sz) := by
  refine Met.ofW (cc := bM_drop) (maxL := 2) (ret := some .long) (by decide) rfl ?_
  intro p e s m args below meth c s₁ B hml hv
  obtain ⟨rfl, hsz, hP, hK, hD0⟩ := hv
  have hx := B.exec
  have hb := B.bytes
  have hr := B.returns
  have hT := fun (w : Cond) (h : w ∈ tw_T) => atoms_spec (ws := Cond.code yM_drop bM_drop 2 (some .long) :: tw_T) B.pre w (List.mem_cons_of_mem _ h)
  have hown : s.vm.findClass RM = some m.cls := findClass_of_methodNamed B.named
  have hlocks := B.notSynchronized
  have hl := lv_entry ([.ref h0, .int j]) (n := 2) (Nat.le_of_ble_eq_true rfl)
  rw [lg_entry_eq]
  generalize (lg_sl ([.ref h0, .int j]) ++ List.replicate (2 - (lg_sl ([.ref h0, .int j])).length) Slot.unset).toArray = ls at hl ⊢
  have hl : lv_has ls 2 [(0, .ref h0), (1, .int j)] := hl
  subst hsz
  have hD := hD0.self (sz := s.heap.size)
  generalize hAe : va_A (tw_wM h0 a0 a1 a2 a3 k0 k1 k2 k3 fl th tm pr ag ck nx) s.heap.size = A at hD ⊢
  have hA : ∀ q : Nat, s.heap.size ≤ q → A q := fun q h => by rw [← hAe]; exact Or.inr h
  have hS : va_S A s.heap s.heap [] := va_S.rf
  refine lv_aload_n hx hb dM_drop_0 rfl (lv_at hl 0 rfl) ?_
  refine lv_iconst (v := 0) hx hb dM_drop_1 (by decide) ?_
  refine va_put (D := (dC, dI)) (ci := 1) (v := .int 0) (ty := .int) (C := RM) (T := FM) (N := 7) hx hb hT in_M TM tM_ok nM_ hown hK hP hD hS 0 rfl rfl 0 (by decide) (hT _ tt_217) (fun _ h9 => h9) rfl (by decide +kernel) rfl rfl (Nat.le_of_ble_eq_true rfl) dM_drop_2 (fun H locs hP hD hS => ?_)
  have hP : va_P (dC, dI) tw_cl [(h0, .inr (1, [.int 0, .ref a0, .ref a1, .ref a2, .ref a3, .int nx, .long ck])), (a0, .inl (k0, 100, .inl th)), (a1, .inl (k1, 100, .inr (.inl tm))), (a2, .inl (k2, 100, .inl pr)), (a3, .inl (k3, 100, .inl ag))] H := hP
  have hD : va_D A [(h0, .inr (1, [.int 0, .ref a0, .ref a1, .ref a2, .ref a3, .int nx, .long ck])), (a0, .inl (k0, 100, .inl th)), (a1, .inl (k1, 100, .inr (.inl tm))), (a2, .inl (k2, 100, .inl pr)), (a3, .inl (k3, 100, .inl ag))] := hD
  refine lv_iload_n hx hb dM_drop_5 rfl (lv_at hl 1 rfl) ?_
  refine lv_if_lt (tgt := 15) hx hb dM_drop_6 (by decide) (fun hc1 => absurd hc1 ((tw_vp99.mp hj).1)) (fun hc1 => ?_)
  refine lv_iload_n hx hb dM_drop_9 rfl (lv_at hl 1 rfl) ?_
  refine lv_bipush (v := 99) hx hb dM_drop_10 (by decide) ?_
  refine lv_icmp_le (tgt := 22) hx hb dM_drop_12 (by decide) (fun hc2 => ?_) (fun hc2 => absurd ((tw_vp99.mp hj).2) hc2)
  refine lv_aload_n hx hb dM_drop_22 rfl (lv_at hl 0 rfl) ?_
  refine va_get (D := (dC, dI)) (ci := 1) (v := .ref a0) (C := RM) (T := FM) (N := 7) hx hb hT in_M hown hK hP 0 rfl rfl 1 (by decide) (hT _ tt_218) (fun _ h9 => h9) rfl dM_drop_23 ?_
  refine lv_iload_n hx hb dM_drop_26 rfl (lv_at hl 1 rfl) ?_
  refine va_zald hx hb hK hP 1 0 rfl rfl hj dM_drop_27 ?_
  refine lv_if_ne (tgt := 38) hx hb dM_drop_28 (by decide) (fun hc3 => ?_) (fun hc3 => absurd hc3 ht)
  refine lv_aload_n hx hb dM_drop_38 rfl (lv_at hl 0 rfl) ?_
  refine va_get (D := (dC, dI)) (ci := 1) (v := .ref a0) (C := RM) (T := FM) (N := 7) hx hb hT in_M hown hK hP 0 rfl rfl 1 (by decide) (hT _ tt_218) (fun _ h9 => h9) rfl dM_drop_39 ?_
  refine lv_iload_n hx hb dM_drop_42 rfl (lv_at hl 1 rfl) ?_
  refine lv_iconst (v := 0) hx hb dM_drop_43 (by decide) ?_
  refine va_zast hx hb hK hP hD hS 1 0 rfl rfl hj dM_drop_44 (fun H locs hP hD hS => ?_)
  have hP : va_P (dC, dI) tw_cl [(h0, .inr (1, [.int 0, .ref a0, .ref a1, .ref a2, .ref a3, .int nx, .long ck])), (a0, .inl (k0, 100, .inl (upd th j.toNatClampNeg (vp_nar .boolean 0)))), (a1, .inl (k1, 100, .inr (.inl tm))), (a2, .inl (k2, 100, .inl pr)), (a3, .inl (k3, 100, .inl ag))] H := hP
  have hD : va_D A [(h0, .inr (1, [.int 0, .ref a0, .ref a1, .ref a2, .ref a3, .int nx, .long ck])), (a0, .inl (k0, 100, .inl (upd th j.toNatClampNeg (vp_nar .boolean 0)))), (a1, .inl (k1, 100, .inr (.inl tm))), (a2, .inl (k2, 100, .inl pr)), (a3, .inl (k3, 100, .inl ag))] := hD
  refine lv_aload_n hx hb dM_drop_45 rfl (lv_at hl 0 rfl) ?_
  refine va_get (D := (dC, dI)) (ci := 1) (v := .ref a1) (C := RM) (T := FM) (N := 7) hx hb hT in_M hown hK hP 0 rfl rfl 2 (by decide) (hT _ tt_219) (fun _ h9 => h9) rfl dM_drop_46 ?_
  refine lv_iload_n hx hb dM_drop_49 rfl (lv_at hl 1 rfl) ?_
  refine va_lald hx hb hK hP 2 1 rfl rfl hj dM_drop_50 ?_
  exact W.lret hx hb hr (fun t ht hW => ⟨⟨_, (), rfl, rfl, by rw [ht]; exact hP, hD⟩, hS.F ht⟩) hS.2.2 dM_drop_51
set_option maxHeartbeats 4000000 in
set_option maxRecDepth 100000 in
theorem cM_dropA (l : Launch) (dC : Nat → ClassId) (dI : Nat → Nat → Nat) (h0 a0 a1 a2 a3 : Nat) (k0 k1 k2 k3 : ClassId) (fl : Int32) (th : Nat → Int32) (tm : Nat → Int64) (pr ag : Nat → Int32) (ck : Int64) (nx : Int32) (sz : Nat) (j : Int32) (hj : ¬ vp_in j 100) : Met l yM_drop (Cond.code yM_drop bM_drop 2 (some .long) :: tw_T) { frames := 2, cells := 0, slots := 0, locals := 80 } (va_Pc [.ref h0, .int j] (fun U => U.heap.size = sz ∧ va_P (dC, dI) tw_cl (tw_wM h0 a0 a1 a2 a3 k0 k1 k2 k3 fl th tm pr ag ck nx) U.heap ∧ va_K (dC, dI) tw_cl (tw_k k0 k1 k2 k3) U ∧ va_D (fun _ => True) (tw_wM h0 a0 a1 a2 a3 k0 k1 k2 k3 fl th tm pr ag ck nx))) (va_Ql (S := Unit) (fun r _ => r = 0) (fun _ tz => va_P (dC, dI) tw_cl (tw_wM h0 a0 a1 a2 a3 k0 k1 k2 k3 1 th tm pr ag ck nx) tz.heap ∧ va_D (va_A (tw_wM h0 a0 a1 a2 a3 k0 k1 k2 k3 fl th tm pr ag ck nx) sz) (tw_wM h0 a0 a1 a2 a3 k0 k1 k2 k3 1 th tm pr ag ck nx)) (va_A (tw_wM h0 a0 a1 a2 a3 k0 k1 k2 k3 fl th tm pr ag ck nx) sz)) 0 0 (va_A (tw_wM h0 a0 a1 a2 a3 k0 k1 k2 k3 fl th tm pr ag ck nx) sz) := by
  refine Met.ofW (cc := bM_drop) (maxL := 2) (ret := some .long) (by decide) rfl ?_
  intro p e s m args below meth c s₁ B hml hv
  obtain ⟨rfl, hsz, hP, hK, hD0⟩ := hv
  have hx := B.exec
  have hb := B.bytes
  have hr := B.returns
  have hT := fun (w : Cond) (h : w ∈ tw_T) => atoms_spec (ws := Cond.code yM_drop bM_drop 2 (some .long) :: tw_T) B.pre w (List.mem_cons_of_mem _ h)
  have hown : s.vm.findClass RM = some m.cls := findClass_of_methodNamed B.named
  have hlocks := B.notSynchronized
  have hl := lv_entry ([.ref h0, .int j]) (n := 2) (Nat.le_of_ble_eq_true rfl)
  rw [lg_entry_eq]
  generalize (lg_sl ([.ref h0, .int j]) ++ List.replicate (2 - (lg_sl ([.ref h0, .int j])).length) Slot.unset).toArray = ls at hl ⊢
  have hl : lv_has ls 2 [(0, .ref h0), (1, .int j)] := hl
  subst hsz
  have hD := hD0.self (sz := s.heap.size)
  generalize hAe : va_A (tw_wM h0 a0 a1 a2 a3 k0 k1 k2 k3 fl th tm pr ag ck nx) s.heap.size = A at hD ⊢
  have hA : ∀ q : Nat, s.heap.size ≤ q → A q := fun q h => by rw [← hAe]; exact Or.inr h
  have hS : va_S A s.heap s.heap [] := va_S.rf
  refine lv_aload_n hx hb dM_drop_0 rfl (lv_at hl 0 rfl) ?_
  refine lv_iconst (v := 0) hx hb dM_drop_1 (by decide) ?_
  refine va_put (D := (dC, dI)) (ci := 1) (v := .int 0) (ty := .int) (C := RM) (T := FM) (N := 7) hx hb hT in_M TM tM_ok nM_ hown hK hP hD hS 0 rfl rfl 0 (by decide) (hT _ tt_217) (fun _ h9 => h9) rfl (by decide +kernel) rfl rfl (Nat.le_of_ble_eq_true rfl) dM_drop_2 (fun H locs hP hD hS => ?_)
  have hP : va_P (dC, dI) tw_cl [(h0, .inr (1, [.int 0, .ref a0, .ref a1, .ref a2, .ref a3, .int nx, .long ck])), (a0, .inl (k0, 100, .inl th)), (a1, .inl (k1, 100, .inr (.inl tm))), (a2, .inl (k2, 100, .inl pr)), (a3, .inl (k3, 100, .inl ag))] H := hP
  have hD : va_D A [(h0, .inr (1, [.int 0, .ref a0, .ref a1, .ref a2, .ref a3, .int nx, .long ck])), (a0, .inl (k0, 100, .inl th)), (a1, .inl (k1, 100, .inr (.inl tm))), (a2, .inl (k2, 100, .inl pr)), (a3, .inl (k3, 100, .inl ag))] := hD
  refine lv_iload_n hx hb dM_drop_5 rfl (lv_at hl 1 rfl) ?_
  refine lv_if_lt (tgt := 15) hx hb dM_drop_6 (by decide) (fun hc1 => ?_) (fun hc1 => ?_)
  · -- taken at 6: j < 0
    refine lv_aload_n hx hb dM_drop_15 rfl (lv_at hl 0 rfl) ?_
    refine lv_iconst (v := 1) hx hb dM_drop_16 (by decide) ?_
    have hFc := va_free (wc := (tw_wM h0 a0 a1 a2 a3 k0 k1 k2 k3 0 th tm pr ag ck nx)) hD hS hA [0, 1, 2, 3, 4] rfl
    refine va_calli (va_runV (C := RM) (b := h0) (As := [.int 1]) (rest := []) ⟨hx, hb, hml, hown, hT⟩ (cM_fail l dC dI h0 a0 a1 a2 a3 k0 k1 k2 k3 0 th tm pr ag ck nx H.size 1) (cwV 1 hT (tw_gV tt_248 tt_250 tp_M_fail tt_2 tt_251) rfl rfl rfl ⟨rfl, by decide +kernel⟩ ⟨Nat.le_of_ble_eq_true rfl, Nat.le_of_ble_eq_true rfl⟩) ⟨fun a U g mk q => by obtain ⟨q0, q1, qP, qK, qD⟩ := q; exact ⟨q0, q1, qP, va_K.moved (u := U) (U := U.calling g mk a) (Vm.Alike.refl U.vm) qK, qD⟩, va_recv (q0 := 0) (ci := 1) hK hP rfl rfl, fun U hU hW => ⟨rfl, by rw [hU], by rw [hU]; exact hP, va_K.moved hW.alike hK, hD.weaken (fun _ _ _ _ => trivial)⟩⟩ rfl rfl hl.1 rfl (lv_room (Nat.le_of_ble_eq_true rfl)) dM_drop_17 ⟨Nat.le_of_ble_eq_true rfl, Nat.le_of_ble_eq_true rfl⟩) hS (fun q _ h => hFc q h) hFc (fun r9 u9 t9 H1 locs ht9 hvm9 hw9 hB9 hz9 hk9 hS => ?_)
    obtain ⟨hP1, hD1⟩ := hB9
    rw [ht9] at hP1
    have hw9 : r9 = 0 := hw9
    subst hw9
    obtain ⟨hP, hD⟩ := va_join (wr := []) (w1 := (tw_wM h0 a0 a1 a2 a3 k0 k1 k2 k3 1 th tm pr ag ck nx)) hP hD [0, 1, 2, 3, 4] [] rfl rfl (by decide) (by decide) hk9 hFc hP1 hD1
    generalize H1 = H at hP hS ⊢
    have hP : va_P (dC, dI) tw_cl [(h0, .inr (1, [.int 1, .ref a0, .ref a1, .ref a2, .ref a3, .int nx, .long ck])), (a0, .inl (k0, 100, .inl th)), (a1, .inl (k1, 100, .inr (.inl tm))), (a2, .inl (k2, 100, .inl pr)), (a3, .inl (k3, 100, .inl ag))] H := hP
    have hD : va_D A [(h0, .inr (1, [.int 1, .ref a0, .ref a1, .ref a2, .ref a3, .int nx, .long ck])), (a0, .inl (k0, 100, .inl th)), (a1, .inl (k1, 100, .inr (.inl tm))), (a2, .inl (k2, 100, .inl pr)), (a3, .inl (k3, 100, .inl ag))] := hD
    refine lv_i2l hx hb dM_drop_20 rfl ?_
    exact W.lret hx hb hr (fun t ht hW => ⟨⟨_, (), rfl, rfl, by rw [ht]; exact hP, hD⟩, hS.F ht⟩) hS.2.2 dM_drop_21
  · -- not taken at 6: j < 0
    refine lv_iload_n hx hb dM_drop_9 rfl (lv_at hl 1 rfl) ?_
    refine lv_bipush (v := 99) hx hb dM_drop_10 (by decide) ?_
    refine lv_icmp_le (tgt := 22) hx hb dM_drop_12 (by decide) (fun hc2 => absurd hc2 (fun z => hj (tw_vp99.mpr ⟨hc1, z⟩))) (fun hc2 => ?_)
    refine lv_aload_n hx hb dM_drop_15 rfl (lv_at hl 0 rfl) ?_
    refine lv_iconst (v := 1) hx hb dM_drop_16 (by decide) ?_
    have hFc := va_free (wc := (tw_wM h0 a0 a1 a2 a3 k0 k1 k2 k3 0 th tm pr ag ck nx)) hD hS hA [0, 1, 2, 3, 4] rfl
    refine va_calli (va_runV (C := RM) (b := h0) (As := [.int 1]) (rest := []) ⟨hx, hb, hml, hown, hT⟩ (cM_fail l dC dI h0 a0 a1 a2 a3 k0 k1 k2 k3 0 th tm pr ag ck nx H.size 1) (cwV 1 hT (tw_gV tt_248 tt_250 tp_M_fail tt_2 tt_251) rfl rfl rfl ⟨rfl, by decide +kernel⟩ ⟨Nat.le_of_ble_eq_true rfl, Nat.le_of_ble_eq_true rfl⟩) ⟨fun a U g mk q => by obtain ⟨q0, q1, qP, qK, qD⟩ := q; exact ⟨q0, q1, qP, va_K.moved (u := U) (U := U.calling g mk a) (Vm.Alike.refl U.vm) qK, qD⟩, va_recv (q0 := 0) (ci := 1) hK hP rfl rfl, fun U hU hW => ⟨rfl, by rw [hU], by rw [hU]; exact hP, va_K.moved hW.alike hK, hD.weaken (fun _ _ _ _ => trivial)⟩⟩ rfl rfl hl.1 rfl (lv_room (Nat.le_of_ble_eq_true rfl)) dM_drop_17 ⟨Nat.le_of_ble_eq_true rfl, Nat.le_of_ble_eq_true rfl⟩) hS (fun q _ h => hFc q h) hFc (fun r9 u9 t9 H1 locs ht9 hvm9 hw9 hB9 hz9 hk9 hS => ?_)
    obtain ⟨hP1, hD1⟩ := hB9
    rw [ht9] at hP1
    have hw9 : r9 = 0 := hw9
    subst hw9
    obtain ⟨hP, hD⟩ := va_join (wr := []) (w1 := (tw_wM h0 a0 a1 a2 a3 k0 k1 k2 k3 1 th tm pr ag ck nx)) hP hD [0, 1, 2, 3, 4] [] rfl rfl (by decide) (by decide) hk9 hFc hP1 hD1
    generalize H1 = H at hP hS ⊢
    have hP : va_P (dC, dI) tw_cl [(h0, .inr (1, [.int 1, .ref a0, .ref a1, .ref a2, .ref a3, .int nx, .long ck])), (a0, .inl (k0, 100, .inl th)), (a1, .inl (k1, 100, .inr (.inl tm))), (a2, .inl (k2, 100, .inl pr)), (a3, .inl (k3, 100, .inl ag))] H := hP
    have hD : va_D A [(h0, .inr (1, [.int 1, .ref a0, .ref a1, .ref a2, .ref a3, .int nx, .long ck])), (a0, .inl (k0, 100, .inl th)), (a1, .inl (k1, 100, .inr (.inl tm))), (a2, .inl (k2, 100, .inl pr)), (a3, .inl (k3, 100, .inl ag))] := hD
    refine lv_i2l hx hb dM_drop_20 rfl ?_
    exact W.lret hx hb hr (fun t ht hW => ⟨⟨_, (), rfl, rfl, by rw [ht]; exact hP, hD⟩, hS.F ht⟩) hS.2.2 dM_drop_21
set_option maxHeartbeats 4000000 in
set_option maxRecDepth 100000 in
theorem cM_dropN (l : Launch) (dC : Nat → ClassId) (dI : Nat → Nat → Nat) (h0 a0 a1 a2 a3 : Nat) (k0 k1 k2 k3 : ClassId) (fl : Int32) (th : Nat → Int32) (tm : Nat → Int64) (pr ag : Nat → Int32) (ck : Int64) (nx : Int32) (sz : Nat) (j : Int32) (hj : vp_in j 100) (ht : th j.toNatClampNeg = 0) : Met l yM_drop (Cond.code yM_drop bM_drop 2 (some .long) :: tw_T) { frames := 2, cells := 0, slots := 0, locals := 80 } (va_Pc [.ref h0, .int j] (fun U => U.heap.size = sz ∧ va_P (dC, dI) tw_cl (tw_wM h0 a0 a1 a2 a3 k0 k1 k2 k3 fl th tm pr ag ck nx) U.heap ∧ va_K (dC, dI) tw_cl (tw_k k0 k1 k2 k3) U ∧ va_D (fun _ => True) (tw_wM h0 a0 a1 a2 a3 k0 k1 k2 k3 fl th tm pr ag ck nx))) (va_Ql (S := Unit) (fun r _ => r = 0) (fun _ tz => va_P (dC, dI) tw_cl (tw_wM h0 a0 a1 a2 a3 k0 k1 k2 k3 2 th tm pr ag ck nx) tz.heap ∧ va_D (va_A (tw_wM h0 a0 a1 a2 a3 k0 k1 k2 k3 fl th tm pr ag ck nx) sz) (tw_wM h0 a0 a1 a2 a3 k0 k1 k2 k3 2 th tm pr ag ck nx)) (va_A (tw_wM h0 a0 a1 a2 a3 k0 k1 k2 k3 fl th tm pr ag ck nx) sz)) 0 0 (va_A (tw_wM h0 a0 a1 a2 a3 k0 k1 k2 k3 fl th tm pr ag ck nx) sz) := by
  refine Met.ofW (cc := bM_drop) (maxL := 2) (ret := some .long) (by decide) rfl ?_
  intro p e s m args below meth c s₁ B hml hv
  obtain ⟨rfl, hsz, hP, hK, hD0⟩ := hv
  have hx := B.exec
  have hb := B.bytes
  have hr := B.returns
  have hT := fun (w : Cond) (h : w ∈ tw_T) => atoms_spec (ws := Cond.code yM_drop bM_drop 2 (some .long) :: tw_T) B.pre w (List.mem_cons_of_mem _ h)
  have hown : s.vm.findClass RM = some m.cls := findClass_of_methodNamed B.named
  have hlocks := B.notSynchronized
  have hl := lv_entry ([.ref h0, .int j]) (n := 2) (Nat.le_of_ble_eq_true rfl)
  rw [lg_entry_eq]
  generalize (lg_sl ([.ref h0, .int j]) ++ List.replicate (2 - (lg_sl ([.ref h0, .int j])).length) Slot.unset).toArray = ls at hl ⊢
  have hl : lv_has ls 2 [(0, .ref h0), (1, .int j)] := hl
  subst hsz
  have hD := hD0.self (sz := s.heap.size)
  generalize hAe : va_A (tw_wM h0 a0 a1 a2 a3 k0 k1 k2 k3 fl th tm pr ag ck nx) s.heap.size = A at hD ⊢
  have hA : ∀ q : Nat, s.heap.size ≤ q → A q := fun q h => by rw [← hAe]; exact Or.inr h
  have hS : va_S A s.heap s.heap [] := va_S.rf
  refine lv_aload_n hx hb dM_drop_0 rfl (lv_at hl 0 rfl) ?_
  refine lv_iconst (v := 0) hx hb dM_drop_1 (by decide) ?_
  refine va_put (D := (dC, dI)) (ci := 1) (v := .int 0) (ty := .int) (C := RM) (T := FM) (N := 7) hx hb hT in_M TM tM_ok nM_ hown hK hP hD hS 0 rfl rfl 0 (by decide) (hT _ tt_217) (fun _ h9 => h9) rfl (by decide +kernel) rfl rfl (Nat.le_of_ble_eq_true rfl) dM_drop_2 (fun H locs hP hD hS => ?_)
  have hP : va_P (dC, dI) tw_cl [(h0, .inr (1, [.int 0, .ref a0, .ref a1, .ref a2, .ref a3, .int nx, .long ck])), (a0, .inl (k0, 100, .inl th)), (a1, .inl (k1, 100, .inr (.inl tm))), (a2, .inl (k2, 100, .inl pr)), (a3, .inl (k3, 100, .inl ag))] H := hP
  have hD : va_D A [(h0, .inr (1, [.int 0, .ref a0, .ref a1, .ref a2, .ref a3, .int nx, .long ck])), (a0, .inl (k0, 100, .inl th)), (a1, .inl (k1, 100, .inr (.inl tm))), (a2, .inl (k2, 100, .inl pr)), (a3, .inl (k3, 100, .inl ag))] := hD
  refine lv_iload_n hx hb dM_drop_5 rfl (lv_at hl 1 rfl) ?_
  refine lv_if_lt (tgt := 15) hx hb dM_drop_6 (by decide) (fun hc1 => absurd hc1 ((tw_vp99.mp hj).1)) (fun hc1 => ?_)
  refine lv_iload_n hx hb dM_drop_9 rfl (lv_at hl 1 rfl) ?_
  refine lv_bipush (v := 99) hx hb dM_drop_10 (by decide) ?_
  refine lv_icmp_le (tgt := 22) hx hb dM_drop_12 (by decide) (fun hc2 => ?_) (fun hc2 => absurd ((tw_vp99.mp hj).2) hc2)
  refine lv_aload_n hx hb dM_drop_22 rfl (lv_at hl 0 rfl) ?_
  refine va_get (D := (dC, dI)) (ci := 1) (v := .ref a0) (C := RM) (T := FM) (N := 7) hx hb hT in_M hown hK hP 0 rfl rfl 1 (by decide) (hT _ tt_218) (fun _ h9 => h9) rfl dM_drop_23 ?_
  refine lv_iload_n hx hb dM_drop_26 rfl (lv_at hl 1 rfl) ?_
  refine va_zald hx hb hK hP 1 0 rfl rfl hj dM_drop_27 ?_
  refine lv_if_ne (tgt := 38) hx hb dM_drop_28 (by decide) (fun hc3 => absurd ht hc3) (fun hc3 => ?_)
  refine lv_aload_n hx hb dM_drop_31 rfl (lv_at hl 0 rfl) ?_
  refine lv_iconst (v := 2) hx hb dM_drop_32 (by decide) ?_
  have hFc := va_free (wc := (tw_wM h0 a0 a1 a2 a3 k0 k1 k2 k3 0 th tm pr ag ck nx)) hD hS hA [0, 1, 2, 3, 4] rfl
  refine va_calli (va_runV (C := RM) (b := h0) (As := [.int 2]) (rest := []) ⟨hx, hb, hml, hown, hT⟩ (cM_fail l dC dI h0 a0 a1 a2 a3 k0 k1 k2 k3 0 th tm pr ag ck nx H.size 2) (cwV 1 hT (tw_gV tt_248 tt_250 tp_M_fail tt_2 tt_251) rfl rfl rfl ⟨rfl, by decide +kernel⟩ ⟨Nat.le_of_ble_eq_true rfl, Nat.le_of_ble_eq_true rfl⟩) ⟨fun a U g mk q => by obtain ⟨q0, q1, qP, qK, qD⟩ := q; exact ⟨q0, q1, qP, va_K.moved (u := U) (U := U.calling g mk a) (Vm.Alike.refl U.vm) qK, qD⟩, va_recv (q0 := 0) (ci := 1) hK hP rfl rfl, fun U hU hW => ⟨rfl, by rw [hU], by rw [hU]; exact hP, va_K.moved hW.alike hK, hD.weaken (fun _ _ _ _ => trivial)⟩⟩ rfl rfl hl.1 rfl (lv_room (Nat.le_of_ble_eq_true rfl)) dM_drop_33 ⟨Nat.le_of_ble_eq_true rfl, Nat.le_of_ble_eq_true rfl⟩) hS (fun q _ h => hFc q h) hFc (fun r9 u9 t9 H1 locs ht9 hvm9 hw9 hB9 hz9 hk9 hS => ?_)
  obtain ⟨hP1, hD1⟩ := hB9
  rw [ht9] at hP1
  have hw9 : r9 = 0 := hw9
  subst hw9
  obtain ⟨hP, hD⟩ := va_join (wr := []) (w1 := (tw_wM h0 a0 a1 a2 a3 k0 k1 k2 k3 2 th tm pr ag ck nx)) hP hD [0, 1, 2, 3, 4] [] rfl rfl (by decide) (by decide) hk9 hFc hP1 hD1
  generalize H1 = H at hP hS ⊢
  have hP : va_P (dC, dI) tw_cl [(h0, .inr (1, [.int 2, .ref a0, .ref a1, .ref a2, .ref a3, .int nx, .long ck])), (a0, .inl (k0, 100, .inl th)), (a1, .inl (k1, 100, .inr (.inl tm))), (a2, .inl (k2, 100, .inl pr)), (a3, .inl (k3, 100, .inl ag))] H := hP
  have hD : va_D A [(h0, .inr (1, [.int 2, .ref a0, .ref a1, .ref a2, .ref a3, .int nx, .long ck])), (a0, .inl (k0, 100, .inl th)), (a1, .inl (k1, 100, .inr (.inl tm))), (a2, .inl (k2, 100, .inl pr)), (a3, .inl (k3, 100, .inl ag))] := hD
  refine lv_i2l hx hb dM_drop_36 rfl ?_
  exact W.lret hx hb hr (fun t ht hW => ⟨⟨_, (), rfl, rfl, by rw [ht]; exact hP, hD⟩, hS.F ht⟩) hS.2.2 dM_drop_37
set_option maxHeartbeats 4000000 in
set_option maxRecDepth 100000 in
theorem cM_take (l : Launch) (dC : Nat → ClassId) (dI : Nat → Nat → Nat) (h0 a0 a1 a2 a3 : Nat) (k0 k1 k2 k3 : ClassId) (fl : Int32) (th : Nat → Int32) (tm : Nat → Int64) (pr ag : Nat → Int32) (ck : Int64) (nx : Int32) (sz : Nat) (hf : ¬ tw_first th tm pr ag ck 100 = -1) : Met l yM_take (Cond.code yM_take bM_take 3 (some .int) :: tw_T) { frames := 2, cells := 0, slots := 0, locals := 80 } (va_Pc [.ref h0] (fun U => U.heap.size = sz ∧ va_P (dC, dI) tw_cl (tw_wM h0 a0 a1 a2 a3 k0 k1 k2 k3 fl th tm pr ag ck nx) U.heap ∧ va_K (dC, dI) tw_cl (tw_k k0 k1 k2 k3) U ∧ va_D (fun _ => True) (tw_wM h0 a0 a1 a2 a3 k0 k1 k2 k3 fl th tm pr ag ck nx))) (va_Qi (S := Unit) (fun r _ => r = tw_first th tm pr ag ck 100) (fun _ tz => va_P (dC, dI) tw_cl (tw_wM h0 a0 a1 a2 a3 k0 k1 k2 k3 0 (upd th (tw_first th tm pr ag ck 100).toNatClampNeg (vp_nar .boolean 0)) tm pr ag ck nx) tz.heap ∧ va_D (va_A (tw_wM h0 a0 a1 a2 a3 k0 k1 k2 k3 fl th tm pr ag ck nx) sz) (tw_wM h0 a0 a1 a2 a3 k0 k1 k2 k3 0 (upd th (tw_first th tm pr ag ck 100).toNatClampNeg (vp_nar .boolean 0)) tm pr ag ck nx)) (va_A (tw_wM h0 a0 a1 a2 a3 k0 k1 k2 k3 fl th tm pr ag ck nx) sz)) 0 0 (va_A (tw_wM h0 a0 a1 a2 a3 k0 k1 k2 k3 fl th tm pr ag ck nx) sz) := by
  refine Met.ofW (cc := bM_take) (maxL := 3) (ret := some .int) (by decide) rfl ?_
  intro p e s m args below meth c s₁ B hml hv
  obtain ⟨rfl, hsz, hP, hK, hD0⟩ := hv
  have hx := B.exec
  have hb := B.bytes
  have hr := B.returns
  have hT := fun (w : Cond) (h : w ∈ tw_T) => atoms_spec (ws := Cond.code yM_take bM_take 3 (some .int) :: tw_T) B.pre w (List.mem_cons_of_mem _ h)
  have hown : s.vm.findClass RM = some m.cls := findClass_of_methodNamed B.named
  have hlocks := B.notSynchronized
  have hl := lv_entry ([.ref h0]) (n := 3) (Nat.le_of_ble_eq_true rfl)
  rw [lg_entry_eq]
  generalize (lg_sl ([.ref h0]) ++ List.replicate (3 - (lg_sl ([.ref h0])).length) Slot.unset).toArray = ls at hl ⊢
  have hl : lv_has ls 3 [(0, .ref h0)] := hl
  subst hsz
  have hD := hD0.self (sz := s.heap.size)
  generalize hAe : va_A (tw_wM h0 a0 a1 a2 a3 k0 k1 k2 k3 fl th tm pr ag ck nx) s.heap.size = A at hD ⊢
  have hA : ∀ q : Nat, s.heap.size ≤ q → A q := fun q h => by rw [← hAe]; exact Or.inr h
  have hS : va_S A s.heap s.heap [] := va_S.rf
  refine lv_aload_n hx hb dM_take_0 rfl (lv_at hl 0 rfl) ?_
  refine lv_iconst (v := 0) hx hb dM_take_1 (by decide) ?_
  refine va_put (D := (dC, dI)) (ci := 1) (v := .int 0) (ty := .int) (C := RM) (T := FM) (N := 7) hx hb hT in_M TM tM_ok nM_ hown hK hP hD hS 0 rfl rfl 0 (by decide) (hT _ tt_217) (fun _ h9 => h9) rfl (by decide +kernel) rfl rfl (Nat.le_of_ble_eq_true rfl) dM_take_2 (fun H locs hP hD hS => ?_)
  have hP : va_P (dC, dI) tw_cl [(h0, .inr (1, [.int 0, .ref a0, .ref a1, .ref a2, .ref a3, .int nx, .long ck])), (a0, .inl (k0, 100, .inl th)), (a1, .inl (k1, 100, .inr (.inl tm))), (a2, .inl (k2, 100, .inl pr)), (a3, .inl (k3, 100, .inl ag))] H := hP
  have hD : va_D A [(h0, .inr (1, [.int 0, .ref a0, .ref a1, .ref a2, .ref a3, .int nx, .long ck])), (a0, .inl (k0, 100, .inl th)), (a1, .inl (k1, 100, .inr (.inl tm))), (a2, .inl (k2, 100, .inl pr)), (a3, .inl (k3, 100, .inl ag))] := hD
  refine lv_iconst (v := -1) hx hb dM_take_5 (by decide) ?_
  refine lv_istore_n hx hb dM_take_6 rfl hl (by decide) rfl (fun ls hl => ?_)
  have hl : lv_has ls 3 [(1, .int (-1)), (0, .ref h0)] := hl
  refine lv_iconst (v := 0) hx hb dM_take_7 (by decide) ?_
  refine lv_istore_n hx hb dM_take_8 rfl hl (by decide) rfl (fun ls hl => ?_)
  have hl : lv_has ls 3 [(2, .int 0), (1, .int (-1)), (0, .ref h0)] := hl
  have hl : lv_has ls 3 [(2, .int 0), (1, .int (-1)), (0, .ref h0)] := hl
  refine lpM_take dC dI h0 a0 a1 a2 a3 k0 k1 k2 k3 0 th tm pr ag ck nx hx hb hml hT hown hP hK ⟨Nat.le_of_ble_eq_true rfl, Nat.le_of_ble_eq_true rfl⟩ ⟨Nat.le_of_ble_eq_true rfl, Nat.le_of_ble_eq_true rfl⟩ (fun ls hl => ?_) 100 0 rfl ls (lv_sub hl [0, 1, 2] rfl)
  refine lv_iload_n hx hb dM_take_115 rfl (lv_at hl 1 rfl) ?_
  refine lv_if_ge (tgt := 125) hx hb dM_take_116 (by decide) (fun hc1 => ?_) (fun hc1 => absurd (Int32.not_lt.mp (fun z => hf ((tw_first_neg (Nat.le_refl _)).mp z))) hc1)
  refine lv_aload_n hx hb dM_take_125 rfl (lv_at hl 2 rfl) ?_
  refine va_get (D := (dC, dI)) (ci := 1) (v := .ref a0) (C := RM) (T := FM) (N := 7) hx hb hT in_M hown hK hP 0 rfl rfl 1 (by decide) (hT _ tt_218) (fun _ h9 => h9) rfl dM_take_126 ?_
  refine lv_iload_n hx hb dM_take_129 rfl (lv_at hl 1 rfl) ?_
  refine lv_iconst (v := 0) hx hb dM_take_130 (by decide) ?_
  refine va_zast hx hb hK hP hD hS 1 0 rfl rfl (tw_first_vp (Nat.le_refl _) hf) dM_take_131 (fun H locs hP hD hS => ?_)
  have hP : va_P (dC, dI) tw_cl [(h0, .inr (1, [.int 0, .ref a0, .ref a1, .ref a2, .ref a3, .int nx, .long ck])), (a0, .inl (k0, 100, .inl (upd th (tw_first th tm pr ag ck 100).toNatClampNeg (vp_nar .boolean 0)))), (a1, .inl (k1, 100, .inr (.inl tm))), (a2, .inl (k2, 100, .inl pr)), (a3, .inl (k3, 100, .inl ag))] H := hP
  have hD : va_D A [(h0, .inr (1, [.int 0, .ref a0, .ref a1, .ref a2, .ref a3, .int nx, .long ck])), (a0, .inl (k0, 100, .inl (upd th (tw_first th tm pr ag ck 100).toNatClampNeg (vp_nar .boolean 0)))), (a1, .inl (k1, 100, .inr (.inl tm))), (a2, .inl (k2, 100, .inl pr)), (a3, .inl (k3, 100, .inl ag))] := hD
  refine lv_iload_n hx hb dM_take_132 rfl (lv_at hl 1 rfl) ?_
  exact W.iret hx hb hr (fun t ht hW => ⟨⟨_, (), rfl, rfl, by rw [ht]; exact hP, hD⟩, hS.F ht⟩) hS.2.2 dM_take_133
set_option maxHeartbeats 4000000 in
set_option maxRecDepth 100000 in
theorem cM_takeB (l : Launch) (dC : Nat → ClassId) (dI : Nat → Nat → Nat) (h0 a0 a1 a2 a3 : Nat) (k0 k1 k2 k3 : ClassId) (fl : Int32) (th : Nat → Int32) (tm : Nat → Int64) (pr ag : Nat → Int32) (ck : Int64) (nx : Int32) (sz : Nat) (hf : tw_first th tm pr ag ck 100 = -1) : Met l yM_take (Cond.code yM_take bM_take 3 (some .int) :: tw_T) { frames := 2, cells := 0, slots := 0, locals := 80 } (va_Pc [.ref h0] (fun U => U.heap.size = sz ∧ va_P (dC, dI) tw_cl (tw_wM h0 a0 a1 a2 a3 k0 k1 k2 k3 fl th tm pr ag ck nx) U.heap ∧ va_K (dC, dI) tw_cl (tw_k k0 k1 k2 k3) U ∧ va_D (fun _ => True) (tw_wM h0 a0 a1 a2 a3 k0 k1 k2 k3 fl th tm pr ag ck nx))) (va_Qi (S := Unit) (fun r _ => r = 0) (fun _ tz => va_P (dC, dI) tw_cl (tw_wM h0 a0 a1 a2 a3 k0 k1 k2 k3 1 th tm pr ag ck nx) tz.heap ∧ va_D (va_A (tw_wM h0 a0 a1 a2 a3 k0 k1 k2 k3 fl th tm pr ag ck nx) sz) (tw_wM h0 a0 a1 a2 a3 k0 k1 k2 k3 1 th tm pr ag ck nx)) (va_A (tw_wM h0 a0 a1 a2 a3 k0 k1 k2 k3 fl th tm pr ag ck nx) sz)) 0 0 (va_A (tw_wM h0 a0 a1 a2 a3 k0 k1 k2 k3 fl th tm pr ag ck nx) sz) := by
  refine Met.ofW (cc := bM_take) (maxL := 3) (ret := some .int) (by decide) rfl ?_
  intro p e s m args below meth c s₁ B hml hv
  obtain ⟨rfl, hsz, hP, hK, hD0⟩ := hv
  have hx := B.exec
  have hb := B.bytes
  have hr := B.returns
  have hT := fun (w : Cond) (h : w ∈ tw_T) => atoms_spec (ws := Cond.code yM_take bM_take 3 (some .int) :: tw_T) B.pre w (List.mem_cons_of_mem _ h)
  have hown : s.vm.findClass RM = some m.cls := findClass_of_methodNamed B.named
  have hlocks := B.notSynchronized
  have hl := lv_entry ([.ref h0]) (n := 3) (Nat.le_of_ble_eq_true rfl)
  rw [lg_entry_eq]
  generalize (lg_sl ([.ref h0]) ++ List.replicate (3 - (lg_sl ([.ref h0])).length) Slot.unset).toArray = ls at hl ⊢
  have hl : lv_has ls 3 [(0, .ref h0)] := hl
  subst hsz
  have hD := hD0.self (sz := s.heap.size)
  generalize hAe : va_A (tw_wM h0 a0 a1 a2 a3 k0 k1 k2 k3 fl th tm pr ag ck nx) s.heap.size = A at hD ⊢
  have hA : ∀ q : Nat, s.heap.size ≤ q → A q := fun q h => by rw [← hAe]; exact Or.inr h
  have hS : va_S A s.heap s.heap [] := va_S.rf
  refine lv_aload_n hx hb dM_take_0 rfl (lv_at hl 0 rfl) ?_
  refine lv_iconst (v := 0) hx hb dM_take_1 (by decide) ?_
  refine va_put (D := (dC, dI)) (ci := 1) (v := .int 0) (ty := .int) (C := RM) (T := FM) (N := 7) hx hb hT in_M TM tM_ok nM_ hown hK hP hD hS 0 rfl rfl 0 (by decide) (hT _ tt_217) (fun _ h9 => h9) rfl (by decide +kernel) rfl rfl (Nat.le_of_ble_eq_true rfl) dM_take_2 (fun H locs hP hD hS => ?_)
  have hP : va_P (dC, dI) tw_cl [(h0, .inr (1, [.int 0, .ref a0, .ref a1, .ref a2, .ref a3, .int nx, .long ck])), (a0, .inl (k0, 100, .inl th)), (a1, .inl (k1, 100, .inr (.inl tm))), (a2, .inl (k2, 100, .inl pr)), (a3, .inl (k3, 100, .inl ag))] H := hP
  have hD : va_D A [(h0, .inr (1, [.int 0, .ref a0, .ref a1, .ref a2, .ref a3, .int nx, .long ck])), (a0, .inl (k0, 100, .inl th)), (a1, .inl (k1, 100, .inr (.inl tm))), (a2, .inl (k2, 100, .inl pr)), (a3, .inl (k3, 100, .inl ag))] := hD
  refine lv_iconst (v := -1) hx hb dM_take_5 (by decide) ?_
  refine lv_istore_n hx hb dM_take_6 rfl hl (by decide) rfl (fun ls hl => ?_)
  have hl : lv_has ls 3 [(1, .int (-1)), (0, .ref h0)] := hl
  refine lv_iconst (v := 0) hx hb dM_take_7 (by decide) ?_
  refine lv_istore_n hx hb dM_take_8 rfl hl (by decide) rfl (fun ls hl => ?_)
  have hl : lv_has ls 3 [(2, .int 0), (1, .int (-1)), (0, .ref h0)] := hl
  have hl : lv_has ls 3 [(2, .int 0), (1, .int (-1)), (0, .ref h0)] := hl
  refine lpM_take dC dI h0 a0 a1 a2 a3 k0 k1 k2 k3 0 th tm pr ag ck nx hx hb hml hT hown hP hK ⟨Nat.le_of_ble_eq_true rfl, Nat.le_of_ble_eq_true rfl⟩ ⟨Nat.le_of_ble_eq_true rfl, Nat.le_of_ble_eq_true rfl⟩ (fun ls hl => ?_) 100 0 rfl ls (lv_sub hl [0, 1, 2] rfl)
  refine lv_iload_n hx hb dM_take_115 rfl (lv_at hl 1 rfl) ?_
  refine lv_if_ge (tgt := 125) hx hb dM_take_116 (by decide) (fun hc1 => absurd hc1 (Int32.not_le.mpr ((tw_first_neg (Nat.le_refl _)).mpr hf))) (fun hc1 => ?_)
  refine lv_aload_n hx hb dM_take_119 rfl (lv_at hl 2 rfl) ?_
  refine lv_iconst (v := 1) hx hb dM_take_120 (by decide) ?_
  have hFc := va_free (wc := (tw_wM h0 a0 a1 a2 a3 k0 k1 k2 k3 0 th tm pr ag ck nx)) hD hS hA [0, 1, 2, 3, 4] rfl
  refine va_calli (va_runV (C := RM) (b := h0) (As := [.int 1]) (rest := []) ⟨hx, hb, hml, hown, hT⟩ (cM_fail l dC dI h0 a0 a1 a2 a3 k0 k1 k2 k3 0 th tm pr ag ck nx H.size 1) (cwV 1 hT (tw_gV tt_248 tt_250 tp_M_fail tt_2 tt_251) rfl rfl rfl ⟨rfl, by decide +kernel⟩ ⟨Nat.le_of_ble_eq_true rfl, Nat.le_of_ble_eq_true rfl⟩) ⟨fun a U g mk q => by obtain ⟨q0, q1, qP, qK, qD⟩ := q; exact ⟨q0, q1, qP, va_K.moved (u := U) (U := U.calling g mk a) (Vm.Alike.refl U.vm) qK, qD⟩, va_recv (q0 := 0) (ci := 1) hK hP rfl rfl, fun U hU hW => ⟨rfl, by rw [hU], by rw [hU]; exact hP, va_K.moved hW.alike hK, hD.weaken (fun _ _ _ _ => trivial)⟩⟩ rfl rfl hl.1 rfl (lv_room (Nat.le_of_ble_eq_true rfl)) dM_take_121 ⟨Nat.le_of_ble_eq_true rfl, Nat.le_of_ble_eq_true rfl⟩) hS (fun q _ h => hFc q h) hFc (fun r9 u9 t9 H1 locs ht9 hvm9 hw9 hB9 hz9 hk9 hS => ?_)
  obtain ⟨hP1, hD1⟩ := hB9
  rw [ht9] at hP1
  have hw9 : r9 = 0 := hw9
  subst hw9
  obtain ⟨hP, hD⟩ := va_join (wr := []) (w1 := (tw_wM h0 a0 a1 a2 a3 k0 k1 k2 k3 1 th tm pr ag ck nx)) hP hD [0, 1, 2, 3, 4] [] rfl rfl (by decide) (by decide) hk9 hFc hP1 hD1
  generalize H1 = H at hP hS ⊢
  have hP : va_P (dC, dI) tw_cl [(h0, .inr (1, [.int 1, .ref a0, .ref a1, .ref a2, .ref a3, .int nx, .long ck])), (a0, .inl (k0, 100, .inl th)), (a1, .inl (k1, 100, .inr (.inl tm))), (a2, .inl (k2, 100, .inl pr)), (a3, .inl (k3, 100, .inl ag))] H := hP
  have hD : va_D A [(h0, .inr (1, [.int 1, .ref a0, .ref a1, .ref a2, .ref a3, .int nx, .long ck])), (a0, .inl (k0, 100, .inl th)), (a1, .inl (k1, 100, .inr (.inl tm))), (a2, .inl (k2, 100, .inl pr)), (a3, .inl (k3, 100, .inl ag))] := hD
  exact W.iret hx hb hr (fun t ht hW => ⟨⟨_, (), rfl, rfl, by rw [ht]; exact hP, hD⟩, hS.F ht⟩) hS.2.2 dM_take_124
set_option maxHeartbeats 4000000 in
set_option maxRecDepth 100000 in
theorem cM_least (l : Launch) (dC : Nat → ClassId) (dI : Nat → Nat → Nat) (h0 a0 a1 a2 a3 : Nat) (k0 k1 k2 k3 : ClassId) (fl : Int32) (th : Nat → Int32) (tm : Nat → Int64) (pr ag : Nat → Int32) (ck : Int64) (nx : Int32) (sz : Nat) (h00 : ∀ k : Nat, 0 ≤ tm k) : Met l yM_least (Cond.code yM_least bM_least 4 (some .long) :: tw_T) { frames := 2, cells := 0, slots := 0, locals := 80 } (va_Pc [.ref h0] (fun U => U.heap.size = sz ∧ va_P (dC, dI) tw_cl (tw_wM h0 a0 a1 a2 a3 k0 k1 k2 k3 fl th tm pr ag ck nx) U.heap ∧ va_K (dC, dI) tw_cl (tw_k k0 k1 k2 k3) U ∧ va_D (fun _ => True) (tw_wM h0 a0 a1 a2 a3 k0 k1 k2 k3 fl th tm pr ag ck nx))) (va_Ql (S := Unit) (fun r _ => r = tw_least th tm ck 100) (fun _ tz => va_P (dC, dI) tw_cl (tw_wM h0 a0 a1 a2 a3 k0 k1 k2 k3 0 th tm pr ag ck nx) tz.heap ∧ va_D (va_A (tw_wM h0 a0 a1 a2 a3 k0 k1 k2 k3 fl th tm pr ag ck nx) sz) (tw_wM h0 a0 a1 a2 a3 k0 k1 k2 k3 0 th tm pr ag ck nx)) (va_A (tw_wM h0 a0 a1 a2 a3 k0 k1 k2 k3 fl th tm pr ag ck nx) sz)) 0 0 (va_A (tw_wM h0 a0 a1 a2 a3 k0 k1 k2 k3 fl th tm pr ag ck nx) sz) := by
  refine Met.ofW (cc := bM_least) (maxL := 4) (ret := some .long) (by decide) rfl ?_
  intro p e s m args below meth c s₁ B hml hv
  obtain ⟨rfl, hsz, hP, hK, hD0⟩ := hv
  have hx := B.exec
  have hb := B.bytes
  have hr := B.returns
  have hT := fun (w : Cond) (h : w ∈ tw_T) => atoms_spec (ws := Cond.code yM_least bM_least 4 (some .long) :: tw_T) B.pre w (List.mem_cons_of_mem _ h)
  have hown : s.vm.findClass RM = some m.cls := findClass_of_methodNamed B.named
  have hlocks := B.notSynchronized
  have hl := lv_entry ([.ref h0]) (n := 4) (Nat.le_of_ble_eq_true rfl)
  rw [lg_entry_eq]
  generalize (lg_sl ([.ref h0]) ++ List.replicate (4 - (lg_sl ([.ref h0])).length) Slot.unset).toArray = ls at hl ⊢
  have hl : lv_has ls 4 [(0, .ref h0)] := hl
  subst hsz
  have hD := hD0.self (sz := s.heap.size)
  generalize hAe : va_A (tw_wM h0 a0 a1 a2 a3 k0 k1 k2 k3 fl th tm pr ag ck nx) s.heap.size = A at hD ⊢
  have hA : ∀ q : Nat, s.heap.size ≤ q → A q := fun q h => by rw [← hAe]; exact Or.inr h
  have hS : va_S A s.heap s.heap [] := va_S.rf
  refine lv_aload_n hx hb dM_least_0 rfl (lv_at hl 0 rfl) ?_
  refine lv_iconst (v := 0) hx hb dM_least_1 (by decide) ?_
  refine va_put (D := (dC, dI)) (ci := 1) (v := .int 0) (ty := .int) (C := RM) (T := FM) (N := 7) hx hb hT in_M TM tM_ok nM_ hown hK hP hD hS 0 rfl rfl 0 (by decide) (hT _ tt_217) (fun _ h9 => h9) rfl (by decide +kernel) rfl rfl (Nat.le_of_ble_eq_true rfl) dM_least_2 (fun H locs hP hD hS => ?_)
  have hP : va_P (dC, dI) tw_cl [(h0, .inr (1, [.int 0, .ref a0, .ref a1, .ref a2, .ref a3, .int nx, .long ck])), (a0, .inl (k0, 100, .inl th)), (a1, .inl (k1, 100, .inr (.inl tm))), (a2, .inl (k2, 100, .inl pr)), (a3, .inl (k3, 100, .inl ag))] H := hP
  have hD : va_D A [(h0, .inr (1, [.int 0, .ref a0, .ref a1, .ref a2, .ref a3, .int nx, .long ck])), (a0, .inl (k0, 100, .inl th)), (a1, .inl (k1, 100, .inr (.inl tm))), (a2, .inl (k2, 100, .inl pr)), (a3, .inl (k3, 100, .inl ag))] := hD
  refine lv_ldc2 (v := -1) hx hb hown (hT _ tt_268) dM_least_5 ?_
  refine lv_lstore_n hx hb dM_least_8 rfl hl (by decide) rfl (fun ls hl => ?_)
  have hl : lv_has ls 4 [(1, .long (-1)), (0, .ref h0)] := hl
  refine lv_iconst (v := 0) hx hb dM_least_9 (by decide) ?_
  refine lv_istore_n hx hb dM_least_10 rfl hl (by decide) rfl (fun ls hl => ?_)
  have hl : lv_has ls 4 [(3, .int 0), (1, .long (-1)), (0, .ref h0)] := hl
  have hl : lv_has ls 4 [(3, .int 0), (1, .long (-1)), (0, .ref h0)] := hl
  refine lpM_least dC dI h0 a0 a1 a2 a3 k0 k1 k2 k3 0 th tm pr ag ck nx hx hb hml hT hown hP hK h00 (fun ls hl => ?_) 100 0 rfl ls (lv_sub hl [0, 1, 2] rfl)
  refine lv_lload_n hx hb dM_least_70 rfl (lv_at hl 1 rfl) ?_
  exact W.lret hx hb hr (fun t ht hW => ⟨⟨_, (), rfl, rfl, by rw [ht]; exact hP, hD⟩, hS.F ht⟩) hS.2.2 dM_least_71
set_option maxHeartbeats 4000000 in
set_option maxRecDepth 100000 in
theorem cM_go (l : Launch) (dC : Nat → ClassId) (dI : Nat → Nat → Nat) (h0 a0 a1 a2 a3 : Nat) (k0 k1 k2 k3 : ClassId) (fl : Int32) (th : Nat → Int32) (tm : Nat → Int64) (pr ag : Nat → Int32) (ck : Int64) (nx : Int32) (sz : Nat) (n : Int64) (h1 : 0 ≤ n) (h2 : n ≤ 17592186044416) (h3 : ck + n ≤ 70368744177664) : Met l yM_go (Cond.code yM_go bM_go 3 (some .int) :: tw_T) { frames := 2, cells := 0, slots := 0, locals := 80 } (va_Pc [.ref h0, .long n] (fun U => U.heap.size = sz ∧ va_P (dC, dI) tw_cl (tw_wM h0 a0 a1 a2 a3 k0 k1 k2 k3 fl th tm pr ag ck nx) U.heap ∧ va_K (dC, dI) tw_cl (tw_k k0 k1 k2 k3) U ∧ va_D (fun _ => True) (tw_wM h0 a0 a1 a2 a3 k0 k1 k2 k3 fl th tm pr ag ck nx))) (va_Qi (S := Unit) (fun r _ => r = tw_dues th tm (ck + n) 100) (fun _ tz => va_P (dC, dI) tw_cl (tw_wM h0 a0 a1 a2 a3 k0 k1 k2 k3 0 th tm pr ag (ck + n) nx) tz.heap ∧ va_D (va_A (tw_wM h0 a0 a1 a2 a3 k0 k1 k2 k3 fl th tm pr ag ck nx) sz) (tw_wM h0 a0 a1 a2 a3 k0 k1 k2 k3 0 th tm pr ag (ck + n) nx)) (va_A (tw_wM h0 a0 a1 a2 a3 k0 k1 k2 k3 fl th tm pr ag ck nx) sz)) 0 0 (va_A (tw_wM h0 a0 a1 a2 a3 k0 k1 k2 k3 fl th tm pr ag ck nx) sz) := by
  refine Met.ofW (cc := bM_go) (maxL := 3) (ret := some .int) (by decide) rfl ?_
  intro p e s m args below meth c s₁ B hml hv
  obtain ⟨rfl, hsz, hP, hK, hD0⟩ := hv
  have hx := B.exec
  have hb := B.bytes
  have hr := B.returns
  have hT := fun (w : Cond) (h : w ∈ tw_T) => atoms_spec (ws := Cond.code yM_go bM_go 3 (some .int) :: tw_T) B.pre w (List.mem_cons_of_mem _ h)
  have hown : s.vm.findClass RM = some m.cls := findClass_of_methodNamed B.named
  have hlocks := B.notSynchronized
  have hl := lv_entry ([.ref h0, .long n]) (n := 3) (Nat.le_of_ble_eq_true rfl)
  rw [lg_entry_eq]
  generalize (lg_sl ([.ref h0, .long n]) ++ List.replicate (3 - (lg_sl ([.ref h0, .long n])).length) Slot.unset).toArray = ls at hl ⊢
  have hl : lv_has ls 3 [(0, .ref h0), (1, .long n)] := hl
  subst hsz
  have hD := hD0.self (sz := s.heap.size)
  generalize hAe : va_A (tw_wM h0 a0 a1 a2 a3 k0 k1 k2 k3 fl th tm pr ag ck nx) s.heap.size = A at hD ⊢
  have hA : ∀ q : Nat, s.heap.size ≤ q → A q := fun q h => by rw [← hAe]; exact Or.inr h
  have hS : va_S A s.heap s.heap [] := va_S.rf
  refine lv_aload_n hx hb dM_go_0 rfl (lv_at hl 0 rfl) ?_
  refine lv_iconst (v := 0) hx hb dM_go_1 (by decide) ?_
  refine va_put (D := (dC, dI)) (ci := 1) (v := .int 0) (ty := .int) (C := RM) (T := FM) (N := 7) hx hb hT in_M TM tM_ok nM_ hown hK hP hD hS 0 rfl rfl 0 (by decide) (hT _ tt_217) (fun _ h9 => h9) rfl (by decide +kernel) rfl rfl (Nat.le_of_ble_eq_true rfl) dM_go_2 (fun H locs hP hD hS => ?_)
  have hP : va_P (dC, dI) tw_cl [(h0, .inr (1, [.int 0, .ref a0, .ref a1, .ref a2, .ref a3, .int nx, .long ck])), (a0, .inl (k0, 100, .inl th)), (a1, .inl (k1, 100, .inr (.inl tm))), (a2, .inl (k2, 100, .inl pr)), (a3, .inl (k3, 100, .inl ag))] H := hP
  have hD : va_D A [(h0, .inr (1, [.int 0, .ref a0, .ref a1, .ref a2, .ref a3, .int nx, .long ck])), (a0, .inl (k0, 100, .inl th)), (a1, .inl (k1, 100, .inr (.inl tm))), (a2, .inl (k2, 100, .inl pr)), (a3, .inl (k3, 100, .inl ag))] := hD
  refine lv_lload_n hx hb dM_go_5 rfl (lv_at hl 1 rfl) ?_
  refine lv_lconst (v := 0) hx hb dM_go_6 (by decide) ?_
  refine W.lcmp hx hb dM_go_7 ?_
  refine lv_if_lt (tgt := 32) hx hb dM_go_8 (by decide) (fun hc1 => absurd hc1 (fun z => Int64.not_lt.mpr h1 ((lg_cmp_lt _ _).mp z))) (fun hc1 => ?_)
  refine lv_lload_n hx hb dM_go_11 rfl (lv_at hl 1 rfl) ?_
  refine lv_ldc2 (v := 17592186044416) hx hb hown (hT _ tt_273) dM_go_12 ?_
  refine W.lcmp hx hb dM_go_15 ?_
  refine lv_if_gt (tgt := 32) hx hb dM_go_16 (by decide) (fun hc2 => absurd hc2 (fun z => Int64.not_lt.mpr h2 ((lg_cmp_gt _ _).mp z))) (fun hc2 => ?_)
  refine lv_aload_n hx hb dM_go_19 rfl (lv_at hl 0 rfl) ?_
  refine va_get (D := (dC, dI)) (ci := 1) (v := .long ck) (C := RM) (T := FM) (N := 7) hx hb hT in_M hown hK hP 0 rfl rfl 6 (by decide) (hT _ tt_223) (fun _ h9 => h9) rfl dM_go_20 ?_
  refine lv_lload_n hx hb dM_go_23 rfl (lv_at hl 1 rfl) ?_
  refine lv_ladd hx hb dM_go_24 ?_
  refine lv_ldc2 (v := 70368744177664) hx hb hown (hT _ tt_247) dM_go_25 ?_
  refine W.lcmp hx hb dM_go_28 ?_
  refine lv_if_le (tgt := 38) hx hb dM_go_29 (by decide) (fun hc3 => ?_) (fun hc3 => absurd ((lg_cmp_le _ _).mpr h3) hc3)
  refine lv_aload_n hx hb dM_go_38 rfl (lv_at hl 0 rfl) ?_
  refine lv_dup hx hb dM_go_39 rfl ?_
  refine va_get (D := (dC, dI)) (ci := 1) (v := .long ck) (C := RM) (T := FM) (N := 7) hx hb hT in_M hown hK hP 0 rfl rfl 6 (by decide) (hT _ tt_223) (fun _ h9 => h9) rfl dM_go_40 ?_
  refine lv_lload_n hx hb dM_go_43 rfl (lv_at hl 1 rfl) ?_
  refine lv_ladd hx hb dM_go_44 ?_
  refine va_put (D := (dC, dI)) (ci := 1) (v := .long (ck + n)) (ty := .long) (C := RM) (T := FM) (N := 7) hx hb hT in_M TM tM_ok nM_ hown hK hP hD hS 0 rfl rfl 6 (by decide) (hT _ tt_223) (fun _ h9 => h9) rfl (by decide +kernel) rfl rfl (Nat.le_of_ble_eq_true rfl) dM_go_45 (fun H locs hP hD hS => ?_)
  have hP : va_P (dC, dI) tw_cl [(h0, .inr (1, [.int 0, .ref a0, .ref a1, .ref a2, .ref a3, .int nx, .long (ck + n)])), (a0, .inl (k0, 100, .inl th)), (a1, .inl (k1, 100, .inr (.inl tm))), (a2, .inl (k2, 100, .inl pr)), (a3, .inl (k3, 100, .inl ag))] H := hP
  have hD : va_D A [(h0, .inr (1, [.int 0, .ref a0, .ref a1, .ref a2, .ref a3, .int nx, .long (ck + n)])), (a0, .inl (k0, 100, .inl th)), (a1, .inl (k1, 100, .inr (.inl tm))), (a2, .inl (k2, 100, .inl pr)), (a3, .inl (k3, 100, .inl ag))] := hD
  refine lv_aload_n hx hb dM_go_48 rfl (lv_at hl 0 rfl) ?_
  refine vp_callSi (W.runV (C := RM) (b := h0) (As := []) (rest := []) ⟨hx, hb, hml, hown, hT⟩ (cM_dues l dC dI h0 a0 a1 a2 a3 k0 k1 k2 k3 0 th tm pr ag (ck + n) nx) (cwV 0 hT (tw_gV tt_274 tt_276 tp_M_dues tt_2 tt_277) rfl rfl rfl ⟨rfl, by decide +kernel⟩ ⟨Nat.le_of_ble_eq_true rfl, Nat.le_of_ble_eq_true rfl⟩) ⟨fun a U g mk q => ⟨q.1, q.2.1, va_K.moved (u := U) (U := U.calling g mk a) (Vm.Alike.refl U.vm) q.2.2⟩, va_recv (q0 := 0) (ci := 1) hK hP rfl rfl, fun U hU hW => ⟨rfl, by rw [hU]; exact hP, va_K.moved hW.alike hK⟩⟩ rfl rfl hl.1 rfl (lv_room (Nat.le_of_ble_eq_true rfl)) dM_go_49 ⟨Nat.le_of_ble_eq_true rfl, Nat.le_of_ble_eq_true rfl⟩) (fun r2 h2 => ?_)
  subst h2
  exact W.iret hx hb hr (fun t ht hW => ⟨⟨_, (), rfl, rfl, by rw [ht]; exact hP, hD⟩, hS.F ht⟩) hS.2.2 dM_go_52
set_option maxHeartbeats 4000000 in
set_option maxRecDepth 100000 in
theorem cM_goB (l : Launch) (dC : Nat → ClassId) (dI : Nat → Nat → Nat) (h0 a0 a1 a2 a3 : Nat) (k0 k1 k2 k3 : ClassId) (fl : Int32) (th : Nat → Int32) (tm : Nat → Int64) (pr ag : Nat → Int32) (ck : Int64) (nx : Int32) (sz : Nat) (n : Int64) (hbad : ¬ (0 ≤ n ∧ n ≤ 17592186044416 ∧ ck + n ≤ 70368744177664)) : Met l yM_go (Cond.code yM_go bM_go 3 (some .int) :: tw_T) { frames := 2, cells := 0, slots := 0, locals := 80 } (va_Pc [.ref h0, .long n] (fun U => U.heap.size = sz ∧ va_P (dC, dI) tw_cl (tw_wM h0 a0 a1 a2 a3 k0 k1 k2 k3 fl th tm pr ag ck nx) U.heap ∧ va_K (dC, dI) tw_cl (tw_k k0 k1 k2 k3) U ∧ va_D (fun _ => True) (tw_wM h0 a0 a1 a2 a3 k0 k1 k2 k3 fl th tm pr ag ck nx))) (va_Qi (S := Unit) (fun r _ => r = 0) (fun _ tz => va_P (dC, dI) tw_cl (tw_wM h0 a0 a1 a2 a3 k0 k1 k2 k3 1 th tm pr ag ck nx) tz.heap ∧ va_D (va_A (tw_wM h0 a0 a1 a2 a3 k0 k1 k2 k3 fl th tm pr ag ck nx) sz) (tw_wM h0 a0 a1 a2 a3 k0 k1 k2 k3 1 th tm pr ag ck nx)) (va_A (tw_wM h0 a0 a1 a2 a3 k0 k1 k2 k3 fl th tm pr ag ck nx) sz)) 0 0 (va_A (tw_wM h0 a0 a1 a2 a3 k0 k1 k2 k3 fl th tm pr ag ck nx) sz) := by
  refine Met.ofW (cc := bM_go) (maxL := 3) (ret := some .int) (by decide) rfl ?_
  intro p e s m args below meth c s₁ B hml hv
  obtain ⟨rfl, hsz, hP, hK, hD0⟩ := hv
  have hx := B.exec
  have hb := B.bytes
  have hr := B.returns
  have hT := fun (w : Cond) (h : w ∈ tw_T) => atoms_spec (ws := Cond.code yM_go bM_go 3 (some .int) :: tw_T) B.pre w (List.mem_cons_of_mem _ h)
  have hown : s.vm.findClass RM = some m.cls := findClass_of_methodNamed B.named
  have hlocks := B.notSynchronized
  have hl := lv_entry ([.ref h0, .long n]) (n := 3) (Nat.le_of_ble_eq_true rfl)
  rw [lg_entry_eq]
  generalize (lg_sl ([.ref h0, .long n]) ++ List.replicate (3 - (lg_sl ([.ref h0, .long n])).length) Slot.unset).toArray = ls at hl ⊢
  have hl : lv_has ls 3 [(0, .ref h0), (1, .long n)] := hl
  subst hsz
  have hD := hD0.self (sz := s.heap.size)
  generalize hAe : va_A (tw_wM h0 a0 a1 a2 a3 k0 k1 k2 k3 fl th tm pr ag ck nx) s.heap.size = A at hD ⊢
  have hA : ∀ q : Nat, s.heap.size ≤ q → A q := fun q h => by rw [← hAe]; exact Or.inr h
  have hS : va_S A s.heap s.heap [] := va_S.rf
  refine lv_aload_n hx hb dM_go_0 rfl (lv_at hl 0 rfl) ?_
  refine lv_iconst (v := 0) hx hb dM_go_1 (by decide) ?_
  refine va_put (D := (dC, dI)) (ci := 1) (v := .int 0) (ty := .int) (C := RM) (T := FM) (N := 7) hx hb hT in_M TM tM_ok nM_ hown hK hP hD hS 0 rfl rfl 0 (by decide) (hT _ tt_217) (fun _ h9 => h9) rfl (by decide +kernel) rfl rfl (Nat.le_of_ble_eq_true rfl) dM_go_2 (fun H locs hP hD hS => ?_)
  have hP : va_P (dC, dI) tw_cl [(h0, .inr (1, [.int 0, .ref a0, .ref a1, .ref a2, .ref a3, .int nx, .long ck])), (a0, .inl (k0, 100, .inl th)), (a1, .inl (k1, 100, .inr (.inl tm))), (a2, .inl (k2, 100, .inl pr)), (a3, .inl (k3, 100, .inl ag))] H := hP
  have hD : va_D A [(h0, .inr (1, [.int 0, .ref a0, .ref a1, .ref a2, .ref a3, .int nx, .long ck])), (a0, .inl (k0, 100, .inl th)), (a1, .inl (k1, 100, .inr (.inl tm))), (a2, .inl (k2, 100, .inl pr)), (a3, .inl (k3, 100, .inl ag))] := hD
  refine lv_lload_n hx hb dM_go_5 rfl (lv_at hl 1 rfl) ?_
  refine lv_lconst (v := 0) hx hb dM_go_6 (by decide) ?_
  refine W.lcmp hx hb dM_go_7 ?_
  refine lv_if_lt (tgt := 32) hx hb dM_go_8 (by decide) (fun hc1 => ?_) (fun hc1 => ?_)
  · -- taken at 8: lg_cmp n 0 < 0
    refine lv_aload_n hx hb dM_go_32 rfl (lv_at hl 0 rfl) ?_
    refine lv_iconst (v := 1) hx hb dM_go_33 (by decide) ?_
    have hFc := va_free (wc := (tw_wM h0 a0 a1 a2 a3 k0 k1 k2 k3 0 th tm pr ag ck nx)) hD hS hA [0, 1, 2, 3, 4] rfl
    refine va_calli (va_runV (C := RM) (b := h0) (As := [.int 1]) (rest := []) ⟨hx, hb, hml, hown, hT⟩ (cM_fail l dC dI h0 a0 a1 a2 a3 k0 k1 k2 k3 0 th tm pr ag ck nx H.size 1) (cwV 1 hT (tw_gV tt_248 tt_250 tp_M_fail tt_2 tt_251) rfl rfl rfl ⟨rfl, by decide +kernel⟩ ⟨Nat.le_of_ble_eq_true rfl, Nat.le_of_ble_eq_true rfl⟩) ⟨fun a U g mk q => by obtain ⟨q0, q1, qP, qK, qD⟩ := q; exact ⟨q0, q1, qP, va_K.moved (u := U) (U := U.calling g mk a) (Vm.Alike.refl U.vm) qK, qD⟩, va_recv (q0 := 0) (ci := 1) hK hP rfl rfl, fun U hU hW => ⟨rfl, by rw [hU], by rw [hU]; exact hP, va_K.moved hW.alike hK, hD.weaken (fun _ _ _ _ => trivial)⟩⟩ rfl rfl hl.1 rfl (lv_room (Nat.le_of_ble_eq_true rfl)) dM_go_34 ⟨Nat.le_of_ble_eq_true rfl, Nat.le_of_ble_eq_true rfl⟩) hS (fun q _ h => hFc q h) hFc (fun r9 u9 t9 H1 locs ht9 hvm9 hw9 hB9 hz9 hk9 hS => ?_)
    obtain ⟨hP1, hD1⟩ := hB9
    rw [ht9] at hP1
    have hw9 : r9 = 0 := hw9
    subst hw9
    obtain ⟨hP, hD⟩ := va_join (wr := []) (w1 := (tw_wM h0 a0 a1 a2 a3 k0 k1 k2 k3 1 th tm pr ag ck nx)) hP hD [0, 1, 2, 3, 4] [] rfl rfl (by decide) (by decide) hk9 hFc hP1 hD1
    generalize H1 = H at hP hS ⊢
    have hP : va_P (dC, dI) tw_cl [(h0, .inr (1, [.int 1, .ref a0, .ref a1, .ref a2, .ref a3, .int nx, .long ck])), (a0, .inl (k0, 100, .inl th)), (a1, .inl (k1, 100, .inr (.inl tm))), (a2, .inl (k2, 100, .inl pr)), (a3, .inl (k3, 100, .inl ag))] H := hP
    have hD : va_D A [(h0, .inr (1, [.int 1, .ref a0, .ref a1, .ref a2, .ref a3, .int nx, .long ck])), (a0, .inl (k0, 100, .inl th)), (a1, .inl (k1, 100, .inr (.inl tm))), (a2, .inl (k2, 100, .inl pr)), (a3, .inl (k3, 100, .inl ag))] := hD
    exact W.iret hx hb hr (fun t ht hW => ⟨⟨_, (), rfl, rfl, by rw [ht]; exact hP, hD⟩, hS.F ht⟩) hS.2.2 dM_go_37
  · -- not taken at 8: lg_cmp n 0 < 0
    refine lv_lload_n hx hb dM_go_11 rfl (lv_at hl 1 rfl) ?_
    refine lv_ldc2 (v := 17592186044416) hx hb hown (hT _ tt_273) dM_go_12 ?_
    refine W.lcmp hx hb dM_go_15 ?_
    refine lv_if_gt (tgt := 32) hx hb dM_go_16 (by decide) (fun hc2 => ?_) (fun hc2 => ?_)
    · -- taken at 16: lg_cmp n 17592186044416 > 0
      refine lv_aload_n hx hb dM_go_32 rfl (lv_at hl 0 rfl) ?_
      refine lv_iconst (v := 1) hx hb dM_go_33 (by decide) ?_
      have hFc := va_free (wc := (tw_wM h0 a0 a1 a2 a3 k0 k1 k2 k3 0 th tm pr ag ck nx)) hD hS hA [0, 1, 2, 3, 4] rfl
      refine va_calli (va_runV (C := RM) (b := h0) (As := [.int 1]) (rest := []) ⟨hx, hb, hml, hown, hT⟩ (cM_fail l dC dI h0 a0 a1 a2 a3 k0 k1 k2 k3 0 th tm pr ag ck nx H.size 1) (cwV 1 hT (tw_gV tt_248 tt_250 tp_M_fail tt_2 tt_251) rfl rfl rfl ⟨rfl, by decide +kernel⟩ ⟨Nat.le_of_ble_eq_true rfl, Nat.le_of_ble_eq_true rfl⟩) ⟨fun a U g mk q => by obtain ⟨q0, q1, qP, qK, qD⟩ := q; exact ⟨q0, q1, qP, va_K.moved (u := U) (U := U.calling g mk a) (Vm.Alike.refl U.vm) qK, qD⟩, va_recv (q0 := 0) (ci := 1) hK hP rfl rfl, fun U hU hW => ⟨rfl, by rw [hU], by rw [hU]; exact hP, va_K.moved hW.alike hK, hD.weaken (fun _ _ _ _ => trivial)⟩⟩ rfl rfl hl.1 rfl (lv_room (Nat.le_of_ble_eq_true rfl)) dM_go_34 ⟨Nat.le_of_ble_eq_true rfl, Nat.le_of_ble_eq_true rfl⟩) hS (fun q _ h => hFc q h) hFc (fun r9 u9 t9 H1 locs ht9 hvm9 hw9 hB9 hz9 hk9 hS => ?_)
      obtain ⟨hP1, hD1⟩ := hB9
      rw [ht9] at hP1
      have hw9 : r9 = 0 := hw9
      subst hw9
      obtain ⟨hP, hD⟩ := va_join (wr := []) (w1 := (tw_wM h0 a0 a1 a2 a3 k0 k1 k2 k3 1 th tm pr ag ck nx)) hP hD [0, 1, 2, 3, 4] [] rfl rfl (by decide) (by decide) hk9 hFc hP1 hD1
      generalize H1 = H at hP hS ⊢
      have hP : va_P (dC, dI) tw_cl [(h0, .inr (1, [.int 1, .ref a0, .ref a1, .ref a2, .ref a3, .int nx, .long ck])), (a0, .inl (k0, 100, .inl th)), (a1, .inl (k1, 100, .inr (.inl tm))), (a2, .inl (k2, 100, .inl pr)), (a3, .inl (k3, 100, .inl ag))] H := hP
      have hD : va_D A [(h0, .inr (1, [.int 1, .ref a0, .ref a1, .ref a2, .ref a3, .int nx, .long ck])), (a0, .inl (k0, 100, .inl th)), (a1, .inl (k1, 100, .inr (.inl tm))), (a2, .inl (k2, 100, .inl pr)), (a3, .inl (k3, 100, .inl ag))] := hD
      exact W.iret hx hb hr (fun t ht hW => ⟨⟨_, (), rfl, rfl, by rw [ht]; exact hP, hD⟩, hS.F ht⟩) hS.2.2 dM_go_37
    · -- not taken at 16: lg_cmp n 17592186044416 > 0
      refine lv_aload_n hx hb dM_go_19 rfl (lv_at hl 0 rfl) ?_
      refine va_get (D := (dC, dI)) (ci := 1) (v := .long ck) (C := RM) (T := FM) (N := 7) hx hb hT in_M hown hK hP 0 rfl rfl 6 (by decide) (hT _ tt_223) (fun _ h9 => h9) rfl dM_go_20 ?_
      refine lv_lload_n hx hb dM_go_23 rfl (lv_at hl 1 rfl) ?_
      refine lv_ladd hx hb dM_go_24 ?_
      refine lv_ldc2 (v := 70368744177664) hx hb hown (hT _ tt_247) dM_go_25 ?_
      refine W.lcmp hx hb dM_go_28 ?_
      refine lv_if_le (tgt := 38) hx hb dM_go_29 (by decide) (fun hc3 => absurd hc3 (fun z => hbad ⟨(lg_cmp_ge _ _).mp (Int32.not_lt.mp hc1), (lg_cmp_le _ _).mp (Int32.not_lt.mp hc2), (lg_cmp_le _ _).mp z⟩)) (fun hc3 => ?_)
      refine lv_aload_n hx hb dM_go_32 rfl (lv_at hl 0 rfl) ?_
      refine lv_iconst (v := 1) hx hb dM_go_33 (by decide) ?_
      have hFc := va_free (wc := (tw_wM h0 a0 a1 a2 a3 k0 k1 k2 k3 0 th tm pr ag ck nx)) hD hS hA [0, 1, 2, 3, 4] rfl
      refine va_calli (va_runV (C := RM) (b := h0) (As := [.int 1]) (rest := []) ⟨hx, hb, hml, hown, hT⟩ (cM_fail l dC dI h0 a0 a1 a2 a3 k0 k1 k2 k3 0 th tm pr ag ck nx H.size 1) (cwV 1 hT (tw_gV tt_248 tt_250 tp_M_fail tt_2 tt_251) rfl rfl rfl ⟨rfl, by decide +kernel⟩ ⟨Nat.le_of_ble_eq_true rfl, Nat.le_of_ble_eq_true rfl⟩) ⟨fun a U g mk q => by obtain ⟨q0, q1, qP, qK, qD⟩ := q; exact ⟨q0, q1, qP, va_K.moved (u := U) (U := U.calling g mk a) (Vm.Alike.refl U.vm) qK, qD⟩, va_recv (q0 := 0) (ci := 1) hK hP rfl rfl, fun U hU hW => ⟨rfl, by rw [hU], by rw [hU]; exact hP, va_K.moved hW.alike hK, hD.weaken (fun _ _ _ _ => trivial)⟩⟩ rfl rfl hl.1 rfl (lv_room (Nat.le_of_ble_eq_true rfl)) dM_go_34 ⟨Nat.le_of_ble_eq_true rfl, Nat.le_of_ble_eq_true rfl⟩) hS (fun q _ h => hFc q h) hFc (fun r9 u9 t9 H1 locs ht9 hvm9 hw9 hB9 hz9 hk9 hS => ?_)
      obtain ⟨hP1, hD1⟩ := hB9
      rw [ht9] at hP1
      have hw9 : r9 = 0 := hw9
      subst hw9
      obtain ⟨hP, hD⟩ := va_join (wr := []) (w1 := (tw_wM h0 a0 a1 a2 a3 k0 k1 k2 k3 1 th tm pr ag ck nx)) hP hD [0, 1, 2, 3, 4] [] rfl rfl (by decide) (by decide) hk9 hFc hP1 hD1
      generalize H1 = H at hP hS ⊢
      have hP : va_P (dC, dI) tw_cl [(h0, .inr (1, [.int 1, .ref a0, .ref a1, .ref a2, .ref a3, .int nx, .long ck])), (a0, .inl (k0, 100, .inl th)), (a1, .inl (k1, 100, .inr (.inl tm))), (a2, .inl (k2, 100, .inl pr)), (a3, .inl (k3, 100, .inl ag))] H := hP
      have hD : va_D A [(h0, .inr (1, [.int 1, .ref a0, .ref a1, .ref a2, .ref a3, .int nx, .long ck])), (a0, .inl (k0, 100, .inl th)), (a1, .inl (k1, 100, .inr (.inl tm))), (a2, .inl (k2, 100, .inl pr)), (a3, .inl (k3, 100, .inl ag))] := hD
      exact W.iret hx hb hr (fun t ht hW => ⟨⟨_, (), rfl, rfl, by rw [ht]; exact hP, hD⟩, hS.F ht⟩) hS.2.2 dM_go_37
set_option maxHeartbeats 4000000 in
set_option maxRecDepth 100000 in
theorem cM_skip (l : Launch) (dC : Nat → ClassId) (dI : Nat → Nat → Nat) (h0 a0 a1 a2 a3 : Nat) (k0 k1 k2 k3 : ClassId) (fl : Int32) (th : Nat → Int32) (tm : Nat → Int64) (pr ag : Nat → Int32) (ck : Int64) (nx : Int32) (sz : Nat) (h00 : ∀ k : Nat, 0 ≤ tm k) (hf : ¬ tw_least th tm ck 100 = -1) : Met l yM_skip (Cond.code yM_skip bM_skip 3 (some .int) :: tw_T) { frames := 3, cells := 0, slots := 0, locals := 120 } (va_Pc [.ref h0] (fun U => U.heap.size = sz ∧ va_P (dC, dI) tw_cl (tw_wM h0 a0 a1 a2 a3 k0 k1 k2 k3 fl th tm pr ag ck nx) U.heap ∧ va_K (dC, dI) tw_cl (tw_k k0 k1 k2 k3) U ∧ va_D (fun _ => True) (tw_wM h0 a0 a1 a2 a3 k0 k1 k2 k3 fl th tm pr ag ck nx))) (va_Qi (S := Unit) (fun r _ => r = tw_dues th tm (tw_least th tm ck 100) 100) (fun _ tz => va_P (dC, dI) tw_cl (tw_wM h0 a0 a1 a2 a3 k0 k1 k2 k3 0 th tm pr ag (tw_least th tm ck 100) nx) tz.heap ∧ va_D (va_A (tw_wM h0 a0 a1 a2 a3 k0 k1 k2 k3 fl th tm pr ag ck nx) sz) (tw_wM h0 a0 a1 a2 a3 k0 k1 k2 k3 0 th tm pr ag (tw_least th tm ck 100) nx)) (va_A (tw_wM h0 a0 a1 a2 a3 k0 k1 k2 k3 fl th tm pr ag ck nx) sz)) 0 0 (va_A (tw_wM h0 a0 a1 a2 a3 k0 k1 k2 k3 fl th tm pr ag ck nx) sz) := by
  refine Met.ofW (cc := bM_skip) (maxL := 3) (ret := some .int) (by decide) rfl ?_
  intro p e s m args below meth c s₁ B hml hv
  obtain ⟨rfl, hsz, hP, hK, hD0⟩ := hv
  have hx := B.exec
  have hb := B.bytes
  have hr := B.returns
  have hT := fun (w : Cond) (h : w ∈ tw_T) => atoms_spec (ws := Cond.code yM_skip bM_skip 3 (some .int) :: tw_T) B.pre w (List.mem_cons_of_mem _ h)
  have hown : s.vm.findClass RM = some m.cls := findClass_of_methodNamed B.named
  have hlocks := B.notSynchronized
  have hl := lv_entry ([.ref h0]) (n := 3) (Nat.le_of_ble_eq_true rfl)
  rw [lg_entry_eq]
  generalize (lg_sl ([.ref h0]) ++ List.replicate (3 - (lg_sl ([.ref h0])).length) Slot.unset).toArray = ls at hl ⊢
  have hl : lv_has ls 3 [(0, .ref h0)] := hl
  subst hsz
  have hD := hD0.self (sz := s.heap.size)
  generalize hAe : va_A (tw_wM h0 a0 a1 a2 a3 k0 k1 k2 k3 fl th tm pr ag ck nx) s.heap.size = A at hD ⊢
  have hA : ∀ q : Nat, s.heap.size ≤ q → A q := fun q h => by rw [← hAe]; exact Or.inr h
  have hS : va_S A s.heap s.heap [] := va_S.rf
  refine lv_aload_n hx hb dM_skip_0 rfl (lv_at hl 0 rfl) ?_
  have hFc := va_free (wc := (tw_wM h0 a0 a1 a2 a3 k0 k1 k2 k3 fl th tm pr ag ck nx)) hD hS hA [0, 1, 2, 3, 4] rfl
  refine va_calll (va_runV (C := RM) (b := h0) (As := []) (rest := []) ⟨hx, hb, hml, hown, hT⟩ (cM_least l dC dI h0 a0 a1 a2 a3 k0 k1 k2 k3 fl th tm pr ag ck nx s.heap.size h00) (cwV 0 hT (tw_gV tt_282 tt_265 tt_266 tt_2 tt_267) rfl rfl rfl ⟨rfl, by decide +kernel⟩ ⟨Nat.le_of_ble_eq_true rfl, Nat.le_of_ble_eq_true rfl⟩) ⟨fun a U g mk q => by obtain ⟨q0, q1, qP, qK, qD⟩ := q; exact ⟨q0, q1, qP, va_K.moved (u := U) (U := U.calling g mk a) (Vm.Alike.refl U.vm) qK, qD⟩, va_recv (q0 := 0) (ci := 1) hK hP rfl rfl, fun U hU hW => ⟨rfl, by rw [hU], by rw [hU]; exact hP, va_K.moved hW.alike hK, hD.weaken (fun _ _ _ _ => trivial)⟩⟩ rfl rfl hl.1 rfl (lv_room (Nat.le_of_ble_eq_true rfl)) dM_skip_1 ⟨Nat.le_of_ble_eq_true rfl, Nat.le_of_ble_eq_true rfl⟩) hS (fun q _ h => hFc q h) hFc (fun r9 u9 t9 H1 locs ht9 hvm9 hw9 hB9 hz9 hk9 hS => ?_)
  obtain ⟨hP1, hD1⟩ := hB9
  rw [ht9] at hP1
  have hw9 : r9 = tw_least th tm ck 100 := hw9
  subst hw9
  obtain ⟨hP, hD⟩ := va_join (wr := []) (w1 := (tw_wM h0 a0 a1 a2 a3 k0 k1 k2 k3 0 th tm pr ag ck nx)) hP hD [0, 1, 2, 3, 4] [] rfl rfl (by decide) (by decide) hk9 hFc hP1 hD1
  generalize H1 = H at hP hS ⊢
  have hP : va_P (dC, dI) tw_cl [(h0, .inr (1, [.int 0, .ref a0, .ref a1, .ref a2, .ref a3, .int nx, .long ck])), (a0, .inl (k0, 100, .inl th)), (a1, .inl (k1, 100, .inr (.inl tm))), (a2, .inl (k2, 100, .inl pr)), (a3, .inl (k3, 100, .inl ag))] H := hP
  have hD : va_D A [(h0, .inr (1, [.int 0, .ref a0, .ref a1, .ref a2, .ref a3, .int nx, .long ck])), (a0, .inl (k0, 100, .inl th)), (a1, .inl (k1, 100, .inr (.inl tm))), (a2, .inl (k2, 100, .inl pr)), (a3, .inl (k3, 100, .inl ag))] := hD
  refine lv_lstore_n hx hb dM_skip_4 rfl hl (by decide) rfl (fun ls hl => ?_)
  have hl : lv_has ls 3 [(1, .long (tw_least th tm ck 100)), (0, .ref h0)] := hl
  refine lv_lload_n hx hb dM_skip_5 rfl (lv_at hl 0 rfl) ?_
  refine lv_lconst (v := 0) hx hb dM_skip_6 (by decide) ?_
  refine W.lcmp hx hb dM_skip_7 ?_
  refine lv_if_ge (tgt := 17) hx hb dM_skip_8 (by decide) (fun hc1 => ?_) (fun hc1 => absurd ((lg_cmp_ge _ _).mpr (Int64.not_lt.mp (fun z => hf ((tw_least_neg h00 100).mpr z)))) hc1)
  refine lv_aload_n hx hb dM_skip_17 rfl (lv_at hl 1 rfl) ?_
  refine lv_lload_n hx hb dM_skip_18 rfl (lv_at hl 0 rfl) ?_
  refine va_put (D := (dC, dI)) (ci := 1) (v := .long (tw_least th tm ck 100)) (ty := .long) (C := RM) (T := FM) (N := 7) hx hb hT in_M TM tM_ok nM_ hown hK hP hD hS 0 rfl rfl 6 (by decide) (hT _ tt_223) (fun _ h9 => h9) rfl (by decide +kernel) rfl rfl (Nat.le_of_ble_eq_true rfl) dM_skip_19 (fun H locs hP hD hS => ?_)
  have hP : va_P (dC, dI) tw_cl [(h0, .inr (1, [.int 0, .ref a0, .ref a1, .ref a2, .ref a3, .int nx, .long (tw_least th tm ck 100)])), (a0, .inl (k0, 100, .inl th)), (a1, .inl (k1, 100, .inr (.inl tm))), (a2, .inl (k2, 100, .inl pr)), (a3, .inl (k3, 100, .inl ag))] H := hP
  have hD : va_D A [(h0, .inr (1, [.int 0, .ref a0, .ref a1, .ref a2, .ref a3, .int nx, .long (tw_least th tm ck 100)])), (a0, .inl (k0, 100, .inl th)), (a1, .inl (k1, 100, .inr (.inl tm))), (a2, .inl (k2, 100, .inl pr)), (a3, .inl (k3, 100, .inl ag))] := hD
  refine lv_aload_n hx hb dM_skip_22 rfl (lv_at hl 1 rfl) ?_
  refine vp_callSi (W.runV (C := RM) (b := h0) (As := []) (rest := []) ⟨hx, hb, hml, hown, hT⟩ (cM_dues l dC dI h0 a0 a1 a2 a3 k0 k1 k2 k3 0 th tm pr ag (tw_least th tm ck 100) nx) (cwV 0 hT (tw_gV tt_274 tt_276 tp_M_dues tt_2 tt_277) rfl rfl rfl ⟨rfl, by decide +kernel⟩ ⟨Nat.le_of_ble_eq_true rfl, Nat.le_of_ble_eq_true rfl⟩) ⟨fun a U g mk q => ⟨q.1, q.2.1, va_K.moved (u := U) (U := U.calling g mk a) (Vm.Alike.refl U.vm) q.2.2⟩, va_recv (q0 := 0) (ci := 1) hK hP rfl rfl, fun U hU hW => ⟨rfl, by rw [hU]; exact hP, va_K.moved hW.alike hK⟩⟩ rfl rfl hl.1 rfl (lv_room (Nat.le_of_ble_eq_true rfl)) dM_skip_23 ⟨Nat.le_of_ble_eq_true rfl, Nat.le_of_ble_eq_true rfl⟩) (fun r2 h2 => ?_)
  subst h2
  exact W.iret hx hb hr (fun t ht hW => ⟨⟨_, (), rfl, rfl, by rw [ht]; exact hP, hD⟩, hS.F ht⟩) hS.2.2 dM_skip_26
set_option maxHeartbeats 4000000 in
set_option maxRecDepth 100000 in
theorem cM_skipB (l : Launch) (dC : Nat → ClassId) (dI : Nat → Nat → Nat) (h0 a0 a1 a2 a3 : Nat) (k0 k1 k2 k3 : ClassId) (fl : Int32) (th : Nat → Int32) (tm : Nat → Int64) (pr ag : Nat → Int32) (ck : Int64) (nx : Int32) (sz : Nat) (h00 : ∀ k : Nat, 0 ≤ tm k) (hf : tw_least th tm ck 100 = -1) : Met l yM_skip (Cond.code yM_skip bM_skip 3 (some .int) :: tw_T) { frames := 3, cells := 0, slots := 0, locals := 120 } (va_Pc [.ref h0] (fun U => U.heap.size = sz ∧ va_P (dC, dI) tw_cl (tw_wM h0 a0 a1 a2 a3 k0 k1 k2 k3 fl th tm pr ag ck nx) U.heap ∧ va_K (dC, dI) tw_cl (tw_k k0 k1 k2 k3) U ∧ va_D (fun _ => True) (tw_wM h0 a0 a1 a2 a3 k0 k1 k2 k3 fl th tm pr ag ck nx))) (va_Qi (S := Unit) (fun r _ => r = 0) (fun _ tz => va_P (dC, dI) tw_cl (tw_wM h0 a0 a1 a2 a3 k0 k1 k2 k3 1 th tm pr ag ck nx) tz.heap ∧ va_D (va_A (tw_wM h0 a0 a1 a2 a3 k0 k1 k2 k3 fl th tm pr ag ck nx) sz) (tw_wM h0 a0 a1 a2 a3 k0 k1 k2 k3 1 th tm pr ag ck nx)) (va_A (tw_wM h0 a0 a1 a2 a3 k0 k1 k2 k3 fl th tm pr ag ck nx) sz)) 0 0 (va_A (tw_wM h0 a0 a1 a2 a3 k0 k1 k2 k3 fl th tm pr ag ck nx) sz) := by
  refine Met.ofW (cc := bM_skip) (maxL := 3) (ret := some .int) (by decide) rfl ?_
  intro p e s m args below meth c s₁ B hml hv
  obtain ⟨rfl, hsz, hP, hK, hD0⟩ := hv
  have hx := B.exec
  have hb := B.bytes
  have hr := B.returns
  have hT := fun (w : Cond) (h : w ∈ tw_T) => atoms_spec (ws := Cond.code yM_skip bM_skip 3 (some .int) :: tw_T) B.pre w (List.mem_cons_of_mem _ h)
  have hown : s.vm.findClass RM = some m.cls := findClass_of_methodNamed B.named
  have hlocks := B.notSynchronized
  have hl := lv_entry ([.ref h0]) (n := 3) (Nat.le_of_ble_eq_true rfl)
  rw [lg_entry_eq]
  generalize (lg_sl ([.ref h0]) ++ List.replicate (3 - (lg_sl ([.ref h0])).length) Slot.unset).toArray = ls at hl ⊢
  have hl : lv_has ls 3 [(0, .ref h0)] := hl
  subst hsz
  have hD := hD0.self (sz := s.heap.size)
  generalize hAe : va_A (tw_wM h0 a0 a1 a2 a3 k0 k1 k2 k3 fl th tm pr ag ck nx) s.heap.size = A at hD ⊢
  have hA : ∀ q : Nat, s.heap.size ≤ q → A q := fun q h => by rw [← hAe]; exact Or.inr h
  have hS : va_S A s.heap s.heap [] := va_S.rf
  refine lv_aload_n hx hb dM_skip_0 rfl (lv_at hl 0 rfl) ?_
  have hFc := va_free (wc := (tw_wM h0 a0 a1 a2 a3 k0 k1 k2 k3 fl th tm pr ag ck nx)) hD hS hA [0, 1, 2, 3, 4] rfl
  refine va_calll (va_runV (C := RM) (b := h0) (As := []) (rest := []) ⟨hx, hb, hml, hown, hT⟩ (cM_least l dC dI h0 a0 a1 a2 a3 k0 k1 k2 k3 fl th tm pr ag ck nx s.heap.size h00) (cwV 0 hT (tw_gV tt_282 tt_265 tt_266 tt_2 tt_267) rfl rfl rfl ⟨rfl, by decide +kernel⟩ ⟨Nat.le_of_ble_eq_true rfl, Nat.le_of_ble_eq_true rfl⟩) ⟨fun a U g mk q => by obtain ⟨q0, q1, qP, qK, qD⟩ := q; exact ⟨q0, q1, qP, va_K.moved (u := U) (U := U.calling g mk a) (Vm.Alike.refl U.vm) qK, qD⟩, va_recv (q0 := 0) (ci := 1) hK hP rfl rfl, fun U hU hW => ⟨rfl, by rw [hU], by rw [hU]; exact hP, va_K.moved hW.alike hK, hD.weaken (fun _ _ _ _ => trivial)⟩⟩ rfl rfl hl.1 rfl (lv_room (Nat.le_of_ble_eq_true rfl)) dM_skip_1 ⟨Nat.le_of_ble_eq_true rfl, Nat.le_of_ble_eq_true rfl⟩) hS (fun q _ h => hFc q h) hFc (fun r9 u9 t9 H1 locs ht9 hvm9 hw9 hB9 hz9 hk9 hS => ?_)
  obtain ⟨hP1, hD1⟩ := hB9
  rw [ht9] at hP1
  have hw9 : r9 = tw_least th tm ck 100 := hw9
  subst hw9
  obtain ⟨hP, hD⟩ := va_join (wr := []) (w1 := (tw_wM h0 a0 a1 a2 a3 k0 k1 k2 k3 0 th tm pr ag ck nx)) hP hD [0, 1, 2, 3, 4] [] rfl rfl (by decide) (by decide) hk9 hFc hP1 hD1
  generalize H1 = H at hP hS ⊢
  have hP : va_P (dC, dI) tw_cl [(h0, .inr (1, [.int 0, .ref a0, .ref a1, .ref a2, .ref a3, .int nx, .long ck])), (a0, .inl (k0, 100, .inl th)), (a1, .inl (k1, 100, .inr (.inl tm))), (a2, .inl (k2, 100, .inl pr)), (a3, .inl (k3, 100, .inl ag))] H := hP
  have hD : va_D A [(h0, .inr (1, [.int 0, .ref a0, .ref a1, .ref a2, .ref a3, .int nx, .long ck])), (a0, .inl (k0, 100, .inl th)), (a1, .inl (k1, 100, .inr (.inl tm))), (a2, .inl (k2, 100, .inl pr)), (a3, .inl (k3, 100, .inl ag))] := hD
  refine lv_lstore_n hx hb dM_skip_4 rfl hl (by decide) rfl (fun ls hl => ?_)
  have hl : lv_has ls 3 [(1, .long (tw_least th tm ck 100)), (0, .ref h0)] := hl
  refine lv_lload_n hx hb dM_skip_5 rfl (lv_at hl 0 rfl) ?_
  refine lv_lconst (v := 0) hx hb dM_skip_6 (by decide) ?_
  refine W.lcmp hx hb dM_skip_7 ?_
  refine lv_if_ge (tgt := 17) hx hb dM_skip_8 (by decide) (fun hc1 => absurd hc1 (Int32.not_le.mpr ((lg_cmp_lt _ _).mpr ((tw_least_neg h00 100).mp hf)))) (fun hc1 => ?_)
  refine lv_aload_n hx hb dM_skip_11 rfl (lv_at hl 1 rfl) ?_
  refine lv_iconst (v := 1) hx hb dM_skip_12 (by decide) ?_
  have hFc := va_free (wc := (tw_wM h0 a0 a1 a2 a3 k0 k1 k2 k3 0 th tm pr ag ck nx)) hD hS hA [0, 1, 2, 3, 4] rfl
  refine va_calli (va_runV (C := RM) (b := h0) (As := [.int 1]) (rest := []) ⟨hx, hb, hml, hown, hT⟩ (cM_fail l dC dI h0 a0 a1 a2 a3 k0 k1 k2 k3 0 th tm pr ag ck nx H.size 1) (cwV 1 hT (tw_gV tt_248 tt_250 tp_M_fail tt_2 tt_251) rfl rfl rfl ⟨rfl, by decide +kernel⟩ ⟨Nat.le_of_ble_eq_true rfl, Nat.le_of_ble_eq_true rfl⟩) ⟨fun a U g mk q => by obtain ⟨q0, q1, qP, qK, qD⟩ := q; exact ⟨q0, q1, qP, va_K.moved (u := U) (U := U.calling g mk a) (Vm.Alike.refl U.vm) qK, qD⟩, va_recv (q0 := 0) (ci := 1) hK hP rfl rfl, fun U hU hW => ⟨rfl, by rw [hU], by rw [hU]; exact hP, va_K.moved hW.alike hK, hD.weaken (fun _ _ _ _ => trivial)⟩⟩ rfl rfl hl.1 rfl (lv_room (Nat.le_of_ble_eq_true rfl)) dM_skip_13 ⟨Nat.le_of_ble_eq_true rfl, Nat.le_of_ble_eq_true rfl⟩) hS (fun q _ h => hFc q h) hFc (fun r9 u9 t9 H1 locs ht9 hvm9 hw9 hB9 hz9 hk9 hS => ?_)
  obtain ⟨hP1, hD1⟩ := hB9
  rw [ht9] at hP1
  have hw9 : r9 = 0 := hw9
  subst hw9
  obtain ⟨hP, hD⟩ := va_join (wr := []) (w1 := (tw_wM h0 a0 a1 a2 a3 k0 k1 k2 k3 1 th tm pr ag ck nx)) hP hD [0, 1, 2, 3, 4] [] rfl rfl (by decide) (by decide) hk9 hFc hP1 hD1
  generalize H1 = H at hP hS ⊢
  have hP : va_P (dC, dI) tw_cl [(h0, .inr (1, [.int 1, .ref a0, .ref a1, .ref a2, .ref a3, .int nx, .long ck])), (a0, .inl (k0, 100, .inl th)), (a1, .inl (k1, 100, .inr (.inl tm))), (a2, .inl (k2, 100, .inl pr)), (a3, .inl (k3, 100, .inl ag))] H := hP
  have hD : va_D A [(h0, .inr (1, [.int 1, .ref a0, .ref a1, .ref a2, .ref a3, .int nx, .long ck])), (a0, .inl (k0, 100, .inl th)), (a1, .inl (k1, 100, .inr (.inl tm))), (a2, .inl (k2, 100, .inl pr)), (a3, .inl (k3, 100, .inl ag))] := hD
  exact W.iret hx hb hr (fun t ht hW => ⟨⟨_, (), rfl, rfl, by rw [ht]; exact hP, hD⟩, hS.F ht⟩) hS.2.2 dM_skip_16
set_option maxHeartbeats 4000000 in
set_option maxRecDepth 100000 in
theorem cM_timer0 (l : Launch) (dC : Nat → ClassId) (dI : Nat → Nat → Nat) (h0 a0 a1 a2 a3 : Nat) (k0 k1 k2 k3 : ClassId) (fl : Int32) (th : Nat → Int32) (tm : Nat → Int64) (pr ag : Nat → Int32) (ck : Int64) (nx : Int32) (sz : Nat) (j : Int32) (hj : vp_in j 100) : Met l yM_timer (Cond.code yM_timer bM_timer 3 (some .long) :: tw_T) { frames := 2, cells := 0, slots := 0, locals := 80 } (va_Pc [.ref h0, .int j, .int 0] (fun U => U.heap.size = sz ∧ va_P (dC, dI) tw_cl (tw_wM h0 a0 a1 a2 a3 k0 k1 k2 k3 fl th tm pr ag ck nx) U.heap ∧ va_K (dC, dI) tw_cl (tw_k k0 k1 k2 k3) U ∧ va_D (fun _ => True) (tw_wM h0 a0 a1 a2 a3 k0 k1 k2 k3 fl th tm pr ag ck nx))) (va_Ql (S := Unit) (fun r _ => r = (if th j.toNatClampNeg = 0 then 0 else if tw_due th tm ck j = true then 2 else 1)) (fun _ tz => va_P (dC, dI) tw_cl (tw_wM h0 a0 a1 a2 a3 k0 k1 k2 k3 0 th tm pr ag ck nx) tz.heap ∧ va_D (va_A (tw_wM h0 a0 a1 a2 a3 k0 k1 k2 k3 fl th tm pr ag ck nx) sz) (tw_wM h0 a0 a1 a2 a3 k0 k1 k2 k3 0 th tm pr ag ck nx)) (va_A (tw_wM h0 a0 a1 a2 a3 k0 k1 k2 k3 fl th tm pr ag ck nx) sz)) 0 0 (va_A (tw_wM h0 a0 a1 a2 a3 k0 k1 k2 k3 fl th tm pr ag ck nx) sz) := by
  refine Met.ofW (cc := bM_timer) (maxL := 3) (ret := some .long) (by decide) rfl ?_
  intro p e s m args below meth c s₁ B hml hv
  obtain ⟨rfl, hsz, hP, hK, hD0⟩ := hv
  have hx := B.exec
  have hb := B.bytes
  have hr := B.returns
  have hT := fun (w : Cond) (h : w ∈ tw_T) => atoms_spec (ws := Cond.code yM_timer bM_timer 3 (some .long) :: tw_T) B.pre w (List.mem_cons_of_mem _ h)
  have hown : s.vm.findClass RM = some m.cls := findClass_of_methodNamed B.named
  have hlocks := B.notSynchronized
  have hl := lv_entry ([.ref h0, .int j, .int 0]) (n := 3) (Nat.le_of_ble_eq_true rfl)
  rw [lg_entry_eq]
  generalize (lg_sl ([.ref h0, .int j, .int 0]) ++ List.replicate (3 - (lg_sl ([.ref h0, .int j, .int 0])).length) Slot.unset).toArray = ls at hl ⊢
  have hl : lv_has ls 3 [(0, .ref h0), (1, .int j), (2, .int 0)] := hl
  subst hsz
  have hD := hD0.self (sz := s.heap.size)
  generalize hAe : va_A (tw_wM h0 a0 a1 a2 a3 k0 k1 k2 k3 fl th tm pr ag ck nx) s.heap.size = A at hD ⊢
  have hA : ∀ q : Nat, s.heap.size ≤ q → A q := fun q h => by rw [← hAe]; exact Or.inr h
  have hS : va_S A s.heap s.heap [] := va_S.rf
  refine lv_aload_n hx hb dM_timer_0 rfl (lv_at hl 0 rfl) ?_
  refine lv_iconst (v := 0) hx hb dM_timer_1 (by decide) ?_
  refine va_put (D := (dC, dI)) (ci := 1) (v := .int 0) (ty := .int) (C := RM) (T := FM) (N := 7) hx hb hT in_M TM tM_ok nM_ hown hK hP hD hS 0 rfl rfl 0 (by decide) (hT _ tt_217) (fun _ h9 => h9) rfl (by decide +kernel) rfl rfl (Nat.le_of_ble_eq_true rfl) dM_timer_2 (fun H locs hP hD hS => ?_)
  have hP : va_P (dC, dI) tw_cl [(h0, .inr (1, [.int 0, .ref a0, .ref a1, .ref a2, .ref a3, .int nx, .long ck])), (a0, .inl (k0, 100, .inl th)), (a1, .inl (k1, 100, .inr (.inl tm))), (a2, .inl (k2, 100, .inl pr)), (a3, .inl (k3, 100, .inl ag))] H := hP
  have hD : va_D A [(h0, .inr (1, [.int 0, .ref a0, .ref a1, .ref a2, .ref a3, .int nx, .long ck])), (a0, .inl (k0, 100, .inl th)), (a1, .inl (k1, 100, .inr (.inl tm))), (a2, .inl (k2, 100, .inl pr)), (a3, .inl (k3, 100, .inl ag))] := hD
  refine lv_iload_n hx hb dM_timer_5 rfl (lv_at hl 1 rfl) ?_
  refine lv_if_lt (tgt := 24) hx hb dM_timer_6 (by decide) (fun hc1 => absurd hc1 ((tw_vp99.mp hj).1)) (fun hc1 => ?_)
  refine lv_iload_n hx hb dM_timer_9 rfl (lv_at hl 1 rfl) ?_
  refine lv_bipush (v := 99) hx hb dM_timer_10 (by decide) ?_
  refine lv_icmp_gt (tgt := 24) hx hb dM_timer_12 (by decide) (fun hc2 => absurd hc2 (fun z => Int32.not_lt.mpr (tw_vp99.mp hj).2 z)) (fun hc2 => ?_)
  refine lv_iload_n hx hb dM_timer_15 rfl (lv_at hl 2 rfl) ?_
  refine lv_if_lt (tgt := 24) hx hb dM_timer_16 (by decide) (fun hc3 => absurd hc3 (by decide)) (fun hc3 => ?_)
  refine lv_iload_n hx hb dM_timer_19 rfl (lv_at hl 2 rfl) ?_
  refine lv_iconst (v := 3) hx hb dM_timer_20 (by decide) ?_
  refine lv_icmp_le (tgt := 31) hx hb dM_timer_21 (by decide) (fun hc4 => ?_) (fun hc4 => absurd (by decide) hc4)
  refine lv_aload_n hx hb dM_timer_31 rfl (lv_at hl 0 rfl) ?_
  refine va_get (D := (dC, dI)) (ci := 1) (v := .ref a0) (C := RM) (T := FM) (N := 7) hx hb hT in_M hown hK hP 0 rfl rfl 1 (by decide) (hT _ tt_218) (fun _ h9 => h9) rfl dM_timer_32 ?_
  refine lv_iload_n hx hb dM_timer_35 rfl (lv_at hl 1 rfl) ?_
  refine va_zald hx hb hK hP 1 0 rfl rfl hj dM_timer_36 ?_
  refine lv_if_ne (tgt := 42) hx hb dM_timer_37 (by decide) (fun hc5 => ?_) (fun hc5 => ?_)
  · -- taken at 37: ¬ th j.toNatClampNeg = 0
    refine lv_iload_n hx hb dM_timer_42 rfl (lv_at hl 2 rfl) ?_
    refine lv_if_ne (tgt := 64) hx hb dM_timer_43 (by decide) (fun hc6 => absurd rfl hc6) (fun hc6 => ?_)
    refine lv_aload_n hx hb dM_timer_46 rfl (lv_at hl 0 rfl) ?_
    refine lv_iload_n hx hb dM_timer_47 rfl (lv_at hl 1 rfl) ?_
    refine vp_callSi (W.runV (C := RM) (b := h0) (As := [.int j]) (rest := []) ⟨hx, hb, hml, hown, hT⟩ (cM_due l dC dI h0 a0 a1 a2 a3 k0 k1 k2 k3 0 th tm pr ag ck nx j hj) (cwV 1 hT (tw_gV tt_260 tt_262 tp_M_due tt_2 tt_263) rfl rfl rfl ⟨rfl, by decide +kernel⟩ ⟨Nat.le_of_ble_eq_true rfl, Nat.le_of_ble_eq_true rfl⟩) ⟨fun a U g mk q => ⟨q.1, q.2.1, va_K.moved (u := U) (U := U.calling g mk a) (Vm.Alike.refl U.vm) q.2.2⟩, va_recv (q0 := 0) (ci := 1) hK hP rfl rfl, fun U hU hW => ⟨rfl, by rw [hU]; exact hP, va_K.moved hW.alike hK⟩⟩ rfl rfl hl.1 rfl (lv_room (Nat.le_of_ble_eq_true rfl)) dM_timer_48 ⟨Nat.le_of_ble_eq_true rfl, Nat.le_of_ble_eq_true rfl⟩) (fun r2 h2 => ?_)
    subst h2
    refine lv_if_eq (tgt := 60) hx hb dM_timer_51 (by decide) (fun hc7 => ?_) (fun hc7 => ?_)
    · -- taken at 51: tw_bz (tw_due th tm ck j) = 0
      refine lv_lconst (v := 1) hx hb dM_timer_60 (by decide) ?_
      refine lv_goto (tgt := 100) hx hb dM_timer_61 (by decide) ?_
      exact W.lret hx hb hr (fun t ht hW => ⟨⟨_, (), rfl, by rw [if_neg hc5, if_neg (by rw [tw_bz0 hc7]; decide)], by rw [ht]; exact hP, hD⟩, hS.F ht⟩) hS.2.2 dM_timer_100
    · -- not taken at 51: tw_bz (tw_due th tm ck j) = 0
      refine lv_ldc2 (v := 2) hx hb hown (hT _ tt_287) dM_timer_54 ?_
      refine lv_goto (tgt := 100) hx hb dM_timer_57 (by decide) ?_
      exact W.lret hx hb hr (fun t ht hW => ⟨⟨_, (), rfl, by rw [if_neg hc5, if_pos (tw_bz1 hc7)], by rw [ht]; exact hP, hD⟩, hS.F ht⟩) hS.2.2 dM_timer_100
  · -- not taken at 37: ¬ th j.toNatClampNeg = 0
    refine lv_lconst (v := 0) hx hb dM_timer_40 (by decide) ?_
    exact W.lret hx hb hr (fun t ht hW => ⟨⟨_, (), rfl, by rw [if_pos hc5], by rw [ht]; exact hP, hD⟩, hS.F ht⟩) hS.2.2 dM_timer_41
set_option maxHeartbeats 4000000 in
set_option maxRecDepth 100000 in
theorem cM_timer1 (l : Launch) (dC : Nat → ClassId) (dI : Nat → Nat → Nat) (h0 a0 a1 a2 a3 : Nat) (k0 k1 k2 k3 : ClassId) (fl : Int32) (th : Nat → Int32) (tm : Nat → Int64) (pr ag : Nat → Int32) (ck : Int64) (nx : Int32) (sz : Nat) (j : Int32) (hj : vp_in j 100) : Met l yM_timer (Cond.code yM_timer bM_timer 3 (some .long) :: tw_T) { frames := 2, cells := 0, slots := 0, locals := 80 } (va_Pc [.ref h0, .int j, .int 1] (fun U => U.heap.size = sz ∧ va_P (dC, dI) tw_cl (tw_wM h0 a0 a1 a2 a3 k0 k1 k2 k3 fl th tm pr ag ck nx) U.heap ∧ va_K (dC, dI) tw_cl (tw_k k0 k1 k2 k3) U ∧ va_D (fun _ => True) (tw_wM h0 a0 a1 a2 a3 k0 k1 k2 k3 fl th tm pr ag ck nx))) (va_Ql (S := Unit) (fun r _ => r = (if th j.toNatClampNeg = 0 then 0 else tm j.toNatClampNeg)) (fun _ tz => va_P (dC, dI) tw_cl (tw_wM h0 a0 a1 a2 a3 k0 k1 k2 k3 0 th tm pr ag ck nx) tz.heap ∧ va_D (va_A (tw_wM h0 a0 a1 a2 a3 k0 k1 k2 k3 fl th tm pr ag ck nx) sz) (tw_wM h0 a0 a1 a2 a3 k0 k1 k2 k3 0 th tm pr ag ck nx)) (va_A (tw_wM h0 a0 a1 a2 a3 k0 k1 k2 k3 fl th tm pr ag ck nx) sz)) 0 0 (va_A (tw_wM h0 a0 a1 a2 a3 k0 k1 k2 k3 fl th tm pr ag ck nx) sz) := by
  refine Met.ofW (cc := bM_timer) (maxL := 3) (ret := some .long) (by decide) rfl ?_
  intro p e s m args below meth c s₁ B hml hv
  obtain ⟨rfl, hsz, hP, hK, hD0⟩ := hv
  have hx := B.exec
  have hb := B.bytes
  have hr := B.returns
  have hT := fun (w : Cond) (h : w ∈ tw_T) => atoms_spec (ws := Cond.code yM_timer bM_timer 3 (some .long) :: tw_T) B.pre w (List.mem_cons_of_mem _ h)
  have hown : s.vm.findClass RM = some m.cls := findClass_of_methodNamed B.named
  have hlocks := B.notSynchronized
  have hl := lv_entry ([.ref h0, .int j, .int 1]) (n := 3) (Nat.le_of_ble_eq_true rfl)
  rw [lg_entry_eq]
  generalize (lg_sl ([.ref h0, .int j, .int 1]) ++ List.replicate (3 - (lg_sl ([.ref h0, .int j, .int 1])).length) Slot.unset).toArray = ls at hl ⊢
  have hl : lv_has ls 3 [(0, .ref h0), (1, .int j), (2, .int 1)] := hl
  subst hsz
  have hD := hD0.self (sz := s.heap.size)
  generalize hAe : va_A (tw_wM h0 a0 a1 a2 a3 k0 k1 k2 k3 fl th tm pr ag ck nx) s.heap.size = A at hD ⊢
  have hA : ∀ q : Nat, s.heap.size ≤ q → A q := fun q h => by rw [← hAe]; exact Or.inr h
  have hS : va_S A s.heap s.heap [] := va_S.rf
  refine lv_aload_n hx hb dM_timer_0 rfl (lv_at hl 0 rfl) ?_
  refine lv_iconst (v := 0) hx hb dM_timer_1 (by decide) ?_
  refine va_put (D := (dC, dI)) (ci := 1) (v := .int 0) (ty := .int) (C := RM) (T := FM) (N := 7) hx hb hT in_M TM tM_ok nM_ hown hK hP hD hS 0 rfl rfl 0 (by decide) (hT _ tt_217) (fun _ h9 => h9) rfl (by decide +kernel) rfl rfl (Nat.le_of_ble_eq_true rfl) dM_timer_2 (fun H locs hP hD hS => ?_)
  have hP : va_P (dC, dI) tw_cl [(h0, .inr (1, [.int 0, .ref a0, .ref a1, .ref a2, .ref a3, .int nx, .long ck])), (a0, .inl (k0, 100, .inl th)), (a1, .inl (k1, 100, .inr (.inl tm))), (a2, .inl (k2, 100, .inl pr)), (a3, .inl (k3, 100, .inl ag))] H := hP
  have hD : va_D A [(h0, .inr (1, [.int 0, .ref a0, .ref a1, .ref a2, .ref a3, .int nx, .long ck])), (a0, .inl (k0, 100, .inl th)), (a1, .inl (k1, 100, .inr (.inl tm))), (a2, .inl (k2, 100, .inl pr)), (a3, .inl (k3, 100, .inl ag))] := hD
  refine lv_iload_n hx hb dM_timer_5 rfl (lv_at hl 1 rfl) ?_
  refine lv_if_lt (tgt := 24) hx hb dM_timer_6 (by decide) (fun hc1 => absurd hc1 ((tw_vp99.mp hj).1)) (fun hc1 => ?_)
  refine lv_iload_n hx hb dM_timer_9 rfl (lv_at hl 1 rfl) ?_
  refine lv_bipush (v := 99) hx hb dM_timer_10 (by decide) ?_
  refine lv_icmp_gt (tgt := 24) hx hb dM_timer_12 (by decide) (fun hc2 => absurd hc2 (fun z => Int32.not_lt.mpr (tw_vp99.mp hj).2 z)) (fun hc2 => ?_)
  refine lv_iload_n hx hb dM_timer_15 rfl (lv_at hl 2 rfl) ?_
  refine lv_if_lt (tgt := 24) hx hb dM_timer_16 (by decide) (fun hc3 => absurd hc3 (by decide)) (fun hc3 => ?_)
  refine lv_iload_n hx hb dM_timer_19 rfl (lv_at hl 2 rfl) ?_
  refine lv_iconst (v := 3) hx hb dM_timer_20 (by decide) ?_
  refine lv_icmp_le (tgt := 31) hx hb dM_timer_21 (by decide) (fun hc4 => ?_) (fun hc4 => absurd (by decide) hc4)
  refine lv_aload_n hx hb dM_timer_31 rfl (lv_at hl 0 rfl) ?_
  refine va_get (D := (dC, dI)) (ci := 1) (v := .ref a0) (C := RM) (T := FM) (N := 7) hx hb hT in_M hown hK hP 0 rfl rfl 1 (by decide) (hT _ tt_218) (fun _ h9 => h9) rfl dM_timer_32 ?_
  refine lv_iload_n hx hb dM_timer_35 rfl (lv_at hl 1 rfl) ?_
  refine va_zald hx hb hK hP 1 0 rfl rfl hj dM_timer_36 ?_
  refine lv_if_ne (tgt := 42) hx hb dM_timer_37 (by decide) (fun hc5 => ?_) (fun hc5 => ?_)
  · -- taken at 37: ¬ th j.toNatClampNeg = 0
    refine lv_iload_n hx hb dM_timer_42 rfl (lv_at hl 2 rfl) ?_
    refine lv_if_ne (tgt := 64) hx hb dM_timer_43 (by decide) (fun hc6 => ?_) (fun hc6 => absurd hc6 (by decide))
    refine lv_iload_n hx hb dM_timer_64 rfl (lv_at hl 2 rfl) ?_
    refine lv_iconst (v := 1) hx hb dM_timer_65 (by decide) ?_
    refine lv_icmp_ne (tgt := 78) hx hb dM_timer_66 (by decide) (fun hc7 => absurd rfl hc7) (fun hc7 => ?_)
    refine lv_aload_n hx hb dM_timer_69 rfl (lv_at hl 0 rfl) ?_
    refine va_get (D := (dC, dI)) (ci := 1) (v := .ref a1) (C := RM) (T := FM) (N := 7) hx hb hT in_M hown hK hP 0 rfl rfl 2 (by decide) (hT _ tt_219) (fun _ h9 => h9) rfl dM_timer_70 ?_
    refine lv_iload_n hx hb dM_timer_73 rfl (lv_at hl 1 rfl) ?_
    refine va_lald hx hb hK hP 2 1 rfl rfl hj dM_timer_74 ?_
    refine lv_goto (tgt := 100) hx hb dM_timer_75 (by decide) ?_
    exact W.lret hx hb hr (fun t ht hW => ⟨⟨_, (), rfl, by rw [if_neg hc5], by rw [ht]; exact hP, hD⟩, hS.F ht⟩) hS.2.2 dM_timer_100
  · -- not taken at 37: ¬ th j.toNatClampNeg = 0
    refine lv_lconst (v := 0) hx hb dM_timer_40 (by decide) ?_
    exact W.lret hx hb hr (fun t ht hW => ⟨⟨_, (), rfl, by rw [if_pos hc5], by rw [ht]; exact hP, hD⟩, hS.F ht⟩) hS.2.2 dM_timer_41
set_option maxHeartbeats 4000000 in
set_option maxRecDepth 100000 in
theorem cM_timer2 (l : Launch) (dC : Nat → ClassId) (dI : Nat → Nat → Nat) (h0 a0 a1 a2 a3 : Nat) (k0 k1 k2 k3 : ClassId) (fl : Int32) (th : Nat → Int32) (tm : Nat → Int64) (pr ag : Nat → Int32) (ck : Int64) (nx : Int32) (sz : Nat) (j : Int32) (hj : vp_in j 100) : Met l yM_timer (Cond.code yM_timer bM_timer 3 (some .long) :: tw_T) { frames := 2, cells := 0, slots := 0, locals := 80 } (va_Pc [.ref h0, .int j, .int 2] (fun U => U.heap.size = sz ∧ va_P (dC, dI) tw_cl (tw_wM h0 a0 a1 a2 a3 k0 k1 k2 k3 fl th tm pr ag ck nx) U.heap ∧ va_K (dC, dI) tw_cl (tw_k k0 k1 k2 k3) U ∧ va_D (fun _ => True) (tw_wM h0 a0 a1 a2 a3 k0 k1 k2 k3 fl th tm pr ag ck nx))) (va_Ql (S := Unit) (fun r _ => r = (if th j.toNatClampNeg = 0 then 0 else (pr j.toNatClampNeg).toInt64)) (fun _ tz => va_P (dC, dI) tw_cl (tw_wM h0 a0 a1 a2 a3 k0 k1 k2 k3 0 th tm pr ag ck nx) tz.heap ∧ va_D (va_A (tw_wM h0 a0 a1 a2 a3 k0 k1 k2 k3 fl th tm pr ag ck nx) sz) (tw_wM h0 a0 a1 a2 a3 k0 k1 k2 k3 0 th tm pr ag ck nx)) (va_A (tw_wM h0 a0 a1 a2 a3 k0 k1 k2 k3 fl th tm pr ag ck nx) sz)) 0 0 (va_A (tw_wM h0 a0 a1 a2 a3 k0 k1 k2 k3 fl th tm pr ag ck nx) sz) := by
  refine Met.ofW (cc := bM_timer) (maxL := 3) (ret := some .long) (by decide) rfl ?_
  intro p e s m args below meth c s₁ B hml hv
  obtain ⟨rfl, hsz, hP, hK, hD0⟩ := hv
  have hx := B.exec
  have hb := B.bytes
  have hr := B.returns
  have hT := fun (w : Cond) (h : w ∈ tw_T) => atoms_spec (ws := Cond.code yM_timer bM_timer 3 (some .long) :: tw_T) B.pre w (List.mem_cons_of_mem _ h)
  have hown : s.vm.findClass RM = some m.cls := findClass_of_methodNamed B.named
  have hlocks := B.notSynchronized
  have hl := lv_entry ([.ref h0, .int j, .int 2]) (n := 3) (Nat.le_of_ble_eq_true rfl)
  rw [lg_entry_eq]
  generalize (lg_sl ([.ref h0, .int j, .int 2]) ++ List.replicate (3 - (lg_sl ([.ref h0, .int j, .int 2])).length) Slot.unset).toArray = ls at hl ⊢
  have hl : lv_has ls 3 [(0, .ref h0), (1, .int j), (2, .int 2)] := hl
  subst hsz
  have hD := hD0.self (sz := s.heap.size)
  generalize hAe : va_A (tw_wM h0 a0 a1 a2 a3 k0 k1 k2 k3 fl th tm pr ag ck nx) s.heap.size = A at hD ⊢
  have hA : ∀ q : Nat, s.heap.size ≤ q → A q := fun q h => by rw [← hAe]; exact Or.inr h
  have hS : va_S A s.heap s.heap [] := va_S.rf
  refine lv_aload_n hx hb dM_timer_0 rfl (lv_at hl 0 rfl) ?_
  refine lv_iconst (v := 0) hx hb dM_timer_1 (by decide) ?_
  refine va_put (D := (dC, dI)) (ci := 1) (v := .int 0) (ty := .int) (C := RM) (T := FM) (N := 7) hx hb hT in_M TM tM_ok nM_ hown hK hP hD hS 0 rfl rfl 0 (by decide) (hT _ tt_217) (fun _ h9 => h9) rfl (by decide +kernel) rfl rfl (Nat.le_of_ble_eq_true rfl) dM_timer_2 (fun H locs hP hD hS => ?_)
  have hP : va_P (dC, dI) tw_cl [(h0, .inr (1, [.int 0, .ref a0, .ref a1, .ref a2, .ref a3, .int nx, .long ck])), (a0, .inl (k0, 100, .inl th)), (a1, .inl (k1, 100, .inr (.inl tm))), (a2, .inl (k2, 100, .inl pr)), (a3, .inl (k3, 100, .inl ag))] H := hP
  have hD : va_D A [(h0, .inr (1, [.int 0, .ref a0, .ref a1, .ref a2, .ref a3, .int nx, .long ck])), (a0, .inl (k0, 100, .inl th)), (a1, .inl (k1, 100, .inr (.inl tm))), (a2, .inl (k2, 100, .inl pr)), (a3, .inl (k3, 100, .inl ag))] := hD
  refine lv_iload_n hx hb dM_timer_5 rfl (lv_at hl 1 rfl) ?_
  refine lv_if_lt (tgt := 24) hx hb dM_timer_6 (by decide) (fun hc1 => absurd hc1 ((tw_vp99.mp hj).1)) (fun hc1 => ?_)
  refine lv_iload_n hx hb dM_timer_9 rfl (lv_at hl 1 rfl) ?_
  refine lv_bipush (v := 99) hx hb dM_timer_10 (by decide) ?_
  refine lv_icmp_gt (tgt := 24) hx hb dM_timer_12 (by decide) (fun hc2 => absurd hc2 (fun z => Int32.not_lt.mpr (tw_vp99.mp hj).2 z)) (fun hc2 => ?_)
  refine lv_iload_n hx hb dM_timer_15 rfl (lv_at hl 2 rfl) ?_
  refine lv_if_lt (tgt := 24) hx hb dM_timer_16 (by decide) (fun hc3 => absurd hc3 (by decide)) (fun hc3 => ?_)
  refine lv_iload_n hx hb dM_timer_19 rfl (lv_at hl 2 rfl) ?_
  refine lv_iconst (v := 3) hx hb dM_timer_20 (by decide) ?_
  refine lv_icmp_le (tgt := 31) hx hb dM_timer_21 (by decide) (fun hc4 => ?_) (fun hc4 => absurd (by decide) hc4)
  refine lv_aload_n hx hb dM_timer_31 rfl (lv_at hl 0 rfl) ?_
  refine va_get (D := (dC, dI)) (ci := 1) (v := .ref a0) (C := RM) (T := FM) (N := 7) hx hb hT in_M hown hK hP 0 rfl rfl 1 (by decide) (hT _ tt_218) (fun _ h9 => h9) rfl dM_timer_32 ?_
  refine lv_iload_n hx hb dM_timer_35 rfl (lv_at hl 1 rfl) ?_
  refine va_zald hx hb hK hP 1 0 rfl rfl hj dM_timer_36 ?_
  refine lv_if_ne (tgt := 42) hx hb dM_timer_37 (by decide) (fun hc5 => ?_) (fun hc5 => ?_)
  · -- taken at 37: ¬ th j.toNatClampNeg = 0
    refine lv_iload_n hx hb dM_timer_42 rfl (lv_at hl 2 rfl) ?_
    refine lv_if_ne (tgt := 64) hx hb dM_timer_43 (by decide) (fun hc6 => ?_) (fun hc6 => absurd hc6 (by decide))
    refine lv_iload_n hx hb dM_timer_64 rfl (lv_at hl 2 rfl) ?_
    refine lv_iconst (v := 1) hx hb dM_timer_65 (by decide) ?_
    refine lv_icmp_ne (tgt := 78) hx hb dM_timer_66 (by decide) (fun hc7 => ?_) (fun hc7 => absurd hc7 (by decide))
    refine lv_iload_n hx hb dM_timer_78 rfl (lv_at hl 2 rfl) ?_
    refine lv_iconst (v := 2) hx hb dM_timer_79 (by decide) ?_
    refine lv_icmp_ne (tgt := 93) hx hb dM_timer_80 (by decide) (fun hc8 => absurd rfl hc8) (fun hc8 => ?_)
    refine lv_aload_n hx hb dM_timer_83 rfl (lv_at hl 0 rfl) ?_
    refine va_get (D := (dC, dI)) (ci := 1) (v := .ref a2) (C := RM) (T := FM) (N := 7) hx hb hT in_M hown hK hP 0 rfl rfl 3 (by decide) (hT _ tt_220) (fun _ h9 => h9) rfl dM_timer_84 ?_
    refine lv_iload_n hx hb dM_timer_87 rfl (lv_at hl 1 rfl) ?_
    refine va_iald hx hb hK hP 3 2 rfl rfl hj dM_timer_88 ?_
    refine lv_i2l hx hb dM_timer_89 rfl ?_
    refine lv_goto (tgt := 100) hx hb dM_timer_90 (by decide) ?_
    exact W.lret hx hb hr (fun t ht hW => ⟨⟨_, (), rfl, by rw [if_neg hc5], by rw [ht]; exact hP, hD⟩, hS.F ht⟩) hS.2.2 dM_timer_100
  · -- not taken at 37: ¬ th j.toNatClampNeg = 0
    refine lv_lconst (v := 0) hx hb dM_timer_40 (by decide) ?_
    exact W.lret hx hb hr (fun t ht hW => ⟨⟨_, (), rfl, by rw [if_pos hc5], by rw [ht]; exact hP, hD⟩, hS.F ht⟩) hS.2.2 dM_timer_41
set_option maxHeartbeats 4000000 in
set_option maxRecDepth 100000 in
theorem cM_timer3 (l : Launch) (dC : Nat → ClassId) (dI : Nat → Nat → Nat) (h0 a0 a1 a2 a3 : Nat) (k0 k1 k2 k3 : ClassId) (fl : Int32) (th : Nat → Int32) (tm : Nat → Int64) (pr ag : Nat → Int32) (ck : Int64) (nx : Int32) (sz : Nat) (j : Int32) (hj : vp_in j 100) : Met l yM_timer (Cond.code yM_timer bM_timer 3 (some .long) :: tw_T) { frames := 2, cells := 0, slots := 0, locals := 80 } (va_Pc [.ref h0, .int j, .int 3] (fun U => U.heap.size = sz ∧ va_P (dC, dI) tw_cl (tw_wM h0 a0 a1 a2 a3 k0 k1 k2 k3 fl th tm pr ag ck nx) U.heap ∧ va_K (dC, dI) tw_cl (tw_k k0 k1 k2 k3) U ∧ va_D (fun _ => True) (tw_wM h0 a0 a1 a2 a3 k0 k1 k2 k3 fl th tm pr ag ck nx))) (va_Ql (S := Unit) (fun r _ => r = (if th j.toNatClampNeg = 0 then 0 else (ag j.toNatClampNeg).toInt64)) (fun _ tz => va_P (dC, dI) tw_cl (tw_wM h0 a0 a1 a2 a3 k0 k1 k2 k3 0 th tm pr ag ck nx) tz.heap ∧ va_D (va_A (tw_wM h0 a0 a1 a2 a3 k0 k1 k2 k3 fl th tm pr ag ck nx) sz) (tw_wM h0 a0 a1 a2 a3 k0 k1 k2 k3 0 th tm pr ag ck nx)) (va_A (tw_wM h0 a0 a1 a2 a3 k0 k1 k2 k3 fl th tm pr ag ck nx) sz)) 0 0 (va_A (tw_wM h0 a0 a1 a2 a3 k0 k1 k2 k3 fl th tm pr ag ck nx) sz) := by
  refine Met.ofW (cc := bM_timer) (maxL := 3) (ret := some .long) (by decide) rfl ?_
  intro p e s m args below meth c s₁ B hml hv
  obtain ⟨rfl, hsz, hP, hK, hD0⟩ := hv
  have hx := B.exec
  have hb := B.bytes
  have hr := B.returns
  have hT := fun (w : Cond) (h : w ∈ tw_T) => atoms_spec (ws := Cond.code yM_timer bM_timer 3 (some .long) :: tw_T) B.pre w (List.mem_cons_of_mem _ h)
  have hown : s.vm.findClass RM = some m.cls := findClass_of_methodNamed B.named
  have hlocks := B.notSynchronized
  have hl := lv_entry ([.ref h0, .int j, .int 3]) (n := 3) (Nat.le_of_ble_eq_true rfl)
  rw [lg_entry_eq]
  generalize (lg_sl ([.ref h0, .int j, .int 3]) ++ List.replicate (3 - (lg_sl ([.ref h0, .int j, .int 3])).length) Slot.unset).toArray = ls at hl ⊢
  have hl : lv_has ls 3 [(0, .ref h0), (1, .int j), (2, .int 3)] := hl
  subst hsz
  have hD := hD0.self (sz := s.heap.size)
  generalize hAe : va_A (tw_wM h0 a0 a1 a2 a3 k0 k1 k2 k3 fl th tm pr ag ck nx) s.heap.size = A at hD ⊢
  have hA : ∀ q : Nat, s.heap.size ≤ q → A q := fun q h => by rw [← hAe]; exact Or.inr h
  have hS : va_S A s.heap s.heap [] := va_S.rf
  refine lv_aload_n hx hb dM_timer_0 rfl (lv_at hl 0 rfl) ?_
  refine lv_iconst (v := 0) hx hb dM_timer_1 (by decide) ?_
  refine va_put (D := (dC, dI)) (ci := 1) (v := .int 0) (ty := .int) (C := RM) (T := FM) (N := 7) hx hb hT in_M TM tM_ok nM_ hown hK hP hD hS 0 rfl rfl 0 (by decide) (hT _ tt_217) (fun _ h9 => h9) rfl (by decide +kernel) rfl rfl (Nat.le_of_ble_eq_true rfl) dM_timer_2 (fun H locs hP hD hS => ?_)
  have hP : va_P (dC, dI) tw_cl [(h0, .inr (1, [.int 0, .ref a0, .ref a1, .ref a2, .ref a3, .int nx, .long ck])), (a0, .inl (k0, 100, .inl th)), (a1, .inl (k1, 100, .inr (.inl tm))), (a2, .inl (k2, 100, .inl pr)), (a3, .inl (k3, 100, .inl ag))] H := hP
  have hD : va_D A [(h0, .inr (1, [.int 0, .ref a0, .ref a1, .ref a2, .ref a3, .int nx, .long ck])), (a0, .inl (k0, 100, .inl th)), (a1, .inl (k1, 100, .inr (.inl tm))), (a2, .inl (k2, 100, .inl pr)), (a3, .inl (k3, 100, .inl ag))] := hD
  refine lv_iload_n hx hb dM_timer_5 rfl (lv_at hl 1 rfl) ?_
  refine lv_if_lt (tgt := 24) hx hb dM_timer_6 (by decide) (fun hc1 => absurd hc1 ((tw_vp99.mp hj).1)) (fun hc1 => ?_)
  refine lv_iload_n hx hb dM_timer_9 rfl (lv_at hl 1 rfl) ?_
  refine lv_bipush (v := 99) hx hb dM_timer_10 (by decide) ?_
  refine lv_icmp_gt (tgt := 24) hx hb dM_timer_12 (by decide) (fun hc2 => absurd hc2 (fun z => Int32.not_lt.mpr (tw_vp99.mp hj).2 z)) (fun hc2 => ?_)
  refine lv_iload_n hx hb dM_timer_15 rfl (lv_at hl 2 rfl) ?_
  refine lv_if_lt (tgt := 24) hx hb dM_timer_16 (by decide) (fun hc3 => absurd hc3 (by decide)) (fun hc3 => ?_)
  refine lv_iload_n hx hb dM_timer_19 rfl (lv_at hl 2 rfl) ?_
  refine lv_iconst (v := 3) hx hb dM_timer_20 (by decide) ?_
  refine lv_icmp_le (tgt := 31) hx hb dM_timer_21 (by decide) (fun hc4 => ?_) (fun hc4 => absurd (by decide) hc4)
  refine lv_aload_n hx hb dM_timer_31 rfl (lv_at hl 0 rfl) ?_
  refine va_get (D := (dC, dI)) (ci := 1) (v := .ref a0) (C := RM) (T := FM) (N := 7) hx hb hT in_M hown hK hP 0 rfl rfl 1 (by decide) (hT _ tt_218) (fun _ h9 => h9) rfl dM_timer_32 ?_
  refine lv_iload_n hx hb dM_timer_35 rfl (lv_at hl 1 rfl) ?_
  refine va_zald hx hb hK hP 1 0 rfl rfl hj dM_timer_36 ?_
  refine lv_if_ne (tgt := 42) hx hb dM_timer_37 (by decide) (fun hc5 => ?_) (fun hc5 => ?_)
  · -- taken at 37: ¬ th j.toNatClampNeg = 0
    refine lv_iload_n hx hb dM_timer_42 rfl (lv_at hl 2 rfl) ?_
    refine lv_if_ne (tgt := 64) hx hb dM_timer_43 (by decide) (fun hc6 => ?_) (fun hc6 => absurd hc6 (by decide))
    refine lv_iload_n hx hb dM_timer_64 rfl (lv_at hl 2 rfl) ?_
    refine lv_iconst (v := 1) hx hb dM_timer_65 (by decide) ?_
    refine lv_icmp_ne (tgt := 78) hx hb dM_timer_66 (by decide) (fun hc7 => ?_) (fun hc7 => absurd hc7 (by decide))
    refine lv_iload_n hx hb dM_timer_78 rfl (lv_at hl 2 rfl) ?_
    refine lv_iconst (v := 2) hx hb dM_timer_79 (by decide) ?_
    refine lv_icmp_ne (tgt := 93) hx hb dM_timer_80 (by decide) (fun hc8 => ?_) (fun hc8 => absurd hc8 (by decide))
    refine lv_aload_n hx hb dM_timer_93 rfl (lv_at hl 0 rfl) ?_
    refine va_get (D := (dC, dI)) (ci := 1) (v := .ref a3) (C := RM) (T := FM) (N := 7) hx hb hT in_M hown hK hP 0 rfl rfl 4 (by decide) (hT _ tt_221) (fun _ h9 => h9) rfl dM_timer_94 ?_
    refine lv_iload_n hx hb dM_timer_97 rfl (lv_at hl 1 rfl) ?_
    refine va_iald hx hb hK hP 4 3 rfl rfl hj dM_timer_98 ?_
    refine lv_i2l hx hb dM_timer_99 rfl ?_
    exact W.lret hx hb hr (fun t ht hW => ⟨⟨_, (), rfl, by rw [if_neg hc5], by rw [ht]; exact hP, hD⟩, hS.F ht⟩) hS.2.2 dM_timer_100
  · -- not taken at 37: ¬ th j.toNatClampNeg = 0
    refine lv_lconst (v := 0) hx hb dM_timer_40 (by decide) ?_
    exact W.lret hx hb hr (fun t ht hW => ⟨⟨_, (), rfl, by rw [if_pos hc5], by rw [ht]; exact hP, hD⟩, hS.F ht⟩) hS.2.2 dM_timer_41
set_option maxHeartbeats 4000000 in
set_option maxRecDepth 100000 in
theorem cM_timerB (l : Launch) (dC : Nat → ClassId) (dI : Nat → Nat → Nat) (h0 a0 a1 a2 a3 : Nat) (k0 k1 k2 k3 : ClassId) (fl : Int32) (th : Nat → Int32) (tm : Nat → Int64) (pr ag : Nat → Int32) (ck : Int64) (nx : Int32) (sz : Nat) (j k : Int32) (hbad : ¬ (vp_in j 100 ∧ ¬ k < 0 ∧ k ≤ 3)) : Met l yM_timer (Cond.code yM_timer bM_timer 3 (some .long) :: tw_T) { frames := 2, cells := 0, slots := 0, locals := 80 } (va_Pc [.ref h0, .int j, .int k] (fun U => U.heap.size = sz ∧ va_P (dC, dI) tw_cl (tw_wM h0 a0 a1 a2 a3 k0 k1 k2 k3 fl th tm pr ag ck nx) U.heap ∧ va_K (dC, dI) tw_cl (tw_k k0 k1 k2 k3) U ∧ va_D (fun _ => True) (tw_wM h0 a0 a1 a2 a3 k0 k1 k2 k3 fl th tm pr ag ck nx))) (va_Ql (S := Unit) (fun r _ => r = 0) (fun _ tz => va_P (dC, dI) tw_cl (tw_wM h0 a0 a1 a2 a3 k0 k1 k2 k3 1 th tm pr ag ck nx) tz.heap ∧ va_D (va_A (tw_wM h0 a0 a1 a2 a3 k0 k1 k2 k3 fl th tm pr ag ck nx) sz) (tw_wM h0 a0 a1 a2 a3 k0 k1 k2 k3 1 th tm pr ag ck nx)) (va_A (tw_wM h0 a0 a1 a2 a3 k0 k1 k2 k3 fl th tm pr ag ck nx) sz)) 0 0 (va_A (tw_wM h0 a0 a1 a2 a3 k0 k1 k2 k3 fl th tm pr ag ck nx) sz) := by
  refine Met.ofW (cc := bM_timer) (maxL := 3) (ret := some .long) (by decide) rfl ?_
  intro p e s m args below meth c s₁ B hml hv
  obtain ⟨rfl, hsz, hP, hK, hD0⟩ := hv
  have hx := B.exec
  have hb := B.bytes
  have hr := B.returns
  have hT := fun (w : Cond) (h : w ∈ tw_T) => atoms_spec (ws := Cond.code yM_timer bM_timer 3 (some .long) :: tw_T) B.pre w (List.mem_cons_of_mem _ h)
  have hown : s.vm.findClass RM = some m.cls := findClass_of_methodNamed B.named
  have hlocks := B.notSynchronized
  have hl := lv_entry ([.ref h0, .int j, .int k]) (n := 3) (Nat.le_of_ble_eq_true rfl)
  rw [lg_entry_eq]
  generalize (lg_sl ([.ref h0, .int j, .int k]) ++ List.replicate (3 - (lg_sl ([.ref h0, .int j, .int k])).length) Slot.unset).toArray = ls at hl ⊢
  have hl : lv_has ls 3 [(0, .ref h0), (1, .int j), (2, .int k)] := hl
  subst hsz
  have hD := hD0.self (sz := s.heap.size)
  generalize hAe : va_A (tw_wM h0 a0 a1 a2 a3 k0 k1 k2 k3 fl th tm pr ag ck nx) s.heap.size = A at hD ⊢
  have hA : ∀ q : Nat, s.heap.size ≤ q → A q := fun q h => by rw [← hAe]; exact Or.inr h
  have hS : va_S A s.heap s.heap [] := va_S.rf
  refine lv_aload_n hx hb dM_timer_0 rfl (lv_at hl 0 rfl) ?_
  refine lv_iconst (v := 0) hx hb dM_timer_1 (by decide) ?_
  refine va_put (D := (dC, dI)) (ci := 1) (v := .int 0) (ty := .int) (C := RM) (T := FM) (N := 7) hx hb hT in_M TM tM_ok nM_ hown hK hP hD hS 0 rfl rfl 0 (by decide) (hT _ tt_217) (fun _ h9 => h9) rfl (by decide +kernel) rfl rfl (Nat.le_of_ble_eq_true rfl) dM_timer_2 (fun H locs hP hD hS => ?_)
  have hP : va_P (dC, dI) tw_cl [(h0, .inr (1, [.int 0, .ref a0, .ref a1, .ref a2, .ref a3, .int nx, .long ck])), (a0, .inl (k0, 100, .inl th)), (a1, .inl (k1, 100, .inr (.inl tm))), (a2, .inl (k2, 100, .inl pr)), (a3, .inl (k3, 100, .inl ag))] H := hP
  have hD : va_D A [(h0, .inr (1, [.int 0, .ref a0, .ref a1, .ref a2, .ref a3, .int nx, .long ck])), (a0, .inl (k0, 100, .inl th)), (a1, .inl (k1, 100, .inr (.inl tm))), (a2, .inl (k2, 100, .inl pr)), (a3, .inl (k3, 100, .inl ag))] := hD
  refine lv_iload_n hx hb dM_timer_5 rfl (lv_at hl 1 rfl) ?_
  refine lv_if_lt (tgt := 24) hx hb dM_timer_6 (by decide) (fun hc1 => ?_) (fun hc1 => ?_)
  · -- taken at 6: j < 0
    refine lv_aload_n hx hb dM_timer_24 rfl (lv_at hl 0 rfl) ?_
    refine lv_iconst (v := 1) hx hb dM_timer_25 (by decide) ?_
    have hFc := va_free (wc := (tw_wM h0 a0 a1 a2 a3 k0 k1 k2 k3 0 th tm pr ag ck nx)) hD hS hA [0, 1, 2, 3, 4] rfl
    refine va_calli (va_runV (C := RM) (b := h0) (As := [.int 1]) (rest := []) ⟨hx, hb, hml, hown, hT⟩ (cM_fail l dC dI h0 a0 a1 a2 a3 k0 k1 k2 k3 0 th tm pr ag ck nx H.size 1) (cwV 1 hT (tw_gV tt_248 tt_250 tp_M_fail tt_2 tt_251) rfl rfl rfl ⟨rfl, by decide +kernel⟩ ⟨Nat.le_of_ble_eq_true rfl, Nat.le_of_ble_eq_true rfl⟩) ⟨fun a U g mk q => by obtain ⟨q0, q1, qP, qK, qD⟩ := q; exact ⟨q0, q1, qP, va_K.moved (u := U) (U := U.calling g mk a) (Vm.Alike.refl U.vm) qK, qD⟩, va_recv (q0 := 0) (ci := 1) hK hP rfl rfl, fun U hU hW => ⟨rfl, by rw [hU], by rw [hU]; exact hP, va_K.moved hW.alike hK, hD.weaken (fun _ _ _ _ => trivial)⟩⟩ rfl rfl hl.1 rfl (lv_room (Nat.le_of_ble_eq_true rfl)) dM_timer_26 ⟨Nat.le_of_ble_eq_true rfl, Nat.le_of_ble_eq_true rfl⟩) hS (fun q _ h => hFc q h) hFc (fun r9 u9 t9 H1 locs ht9 hvm9 hw9 hB9 hz9 hk9 hS => ?_)
    obtain ⟨hP1, hD1⟩ := hB9
    rw [ht9] at hP1
    have hw9 : r9 = 0 := hw9
    subst hw9
    obtain ⟨hP, hD⟩ := va_join (wr := []) (w1 := (tw_wM h0 a0 a1 a2 a3 k0 k1 k2 k3 1 th tm pr ag ck nx)) hP hD [0, 1, 2, 3, 4] [] rfl rfl (by decide) (by decide) hk9 hFc hP1 hD1
    generalize H1 = H at hP hS ⊢
    have hP : va_P (dC, dI) tw_cl [(h0, .inr (1, [.int 1, .ref a0, .ref a1, .ref a2, .ref a3, .int nx, .long ck])), (a0, .inl (k0, 100, .inl th)), (a1, .inl (k1, 100, .inr (.inl tm))), (a2, .inl (k2, 100, .inl pr)), (a3, .inl (k3, 100, .inl ag))] H := hP
    have hD : va_D A [(h0, .inr (1, [.int 1, .ref a0, .ref a1, .ref a2, .ref a3, .int nx, .long ck])), (a0, .inl (k0, 100, .inl th)), (a1, .inl (k1, 100, .inr (.inl tm))), (a2, .inl (k2, 100, .inl pr)), (a3, .inl (k3, 100, .inl ag))] := hD
    refine lv_i2l hx hb dM_timer_29 rfl ?_
    exact W.lret hx hb hr (fun t ht hW => ⟨⟨_, (), rfl, rfl, by rw [ht]; exact hP, hD⟩, hS.F ht⟩) hS.2.2 dM_timer_30
  · -- not taken at 6: j < 0
    refine lv_iload_n hx hb dM_timer_9 rfl (lv_at hl 1 rfl) ?_
    refine lv_bipush (v := 99) hx hb dM_timer_10 (by decide) ?_
    refine lv_icmp_gt (tgt := 24) hx hb dM_timer_12 (by decide) (fun hc2 => ?_) (fun hc2 => ?_)
    · -- taken at 12: j > 99
      refine lv_aload_n hx hb dM_timer_24 rfl (lv_at hl 0 rfl) ?_
      refine lv_iconst (v := 1) hx hb dM_timer_25 (by decide) ?_
      have hFc := va_free (wc := (tw_wM h0 a0 a1 a2 a3 k0 k1 k2 k3 0 th tm pr ag ck nx)) hD hS hA [0, 1, 2, 3, 4] rfl
      refine va_calli (va_runV (C := RM) (b := h0) (As := [.int 1]) (rest := []) ⟨hx, hb, hml, hown, hT⟩ (cM_fail l dC dI h0 a0 a1 a2 a3 k0 k1 k2 k3 0 th tm pr ag ck nx H.size 1) (cwV 1 hT (tw_gV tt_248 tt_250 tp_M_fail tt_2 tt_251) rfl rfl rfl ⟨rfl, by decide +kernel⟩ ⟨Nat.le_of_ble_eq_true rfl, Nat.le_of_ble_eq_true rfl⟩) ⟨fun a U g mk q => by obtain ⟨q0, q1, qP, qK, qD⟩ := q; exact ⟨q0, q1, qP, va_K.moved (u := U) (U := U.calling g mk a) (Vm.Alike.refl U.vm) qK, qD⟩, va_recv (q0 := 0) (ci := 1) hK hP rfl rfl, fun U hU hW => ⟨rfl, by rw [hU], by rw [hU]; exact hP, va_K.moved hW.alike hK, hD.weaken (fun _ _ _ _ => trivial)⟩⟩ rfl rfl hl.1 rfl (lv_room (Nat.le_of_ble_eq_true rfl)) dM_timer_26 ⟨Nat.le_of_ble_eq_true rfl, Nat.le_of_ble_eq_true rfl⟩) hS (fun q _ h => hFc q h) hFc (fun r9 u9 t9 H1 locs ht9 hvm9 hw9 hB9 hz9 hk9 hS => ?_)
      obtain ⟨hP1, hD1⟩ := hB9
      rw [ht9] at hP1
      have hw9 : r9 = 0 := hw9
      subst hw9
      obtain ⟨hP, hD⟩ := va_join (wr := []) (w1 := (tw_wM h0 a0 a1 a2 a3 k0 k1 k2 k3 1 th tm pr ag ck nx)) hP hD [0, 1, 2, 3, 4] [] rfl rfl (by decide) (by decide) hk9 hFc hP1 hD1
      generalize H1 = H at hP hS ⊢
      have hP : va_P (dC, dI) tw_cl [(h0, .inr (1, [.int 1, .ref a0, .ref a1, .ref a2, .ref a3, .int nx, .long ck])), (a0, .inl (k0, 100, .inl th)), (a1, .inl (k1, 100, .inr (.inl tm))), (a2, .inl (k2, 100, .inl pr)), (a3, .inl (k3, 100, .inl ag))] H := hP
      have hD : va_D A [(h0, .inr (1, [.int 1, .ref a0, .ref a1, .ref a2, .ref a3, .int nx, .long ck])), (a0, .inl (k0, 100, .inl th)), (a1, .inl (k1, 100, .inr (.inl tm))), (a2, .inl (k2, 100, .inl pr)), (a3, .inl (k3, 100, .inl ag))] := hD
      refine lv_i2l hx hb dM_timer_29 rfl ?_
      exact W.lret hx hb hr (fun t ht hW => ⟨⟨_, (), rfl, rfl, by rw [ht]; exact hP, hD⟩, hS.F ht⟩) hS.2.2 dM_timer_30
    · -- not taken at 12: j > 99
      refine lv_iload_n hx hb dM_timer_15 rfl (lv_at hl 2 rfl) ?_
      refine lv_if_lt (tgt := 24) hx hb dM_timer_16 (by decide) (fun hc3 => ?_) (fun hc3 => ?_)
      · -- taken at 16: k < 0
        refine lv_aload_n hx hb dM_timer_24 rfl (lv_at hl 0 rfl) ?_
        refine lv_iconst (v := 1) hx hb dM_timer_25 (by decide) ?_
        have hFc := va_free (wc := (tw_wM h0 a0 a1 a2 a3 k0 k1 k2 k3 0 th tm pr ag ck nx)) hD hS hA [0, 1, 2, 3, 4] rfl
        refine va_calli (va_runV (C := RM) (b := h0) (As := [.int 1]) (rest := []) ⟨hx, hb, hml, hown, hT⟩ (cM_fail l dC dI h0 a0 a1 a2 a3 k0 k1 k2 k3 0 th tm pr ag ck nx H.size 1) (cwV 1 hT (tw_gV tt_248 tt_250 tp_M_fail tt_2 tt_251) rfl rfl rfl ⟨rfl, by decide +kernel⟩ ⟨Nat.le_of_ble_eq_true rfl, Nat.le_of_ble_eq_true rfl⟩) ⟨fun a U g mk q => by obtain ⟨q0, q1, qP, qK, qD⟩ := q; exact ⟨q0, q1, qP, va_K.moved (u := U) (U := U.calling g mk a) (Vm.Alike.refl U.vm) qK, qD⟩, va_recv (q0 := 0) (ci := 1) hK hP rfl rfl, fun U hU hW => ⟨rfl, by rw [hU], by rw [hU]; exact hP, va_K.moved hW.alike hK, hD.weaken (fun _ _ _ _ => trivial)⟩⟩ rfl rfl hl.1 rfl (lv_room (Nat.le_of_ble_eq_true rfl)) dM_timer_26 ⟨Nat.le_of_ble_eq_true rfl, Nat.le_of_ble_eq_true rfl⟩) hS (fun q _ h => hFc q h) hFc (fun r9 u9 t9 H1 locs ht9 hvm9 hw9 hB9 hz9 hk9 hS => ?_)
        obtain ⟨hP1, hD1⟩ := hB9
        rw [ht9] at hP1
        have hw9 : r9 = 0 := hw9
        subst hw9
        obtain ⟨hP, hD⟩ := va_join (wr := []) (w1 := (tw_wM h0 a0 a1 a2 a3 k0 k1 k2 k3 1 th tm pr ag ck nx)) hP hD [0, 1, 2, 3, 4] [] rfl rfl (by decide) (by decide) hk9 hFc hP1 hD1
        generalize H1 = H at hP hS ⊢
        have hP : va_P (dC, dI) tw_cl [(h0, .inr (1, [.int 1, .ref a0, .ref a1, .ref a2, .ref a3, .int nx, .long ck])), (a0, .inl (k0, 100, .inl th)), (a1, .inl (k1, 100, .inr (.inl tm))), (a2, .inl (k2, 100, .inl pr)), (a3, .inl (k3, 100, .inl ag))] H := hP
        have hD : va_D A [(h0, .inr (1, [.int 1, .ref a0, .ref a1, .ref a2, .ref a3, .int nx, .long ck])), (a0, .inl (k0, 100, .inl th)), (a1, .inl (k1, 100, .inr (.inl tm))), (a2, .inl (k2, 100, .inl pr)), (a3, .inl (k3, 100, .inl ag))] := hD
        refine lv_i2l hx hb dM_timer_29 rfl ?_
        exact W.lret hx hb hr (fun t ht hW => ⟨⟨_, (), rfl, rfl, by rw [ht]; exact hP, hD⟩, hS.F ht⟩) hS.2.2 dM_timer_30
      · -- not taken at 16: k < 0
        refine lv_iload_n hx hb dM_timer_19 rfl (lv_at hl 2 rfl) ?_
        refine lv_iconst (v := 3) hx hb dM_timer_20 (by decide) ?_
        refine lv_icmp_le (tgt := 31) hx hb dM_timer_21 (by decide) (fun hc4 => absurd hc4 (fun z => hbad ⟨tw_vp99.mpr ⟨hc1, Int32.not_lt.mp hc2⟩, hc3, z⟩)) (fun hc4 => ?_)
        refine lv_aload_n hx hb dM_timer_24 rfl (lv_at hl 0 rfl) ?_
        refine lv_iconst (v := 1) hx hb dM_timer_25 (by decide) ?_
        have hFc := va_free (wc := (tw_wM h0 a0 a1 a2 a3 k0 k1 k2 k3 0 th tm pr ag ck nx)) hD hS hA [0, 1, 2, 3, 4] rfl
        refine va_calli (va_runV (C := RM) (b := h0) (As := [.int 1]) (rest := []) ⟨hx, hb, hml, hown, hT⟩ (cM_fail l dC dI h0 a0 a1 a2 a3 k0 k1 k2 k3 0 th tm pr ag ck nx H.size 1) (cwV 1 hT (tw_gV tt_248 tt_250 tp_M_fail tt_2 tt_251) rfl rfl rfl ⟨rfl, by decide +kernel⟩ ⟨Nat.le_of_ble_eq_true rfl, Nat.le_of_ble_eq_true rfl⟩) ⟨fun a U g mk q => by obtain ⟨q0, q1, qP, qK, qD⟩ := q; exact ⟨q0, q1, qP, va_K.moved (u := U) (U := U.calling g mk a) (Vm.Alike.refl U.vm) qK, qD⟩, va_recv (q0 := 0) (ci := 1) hK hP rfl rfl, fun U hU hW => ⟨rfl, by rw [hU], by rw [hU]; exact hP, va_K.moved hW.alike hK, hD.weaken (fun _ _ _ _ => trivial)⟩⟩ rfl rfl hl.1 rfl (lv_room (Nat.le_of_ble_eq_true rfl)) dM_timer_26 ⟨Nat.le_of_ble_eq_true rfl, Nat.le_of_ble_eq_true rfl⟩) hS (fun q _ h => hFc q h) hFc (fun r9 u9 t9 H1 locs ht9 hvm9 hw9 hB9 hz9 hk9 hS => ?_)
        obtain ⟨hP1, hD1⟩ := hB9
        rw [ht9] at hP1
        have hw9 : r9 = 0 := hw9
        subst hw9
        obtain ⟨hP, hD⟩ := va_join (wr := []) (w1 := (tw_wM h0 a0 a1 a2 a3 k0 k1 k2 k3 1 th tm pr ag ck nx)) hP hD [0, 1, 2, 3, 4] [] rfl rfl (by decide) (by decide) hk9 hFc hP1 hD1
        generalize H1 = H at hP hS ⊢
        have hP : va_P (dC, dI) tw_cl [(h0, .inr (1, [.int 1, .ref a0, .ref a1, .ref a2, .ref a3, .int nx, .long ck])), (a0, .inl (k0, 100, .inl th)), (a1, .inl (k1, 100, .inr (.inl tm))), (a2, .inl (k2, 100, .inl pr)), (a3, .inl (k3, 100, .inl ag))] H := hP
        have hD : va_D A [(h0, .inr (1, [.int 1, .ref a0, .ref a1, .ref a2, .ref a3, .int nx, .long ck])), (a0, .inl (k0, 100, .inl th)), (a1, .inl (k1, 100, .inr (.inl tm))), (a2, .inl (k2, 100, .inl pr)), (a3, .inl (k3, 100, .inl ag))] := hD
        refine lv_i2l hx hb dM_timer_29 rfl ?_
        exact W.lret hx hb hr (fun t ht hW => ⟨⟨_, (), rfl, rfl, by rw [ht]; exact hP, hD⟩, hS.F ht⟩) hS.2.2 dM_timer_30
set_option maxHeartbeats 4000000 in
set_option maxRecDepth 100000 in
theorem cM_count0 (l : Launch) (dC : Nat → ClassId) (dI : Nat → Nat → Nat) (h0 a0 a1 a2 a3 : Nat) (k0 k1 k2 k3 : ClassId) (fl : Int32) (th : Nat → Int32) (tm : Nat → Int64) (pr ag : Nat → Int32) (ck : Int64) (nx : Int32) (sz : Nat)  : Met l yM_count (Cond.code yM_count bM_count 4 (some .long) :: tw_T) { frames := 2, cells := 0, slots := 0, locals := 80 } (va_Pc [.ref h0, .int 0] (fun U => U.heap.size = sz ∧ va_P (dC, dI) tw_cl (tw_wM h0 a0 a1 a2 a3 k0 k1 k2 k3 fl th tm pr ag ck nx) U.heap ∧ va_K (dC, dI) tw_cl (tw_k k0 k1 k2 k3) U ∧ va_D (fun _ => True) (tw_wM h0 a0 a1 a2 a3 k0 k1 k2 k3 fl th tm pr ag ck nx))) (va_Ql (S := Unit) (fun r _ => r = ck) (fun _ tz => va_P (dC, dI) tw_cl (tw_wM h0 a0 a1 a2 a3 k0 k1 k2 k3 0 th tm pr ag ck nx) tz.heap ∧ va_D (va_A (tw_wM h0 a0 a1 a2 a3 k0 k1 k2 k3 fl th tm pr ag ck nx) sz) (tw_wM h0 a0 a1 a2 a3 k0 k1 k2 k3 0 th tm pr ag ck nx)) (va_A (tw_wM h0 a0 a1 a2 a3 k0 k1 k2 k3 fl th tm pr ag ck nx) sz)) 0 0 (va_A (tw_wM h0 a0 a1 a2 a3 k0 k1 k2 k3 fl th tm pr ag ck nx) sz) := by
  refine Met.ofW (cc := bM_count) (maxL := 4) (ret := some .long) (by decide) rfl ?_
  intro p e s m args below meth c s₁ B hml hv
  obtain ⟨rfl, hsz, hP, hK, hD0⟩ := hv
  have hx := B.exec
  have hb := B.bytes
  have hr := B.returns
  have hT := fun (w : Cond) (h : w ∈ tw_T) => atoms_spec (ws := Cond.code yM_count bM_count 4 (some .long) :: tw_T) B.pre w (List.mem_cons_of_mem _ h)
  have hown : s.vm.findClass RM = some m.cls := findClass_of_methodNamed B.named
  have hlocks := B.notSynchronized
  have hl := lv_entry ([.ref h0, .int 0]) (n := 4) (Nat.le_of_ble_eq_true rfl)
  rw [lg_entry_eq]
  generalize (lg_sl ([.ref h0, .int 0]) ++ List.replicate (4 - (lg_sl ([.ref h0, .int 0])).length) Slot.unset).toArray = ls at hl ⊢
  have hl : lv_has ls 4 [(0, .ref h0), (1, .int 0)] := hl
  subst hsz
  have hD := hD0.self (sz := s.heap.size)
  generalize hAe : va_A (tw_wM h0 a0 a1 a2 a3 k0 k1 k2 k3 fl th tm pr ag ck nx) s.heap.size = A at hD ⊢
  have hA : ∀ q : Nat, s.heap.size ≤ q → A q := fun q h => by rw [← hAe]; exact Or.inr h
  have hS : va_S A s.heap s.heap [] := va_S.rf
  refine lv_aload_n hx hb dM_count_0 rfl (lv_at hl 0 rfl) ?_
  refine lv_iconst (v := 0) hx hb dM_count_1 (by decide) ?_
  refine va_put (D := (dC, dI)) (ci := 1) (v := .int 0) (ty := .int) (C := RM) (T := FM) (N := 7) hx hb hT in_M TM tM_ok nM_ hown hK hP hD hS 0 rfl rfl 0 (by decide) (hT _ tt_217) (fun _ h9 => h9) rfl (by decide +kernel) rfl rfl (Nat.le_of_ble_eq_true rfl) dM_count_2 (fun H locs hP hD hS => ?_)
  have hP : va_P (dC, dI) tw_cl [(h0, .inr (1, [.int 0, .ref a0, .ref a1, .ref a2, .ref a3, .int nx, .long ck])), (a0, .inl (k0, 100, .inl th)), (a1, .inl (k1, 100, .inr (.inl tm))), (a2, .inl (k2, 100, .inl pr)), (a3, .inl (k3, 100, .inl ag))] H := hP
  have hD : va_D A [(h0, .inr (1, [.int 0, .ref a0, .ref a1, .ref a2, .ref a3, .int nx, .long ck])), (a0, .inl (k0, 100, .inl th)), (a1, .inl (k1, 100, .inr (.inl tm))), (a2, .inl (k2, 100, .inl pr)), (a3, .inl (k3, 100, .inl ag))] := hD
  refine lv_iload_n hx hb dM_count_5 rfl (lv_at hl 1 rfl) ?_
  refine lv_if_lt (tgt := 14) hx hb dM_count_6 (by decide) (fun hc1 => absurd hc1 (by decide)) (fun hc1 => ?_)
  refine lv_iload_n hx hb dM_count_9 rfl (lv_at hl 1 rfl) ?_
  refine lv_iconst (v := 2) hx hb dM_count_10 (by decide) ?_
  refine lv_icmp_le (tgt := 21) hx hb dM_count_11 (by decide) (fun hc2 => ?_) (fun hc2 => absurd (by decide) hc2)
  refine lv_iconst (v := 0) hx hb dM_count_21 (by decide) ?_
  refine lv_istore_n hx hb dM_count_22 rfl hl (by decide) rfl (fun ls hl => ?_)
  have hl : lv_has ls 4 [(2, .int 0), (0, .ref h0), (1, .int 0)] := hl
  refine lv_iconst (v := 0) hx hb dM_count_23 (by decide) ?_
  refine lv_istore_n hx hb dM_count_24 rfl hl (by decide) rfl (fun ls hl => ?_)
  have hl : lv_has ls 4 [(3, .int 0), (2, .int 0), (0, .ref h0), (1, .int 0)] := hl
  have hl : lv_has ls 4 [(3, .int 0), (2, .int 0), (0, .ref h0), (1, .int 0)] := hl
  refine lpM_count dC dI h0 a0 a1 a2 a3 k0 k1 k2 k3 0 th tm pr ag ck nx hx hb hml hT hown hP hK 0 (fun ls hl => ?_) 100 0 rfl ls (lv_sub hl [0, 1, 3, 2] rfl)
  refine lv_iload_n hx hb dM_count_54 rfl (lv_at hl 2 rfl) ?_
  refine lv_if_ne (tgt := 65) hx hb dM_count_55 (by decide) (fun hc3 => absurd rfl hc3) (fun hc3 => ?_)
  refine lv_aload_n hx hb dM_count_58 rfl (lv_at hl 3 rfl) ?_
  refine va_get (D := (dC, dI)) (ci := 1) (v := .long ck) (C := RM) (T := FM) (N := 7) hx hb hT in_M hown hK hP 0 rfl rfl 6 (by decide) (hT _ tt_223) (fun _ h9 => h9) rfl dM_count_59 ?_
  refine lv_goto (tgt := 80) hx hb dM_count_62 (by decide) ?_
  exact W.lret hx hb hr (fun t ht hW => ⟨⟨_, (), rfl, rfl, by rw [ht]; exact hP, hD⟩, hS.F ht⟩) hS.2.2 dM_count_80
set_option maxHeartbeats 4000000 in
set_option maxRecDepth 100000 in
theorem cM_count1 (l : Launch) (dC : Nat → ClassId) (dI : Nat → Nat → Nat) (h0 a0 a1 a2 a3 : Nat) (k0 k1 k2 k3 : ClassId) (fl : Int32) (th : Nat → Int32) (tm : Nat → Int64) (pr ag : Nat → Int32) (ck : Int64) (nx : Int32) (sz : Nat)  : Met l yM_count (Cond.code yM_count bM_count 4 (some .long) :: tw_T) { frames := 2, cells := 0, slots := 0, locals := 80 } (va_Pc [.ref h0, .int 1] (fun U => U.heap.size = sz ∧ va_P (dC, dI) tw_cl (tw_wM h0 a0 a1 a2 a3 k0 k1 k2 k3 fl th tm pr ag ck nx) U.heap ∧ va_K (dC, dI) tw_cl (tw_k k0 k1 k2 k3) U ∧ va_D (fun _ => True) (tw_wM h0 a0 a1 a2 a3 k0 k1 k2 k3 fl th tm pr ag ck nx))) (va_Ql (S := Unit) (fun r _ => r = (tw_ther th 100).toInt64) (fun _ tz => va_P (dC, dI) tw_cl (tw_wM h0 a0 a1 a2 a3 k0 k1 k2 k3 0 th tm pr ag ck nx) tz.heap ∧ va_D (va_A (tw_wM h0 a0 a1 a2 a3 k0 k1 k2 k3 fl th tm pr ag ck nx) sz) (tw_wM h0 a0 a1 a2 a3 k0 k1 k2 k3 0 th tm pr ag ck nx)) (va_A (tw_wM h0 a0 a1 a2 a3 k0 k1 k2 k3 fl th tm pr ag ck nx) sz)) 0 0 (va_A (tw_wM h0 a0 a1 a2 a3 k0 k1 k2 k3 fl th tm pr ag ck nx) sz) := by
  refine Met.ofW (cc := bM_count) (maxL := 4) (ret := some .long) (by decide) rfl ?_
  intro p e s m args below meth c s₁ B hml hv
  obtain ⟨rfl, hsz, hP, hK, hD0⟩ := hv
  have hx := B.exec
  have hb := B.bytes
  have hr := B.returns
  have hT := fun (w : Cond) (h : w ∈ tw_T) => atoms_spec (ws := Cond.code yM_count bM_count 4 (some .long) :: tw_T) B.pre w (List.mem_cons_of_mem _ h)
  have hown : s.vm.findClass RM = some m.cls := findClass_of_methodNamed B.named
  have hlocks := B.notSynchronized
  have hl := lv_entry ([.ref h0, .int 1]) (n := 4) (Nat.le_of_ble_eq_true rfl)
  rw [lg_entry_eq]
  generalize (lg_sl ([.ref h0, .int 1]) ++ List.replicate (4 - (lg_sl ([.ref h0, .int 1])).length) Slot.unset).toArray = ls at hl ⊢
  have hl : lv_has ls 4 [(0, .ref h0), (1, .int 1)] := hl
  subst hsz
  have hD := hD0.self (sz := s.heap.size)
  generalize hAe : va_A (tw_wM h0 a0 a1 a2 a3 k0 k1 k2 k3 fl th tm pr ag ck nx) s.heap.size = A at hD ⊢
  have hA : ∀ q : Nat, s.heap.size ≤ q → A q := fun q h => by rw [← hAe]; exact Or.inr h
  have hS : va_S A s.heap s.heap [] := va_S.rf
  refine lv_aload_n hx hb dM_count_0 rfl (lv_at hl 0 rfl) ?_
  refine lv_iconst (v := 0) hx hb dM_count_1 (by decide) ?_
  refine va_put (D := (dC, dI)) (ci := 1) (v := .int 0) (ty := .int) (C := RM) (T := FM) (N := 7) hx hb hT in_M TM tM_ok nM_ hown hK hP hD hS 0 rfl rfl 0 (by decide) (hT _ tt_217) (fun _ h9 => h9) rfl (by decide +kernel) rfl rfl (Nat.le_of_ble_eq_true rfl) dM_count_2 (fun H locs hP hD hS => ?_)
  have hP : va_P (dC, dI) tw_cl [(h0, .inr (1, [.int 0, .ref a0, .ref a1, .ref a2, .ref a3, .int nx, .long ck])), (a0, .inl (k0, 100, .inl th)), (a1, .inl (k1, 100, .inr (.inl tm))), (a2, .inl (k2, 100, .inl pr)), (a3, .inl (k3, 100, .inl ag))] H := hP
  have hD : va_D A [(h0, .inr (1, [.int 0, .ref a0, .ref a1, .ref a2, .ref a3, .int nx, .long ck])), (a0, .inl (k0, 100, .inl th)), (a1, .inl (k1, 100, .inr (.inl tm))), (a2, .inl (k2, 100, .inl pr)), (a3, .inl (k3, 100, .inl ag))] := hD
  refine lv_iload_n hx hb dM_count_5 rfl (lv_at hl 1 rfl) ?_
  refine lv_if_lt (tgt := 14) hx hb dM_count_6 (by decide) (fun hc1 => absurd hc1 (by decide)) (fun hc1 => ?_)
  refine lv_iload_n hx hb dM_count_9 rfl (lv_at hl 1 rfl) ?_
  refine lv_iconst (v := 2) hx hb dM_count_10 (by decide) ?_
  refine lv_icmp_le (tgt := 21) hx hb dM_count_11 (by decide) (fun hc2 => ?_) (fun hc2 => absurd (by decide) hc2)
  refine lv_iconst (v := 0) hx hb dM_count_21 (by decide) ?_
  refine lv_istore_n hx hb dM_count_22 rfl hl (by decide) rfl (fun ls hl => ?_)
  have hl : lv_has ls 4 [(2, .int 0), (0, .ref h0), (1, .int 1)] := hl
  refine lv_iconst (v := 0) hx hb dM_count_23 (by decide) ?_
  refine lv_istore_n hx hb dM_count_24 rfl hl (by decide) rfl (fun ls hl => ?_)
  have hl : lv_has ls 4 [(3, .int 0), (2, .int 0), (0, .ref h0), (1, .int 1)] := hl
  have hl : lv_has ls 4 [(3, .int 0), (2, .int 0), (0, .ref h0), (1, .int 1)] := hl
  refine lpM_count dC dI h0 a0 a1 a2 a3 k0 k1 k2 k3 0 th tm pr ag ck nx hx hb hml hT hown hP hK 1 (fun ls hl => ?_) 100 0 rfl ls (lv_sub hl [0, 1, 3, 2] rfl)
  refine lv_iload_n hx hb dM_count_54 rfl (lv_at hl 2 rfl) ?_
  refine lv_if_ne (tgt := 65) hx hb dM_count_55 (by decide) (fun hc3 => ?_) (fun hc3 => absurd hc3 (by decide))
  refine lv_iload_n hx hb dM_count_65 rfl (lv_at hl 2 rfl) ?_
  refine lv_iconst (v := 1) hx hb dM_count_66 (by decide) ?_
  refine lv_icmp_ne (tgt := 75) hx hb dM_count_67 (by decide) (fun hc4 => absurd rfl hc4) (fun hc4 => ?_)
  refine lv_iload_n hx hb dM_count_70 rfl (lv_at hl 1 rfl) ?_
  refine lv_i2l hx hb dM_count_71 rfl ?_
  refine lv_goto (tgt := 80) hx hb dM_count_72 (by decide) ?_
  exact W.lret hx hb hr (fun t ht hW => ⟨⟨_, (), rfl, rfl, by rw [ht]; exact hP, hD⟩, hS.F ht⟩) hS.2.2 dM_count_80
set_option maxHeartbeats 4000000 in
set_option maxRecDepth 100000 in
theorem cM_count2 (l : Launch) (dC : Nat → ClassId) (dI : Nat → Nat → Nat) (h0 a0 a1 a2 a3 : Nat) (k0 k1 k2 k3 : ClassId) (fl : Int32) (th : Nat → Int32) (tm : Nat → Int64) (pr ag : Nat → Int32) (ck : Int64) (nx : Int32) (sz : Nat)  : Met l yM_count (Cond.code yM_count bM_count 4 (some .long) :: tw_T) { frames := 2, cells := 0, slots := 0, locals := 80 } (va_Pc [.ref h0, .int 2] (fun U => U.heap.size = sz ∧ va_P (dC, dI) tw_cl (tw_wM h0 a0 a1 a2 a3 k0 k1 k2 k3 fl th tm pr ag ck nx) U.heap ∧ va_K (dC, dI) tw_cl (tw_k k0 k1 k2 k3) U ∧ va_D (fun _ => True) (tw_wM h0 a0 a1 a2 a3 k0 k1 k2 k3 fl th tm pr ag ck nx))) (va_Ql (S := Unit) (fun r _ => r = (tw_dues th tm ck 100).toInt64) (fun _ tz => va_P (dC, dI) tw_cl (tw_wM h0 a0 a1 a2 a3 k0 k1 k2 k3 0 th tm pr ag ck nx) tz.heap ∧ va_D (va_A (tw_wM h0 a0 a1 a2 a3 k0 k1 k2 k3 fl th tm pr ag ck nx) sz) (tw_wM h0 a0 a1 a2 a3 k0 k1 k2 k3 0 th tm pr ag ck nx)) (va_A (tw_wM h0 a0 a1 a2 a3 k0 k1 k2 k3 fl th tm pr ag ck nx) sz)) 0 0 (va_A (tw_wM h0 a0 a1 a2 a3 k0 k1 k2 k3 fl th tm pr ag ck nx) sz) := by
  refine Met.ofW (cc := bM_count) (maxL := 4) (ret := some .long) (by decide) rfl ?_
  intro p e s m args below meth c s₁ B hml hv
  obtain ⟨rfl, hsz, hP, hK, hD0⟩ := hv
  have hx := B.exec
  have hb := B.bytes
  have hr := B.returns
  have hT := fun (w : Cond) (h : w ∈ tw_T) => atoms_spec (ws := Cond.code yM_count bM_count 4 (some .long) :: tw_T) B.pre w (List.mem_cons_of_mem _ h)
  have hown : s.vm.findClass RM = some m.cls := findClass_of_methodNamed B.named
  have hlocks := B.notSynchronized
  have hl := lv_entry ([.ref h0, .int 2]) (n := 4) (Nat.le_of_ble_eq_true rfl)
  rw [lg_entry_eq]
  generalize (lg_sl ([.ref h0, .int 2]) ++ List.replicate (4 - (lg_sl ([.ref h0, .int 2])).length) Slot.unset).toArray = ls at hl ⊢
  have hl : lv_has ls 4 [(0, .ref h0), (1, .int 2)] := hl
  subst hsz
  have hD := hD0.self (sz := s.heap.size)
  generalize hAe : va_A (tw_wM h0 a0 a1 a2 a3 k0 k1 k2 k3 fl th tm pr ag ck nx) s.heap.size = A at hD ⊢
  have hA : ∀ q : Nat, s.heap.size ≤ q → A q := fun q h => by rw [← hAe]; exact Or.inr h
  have hS : va_S A s.heap s.heap [] := va_S.rf
  refine lv_aload_n hx hb dM_count_0 rfl (lv_at hl 0 rfl) ?_
  refine lv_iconst (v := 0) hx hb dM_count_1 (by decide) ?_
  refine va_put (D := (dC, dI)) (ci := 1) (v := .int 0) (ty := .int) (C := RM) (T := FM) (N := 7) hx hb hT in_M TM tM_ok nM_ hown hK hP hD hS 0 rfl rfl 0 (by decide) (hT _ tt_217) (fun _ h9 => h9) rfl (by decide +kernel) rfl rfl (Nat.le_of_ble_eq_true rfl) dM_count_2 (fun H locs hP hD hS => ?_)
  have hP : va_P (dC, dI) tw_cl [(h0, .inr (1, [.int 0, .ref a0, .ref a1, .ref a2, .ref a3, .int nx, .long ck])), (a0, .inl (k0, 100, .inl th)), (a1, .inl (k1, 100, .inr (.inl tm))), (a2, .inl (k2, 100, .inl pr)), (a3, .inl (k3, 100, .inl ag))] H := hP
  have hD : va_D A [(h0, .inr (1, [.int 0, .ref a0, .ref a1, .ref a2, .ref a3, .int nx, .long ck])), (a0, .inl (k0, 100, .inl th)), (a1, .inl (k1, 100, .inr (.inl tm))), (a2, .inl (k2, 100, .inl pr)), (a3, .inl (k3, 100, .inl ag))] := hD
  refine lv_iload_n hx hb dM_count_5 rfl (lv_at hl 1 rfl) ?_
  refine lv_if_lt (tgt := 14) hx hb dM_count_6 (by decide) (fun hc1 => absurd hc1 (by decide)) (fun hc1 => ?_)
  refine lv_iload_n hx hb dM_count_9 rfl (lv_at hl 1 rfl) ?_
  refine lv_iconst (v := 2) hx hb dM_count_10 (by decide) ?_
  refine lv_icmp_le (tgt := 21) hx hb dM_count_11 (by decide) (fun hc2 => ?_) (fun hc2 => absurd (by decide) hc2)
  refine lv_iconst (v := 0) hx hb dM_count_21 (by decide) ?_
  refine lv_istore_n hx hb dM_count_22 rfl hl (by decide) rfl (fun ls hl => ?_)
  have hl : lv_has ls 4 [(2, .int 0), (0, .ref h0), (1, .int 2)] := hl
  refine lv_iconst (v := 0) hx hb dM_count_23 (by decide) ?_
  refine lv_istore_n hx hb dM_count_24 rfl hl (by decide) rfl (fun ls hl => ?_)
  have hl : lv_has ls 4 [(3, .int 0), (2, .int 0), (0, .ref h0), (1, .int 2)] := hl
  have hl : lv_has ls 4 [(3, .int 0), (2, .int 0), (0, .ref h0), (1, .int 2)] := hl
  refine lpM_count dC dI h0 a0 a1 a2 a3 k0 k1 k2 k3 0 th tm pr ag ck nx hx hb hml hT hown hP hK 2 (fun ls hl => ?_) 100 0 rfl ls (lv_sub hl [0, 1, 3, 2] rfl)
  refine lv_iload_n hx hb dM_count_54 rfl (lv_at hl 2 rfl) ?_
  refine lv_if_ne (tgt := 65) hx hb dM_count_55 (by decide) (fun hc3 => ?_) (fun hc3 => absurd hc3 (by decide))
  refine lv_iload_n hx hb dM_count_65 rfl (lv_at hl 2 rfl) ?_
  refine lv_iconst (v := 1) hx hb dM_count_66 (by decide) ?_
  refine lv_icmp_ne (tgt := 75) hx hb dM_count_67 (by decide) (fun hc4 => ?_) (fun hc4 => absurd hc4 (by decide))
  refine lv_aload_n hx hb dM_count_75 rfl (lv_at hl 3 rfl) ?_
  refine vp_callSi (W.runV (C := RM) (b := h0) (As := []) (rest := []) ⟨hx, hb, hml, hown, hT⟩ (cM_dues l dC dI h0 a0 a1 a2 a3 k0 k1 k2 k3 0 th tm pr ag ck nx) (cwV 0 hT (tw_gV tt_274 tt_276 tp_M_dues tt_2 tt_277) rfl rfl rfl ⟨rfl, by decide +kernel⟩ ⟨Nat.le_of_ble_eq_true rfl, Nat.le_of_ble_eq_true rfl⟩) ⟨fun a U g mk q => ⟨q.1, q.2.1, va_K.moved (u := U) (U := U.calling g mk a) (Vm.Alike.refl U.vm) q.2.2⟩, va_recv (q0 := 0) (ci := 1) hK hP rfl rfl, fun U hU hW => ⟨rfl, by rw [hU]; exact hP, va_K.moved hW.alike hK⟩⟩ rfl rfl hl.1 rfl (lv_room (Nat.le_of_ble_eq_true rfl)) dM_count_76 ⟨Nat.le_of_ble_eq_true rfl, Nat.le_of_ble_eq_true rfl⟩) (fun r2 h2 => ?_)
  subst h2
  refine lv_i2l hx hb dM_count_79 rfl ?_
  exact W.lret hx hb hr (fun t ht hW => ⟨⟨_, (), rfl, rfl, by rw [ht]; exact hP, hD⟩, hS.F ht⟩) hS.2.2 dM_count_80
set_option maxHeartbeats 4000000 in
set_option maxRecDepth 100000 in
theorem cM_countB (l : Launch) (dC : Nat → ClassId) (dI : Nat → Nat → Nat) (h0 a0 a1 a2 a3 : Nat) (k0 k1 k2 k3 : ClassId) (fl : Int32) (th : Nat → Int32) (tm : Nat → Int64) (pr ag : Nat → Int32) (ck : Int64) (nx : Int32) (sz : Nat) (k : Int32) (hbad : k.toInt < 0 ∨ 2 < k.toInt) : Met l yM_count (Cond.code yM_count bM_count 4 (some .long) :: tw_T) { frames := 2, cells := 0, slots := 0, locals := 80 } (va_Pc [.ref h0, .int k] (fun U => U.heap.size = sz ∧ va_P (dC, dI) tw_cl (tw_wM h0 a0 a1 a2 a3 k0 k1 k2 k3 fl th tm pr ag ck nx) U.heap ∧ va_K (dC, dI) tw_cl (tw_k k0 k1 k2 k3) U ∧ va_D (fun _ => True) (tw_wM h0 a0 a1 a2 a3 k0 k1 k2 k3 fl th tm pr ag ck nx))) (va_Ql (S := Unit) (fun r _ => r = 0) (fun _ tz => va_P (dC, dI) tw_cl (tw_wM h0 a0 a1 a2 a3 k0 k1 k2 k3 1 th tm pr ag ck nx) tz.heap ∧ va_D (va_A (tw_wM h0 a0 a1 a2 a3 k0 k1 k2 k3 fl th tm pr ag ck nx) sz) (tw_wM h0 a0 a1 a2 a3 k0 k1 k2 k3 1 th tm pr ag ck nx)) (va_A (tw_wM h0 a0 a1 a2 a3 k0 k1 k2 k3 fl th tm pr ag ck nx) sz)) 0 0 (va_A (tw_wM h0 a0 a1 a2 a3 k0 k1 k2 k3 fl th tm pr ag ck nx) sz) := by
  refine Met.ofW (cc := bM_count) (maxL := 4) (ret := some .long) (by decide) rfl ?_
  intro p e s m args below meth c s₁ B hml hv
  obtain ⟨rfl, hsz, hP, hK, hD0⟩ := hv
  have hx := B.exec
  have hb := B.bytes
  have hr := B.returns
  have hT := fun (w : Cond) (h : w ∈ tw_T) => atoms_spec (ws := Cond.code yM_count bM_count 4 (some .long) :: tw_T) B.pre w (List.mem_cons_of_mem _ h)
  have hown : s.vm.findClass RM = some m.cls := findClass_of_methodNamed B.named
  have hlocks := B.notSynchronized
  have hl := lv_entry ([.ref h0, .int k]) (n := 4) (Nat.le_of_ble_eq_true rfl)
  rw [lg_entry_eq]
  generalize (lg_sl ([.ref h0, .int k]) ++ List.replicate (4 - (lg_sl ([.ref h0, .int k])).length) Slot.unset).toArray = ls at hl ⊢
  have hl : lv_has ls 4 [(0, .ref h0), (1, .int k)] := hl
  subst hsz
  have hD := hD0.self (sz := s.heap.size)
  generalize hAe : va_A (tw_wM h0 a0 a1 a2 a3 k0 k1 k2 k3 fl th tm pr ag ck nx) s.heap.size = A at hD ⊢
  have hA : ∀ q : Nat, s.heap.size ≤ q → A q := fun q h => by rw [← hAe]; exact Or.inr h
  have hS : va_S A s.heap s.heap [] := va_S.rf
  refine lv_aload_n hx hb dM_count_0 rfl (lv_at hl 0 rfl) ?_
  refine lv_iconst (v := 0) hx hb dM_count_1 (by decide) ?_
  refine va_put (D := (dC, dI)) (ci := 1) (v := .int 0) (ty := .int) (C := RM) (T := FM) (N := 7) hx hb hT in_M TM tM_ok nM_ hown hK hP hD hS 0 rfl rfl 0 (by decide) (hT _ tt_217) (fun _ h9 => h9) rfl (by decide +kernel) rfl rfl (Nat.le_of_ble_eq_true rfl) dM_count_2 (fun H locs hP hD hS => ?_)
  have hP : va_P (dC, dI) tw_cl [(h0, .inr (1, [.int 0, .ref a0, .ref a1, .ref a2, .ref a3, .int nx, .long ck])), (a0, .inl (k0, 100, .inl th)), (a1, .inl (k1, 100, .inr (.inl tm))), (a2, .inl (k2, 100, .inl pr)), (a3, .inl (k3, 100, .inl ag))] H := hP
  have hD : va_D A [(h0, .inr (1, [.int 0, .ref a0, .ref a1, .ref a2, .ref a3, .int nx, .long ck])), (a0, .inl (k0, 100, .inl th)), (a1, .inl (k1, 100, .inr (.inl tm))), (a2, .inl (k2, 100, .inl pr)), (a3, .inl (k3, 100, .inl ag))] := hD
  refine lv_iload_n hx hb dM_count_5 rfl (lv_at hl 1 rfl) ?_
  refine lv_if_lt (tgt := 14) hx hb dM_count_6 (by decide) (fun hc1 => ?_) (fun hc1 => ?_)
  · -- taken at 6: k < 0
    refine lv_aload_n hx hb dM_count_14 rfl (lv_at hl 0 rfl) ?_
    refine lv_iconst (v := 1) hx hb dM_count_15 (by decide) ?_
    have hFc := va_free (wc := (tw_wM h0 a0 a1 a2 a3 k0 k1 k2 k3 0 th tm pr ag ck nx)) hD hS hA [0, 1, 2, 3, 4] rfl
    refine va_calli (va_runV (C := RM) (b := h0) (As := [.int 1]) (rest := []) ⟨hx, hb, hml, hown, hT⟩ (cM_fail l dC dI h0 a0 a1 a2 a3 k0 k1 k2 k3 0 th tm pr ag ck nx H.size 1) (cwV 1 hT (tw_gV tt_248 tt_250 tp_M_fail tt_2 tt_251) rfl rfl rfl ⟨rfl, by decide +kernel⟩ ⟨Nat.le_of_ble_eq_true rfl, Nat.le_of_ble_eq_true rfl⟩) ⟨fun a U g mk q => by obtain ⟨q0, q1, qP, qK, qD⟩ := q; exact ⟨q0, q1, qP, va_K.moved (u := U) (U := U.calling g mk a) (Vm.Alike.refl U.vm) qK, qD⟩, va_recv (q0 := 0) (ci := 1) hK hP rfl rfl, fun U hU hW => ⟨rfl, by rw [hU], by rw [hU]; exact hP, va_K.moved hW.alike hK, hD.weaken (fun _ _ _ _ => trivial)⟩⟩ rfl rfl hl.1 rfl (lv_room (Nat.le_of_ble_eq_true rfl)) dM_count_16 ⟨Nat.le_of_ble_eq_true rfl, Nat.le_of_ble_eq_true rfl⟩) hS (fun q _ h => hFc q h) hFc (fun r9 u9 t9 H1 locs ht9 hvm9 hw9 hB9 hz9 hk9 hS => ?_)
    obtain ⟨hP1, hD1⟩ := hB9
    rw [ht9] at hP1
    have hw9 : r9 = 0 := hw9
    subst hw9
    obtain ⟨hP, hD⟩ := va_join (wr := []) (w1 := (tw_wM h0 a0 a1 a2 a3 k0 k1 k2 k3 1 th tm pr ag ck nx)) hP hD [0, 1, 2, 3, 4] [] rfl rfl (by decide) (by decide) hk9 hFc hP1 hD1
    generalize H1 = H at hP hS ⊢
    have hP : va_P (dC, dI) tw_cl [(h0, .inr (1, [.int 1, .ref a0, .ref a1, .ref a2, .ref a3, .int nx, .long ck])), (a0, .inl (k0, 100, .inl th)), (a1, .inl (k1, 100, .inr (.inl tm))), (a2, .inl (k2, 100, .inl pr)), (a3, .inl (k3, 100, .inl ag))] H := hP
    have hD : va_D A [(h0, .inr (1, [.int 1, .ref a0, .ref a1, .ref a2, .ref a3, .int nx, .long ck])), (a0, .inl (k0, 100, .inl th)), (a1, .inl (k1, 100, .inr (.inl tm))), (a2, .inl (k2, 100, .inl pr)), (a3, .inl (k3, 100, .inl ag))] := hD
    refine lv_i2l hx hb dM_count_19 rfl ?_
    exact W.lret hx hb hr (fun t ht hW => ⟨⟨_, (), rfl, rfl, by rw [ht]; exact hP, hD⟩, hS.F ht⟩) hS.2.2 dM_count_20
  · -- not taken at 6: k < 0
    refine lv_iload_n hx hb dM_count_9 rfl (lv_at hl 1 rfl) ?_
    refine lv_iconst (v := 2) hx hb dM_count_10 (by decide) ?_
    refine lv_icmp_le (tgt := 21) hx hb dM_count_11 (by decide) (fun hc2 => absurd hc2 (fun z => tw_k2 hbad hc1 z)) (fun hc2 => ?_)
    refine lv_aload_n hx hb dM_count_14 rfl (lv_at hl 0 rfl) ?_
    refine lv_iconst (v := 1) hx hb dM_count_15 (by decide) ?_
    have hFc := va_free (wc := (tw_wM h0 a0 a1 a2 a3 k0 k1 k2 k3 0 th tm pr ag ck nx)) hD hS hA [0, 1, 2, 3, 4] rfl
    refine va_calli (va_runV (C := RM) (b := h0) (As := [.int 1]) (rest := []) ⟨hx, hb, hml, hown, hT⟩ (cM_fail l dC dI h0 a0 a1 a2 a3 k0 k1 k2 k3 0 th tm pr ag ck nx H.size 1) (cwV 1 hT (tw_gV tt_248 tt_250 tp_M_fail tt_2 tt_251) rfl rfl rfl ⟨rfl, by decide +kernel⟩ ⟨Nat.le_of_ble_eq_true rfl, Nat.le_of_ble_eq_true rfl⟩) ⟨fun a U g mk q => by obtain ⟨q0, q1, qP, qK, qD⟩ := q; exact ⟨q0, q1, qP, va_K.moved (u := U) (U := U.calling g mk a) (Vm.Alike.refl U.vm) qK, qD⟩, va_recv (q0 := 0) (ci := 1) hK hP rfl rfl, fun U hU hW => ⟨rfl, by rw [hU], by rw [hU]; exact hP, va_K.moved hW.alike hK, hD.weaken (fun _ _ _ _ => trivial)⟩⟩ rfl rfl hl.1 rfl (lv_room (Nat.le_of_ble_eq_true rfl)) dM_count_16 ⟨Nat.le_of_ble_eq_true rfl, Nat.le_of_ble_eq_true rfl⟩) hS (fun q _ h => hFc q h) hFc (fun r9 u9 t9 H1 locs ht9 hvm9 hw9 hB9 hz9 hk9 hS => ?_)
    obtain ⟨hP1, hD1⟩ := hB9
    rw [ht9] at hP1
    have hw9 : r9 = 0 := hw9
    subst hw9
    obtain ⟨hP, hD⟩ := va_join (wr := []) (w1 := (tw_wM h0 a0 a1 a2 a3 k0 k1 k2 k3 1 th tm pr ag ck nx)) hP hD [0, 1, 2, 3, 4] [] rfl rfl (by decide) (by decide) hk9 hFc hP1 hD1
    generalize H1 = H at hP hS ⊢
    have hP : va_P (dC, dI) tw_cl [(h0, .inr (1, [.int 1, .ref a0, .ref a1, .ref a2, .ref a3, .int nx, .long ck])), (a0, .inl (k0, 100, .inl th)), (a1, .inl (k1, 100, .inr (.inl tm))), (a2, .inl (k2, 100, .inl pr)), (a3, .inl (k3, 100, .inl ag))] H := hP
    have hD : va_D A [(h0, .inr (1, [.int 1, .ref a0, .ref a1, .ref a2, .ref a3, .int nx, .long ck])), (a0, .inl (k0, 100, .inl th)), (a1, .inl (k1, 100, .inr (.inl tm))), (a2, .inl (k2, 100, .inl pr)), (a3, .inl (k3, 100, .inl ag))] := hD
    refine lv_i2l hx hb dM_count_19 rfl ?_
    exact W.lret hx hb hr (fun t ht hW => ⟨⟨_, (), rfl, rfl, by rw [ht]; exact hP, hD⟩, hS.F ht⟩) hS.2.2 dM_count_20
end
section
/-! The two constructors: both pictures empty. Rows laid by our own program (wip/gen/gc.py). -/
set_option maxHeartbeats 4000000 in
set_option maxRecDepth 100000 in
theorem cX_init (l : Launch) (dC : Nat → ClassId) (dI : Nat → Nat → Nat) (h0 sz : Nat) : Met l yX_init (Cond.code yX_init bX_init 1 (none) :: tw_T) { frames := 1, cells := 4, slots := 400, locals := 12 } (va_Pc [.ref h0] (fun U => U.heap.size = sz ∧ va_P (dC, dI) tw_cl [(h0, .inr (0, [.null, .null, .null, .null, .long 0, .int 0]))] U.heap ∧ va_K (dC, dI) tw_cl [] U ∧ va_D (fun _ => True) [(h0, .inr (0, [.null, .null, .null, .null, .long 0, .int 0]))])) (va_Qv (S := Unit) (fun _ => True) (fun _ tz => ∃ (a0 a1 a2 a3 : Nat) (k0 k1 k2 k3 : ClassId), va_P (dC, dI) tw_cl (tw_wX h0 a0 a1 a2 a3 k0 k1 k2 k3 (fun _ => 0) (fun _ => 0) (fun _ => 0) (fun _ => 0) 0 0) tz.heap ∧ va_K (dC, dI) tw_cl (tw_k k0 k1 k2 k3) tz ∧ va_D (va_A [(h0, .inr (0, [.null, .null, .null, .null, .long 0, .int 0]))] sz) (tw_wX h0 a0 a1 a2 a3 k0 k1 k2 k3 (fun _ => 0) (fun _ => 0) (fun _ => 0) (fun _ => 0) 0 0)) (va_A [(h0, .inr (0, [.null, .null, .null, .null, .long 0, .int 0]))] sz)) 4 400 (va_A [(h0, .inr (0, [.null, .null, .null, .null, .long 0, .int 0]))] sz) := by
  refine Met.ofW (cc := bX_init) (maxL := 1) (ret := none) (by decide) rfl ?_
  intro p e s m args below meth c s₁ B hml hv
  obtain ⟨rfl, hsz, hP, hK, hD0⟩ := hv
  have hx := B.exec
  have hb := B.bytes
  have hr := B.returns
  have hT := fun (w : Cond) (h : w ∈ tw_T) => atoms_spec (ws := Cond.code yX_init bX_init 1 (none) :: tw_T) B.pre w (List.mem_cons_of_mem _ h)
  have hown : s.vm.findClass RX = some m.cls := findClass_of_methodNamed B.named
  have hlocks := B.notSynchronized
  have hl := lv_entry ([.ref h0]) (n := 1) (Nat.le_of_ble_eq_true rfl)
  rw [lg_entry_eq]
  generalize (lg_sl ([.ref h0]) ++ List.replicate (1 - (lg_sl ([.ref h0])).length) Slot.unset).toArray = ls at hl ⊢
  have hl : lv_has ls 1 [(0, .ref h0)] := hl
  have hin : meth.name = "<init>" := (name_of_methodNamed B.named B.method).1
  subst hsz
  have hD := hD0.self (sz := s.heap.size)
  generalize hAe : va_A [(h0, .inr (0, [.null, .null, .null, .null, .long 0, .int 0]))] s.heap.size = A at hD ⊢
  have hA : ∀ q : Nat, s.heap.size ≤ q → A q := fun q h => by rw [← hAe]; exact Or.inr h
  have hS : va_S A s.heap s.heap [] := va_S.rf
  refine lv_aload_n hx hb dX_init_0 rfl (lv_at hl 0 rfl) ?_
  refine W.objInit hx hb hown (hT _ tt_13) (hT _ tt_14) (hT _ tt_15) rfl (by rw [hml]; exact hl.1) rfl dX_init_1 (Nat.le_of_ble_eq_true rfl) (Nat.le_of_ble_eq_true rfl) ?_
  refine W.eq (g2 := F0 m 4 ls []) rfl ?_
  refine lv_aload_n hx hb dX_init_4 rfl (lv_at hl 0 rfl) ?_
  refine lv_bipush (v := 100) hx hb dX_init_5 (by decide) ?_
  refine va_newa (atype := .boolean) (ty := .boolean) (a0 := (100, .inl (fun _ => 0))) (N' := 100) hx hb (hT _ tt_35) rfl hK hP hD hS hA (fun _ => rfl) (by decide) (by decide) (by decide) (Nat.le_of_ble_eq_true rfl) (Nat.le_of_ble_eq_true rfl) dX_init_7 (fun a0 k0 H hK hP hD hS => ?_)
  have hP : va_P (dC, dI) tw_cl [(h0, .inr (0, [.null, .null, .null, .null, .long 0, .int 0])), (a0, .inl (k0, 100, .inl (fun _ => 0)))] H := hP
  have hD : va_D A [(h0, .inr (0, [.null, .null, .null, .null, .long 0, .int 0])), (a0, .inl (k0, 100, .inl (fun _ => 0)))] := hD
  have hK : va_K (dC, dI) tw_cl [(k0, .boolean)] s := hK
  refine va_putF (D := (dC, dI)) (ci := 0) (v := .ref a0) (ty := .array .boolean) (C := RX) (T := FX) (N := 6) hx hb hT in_X TX tX_ok nX_ hown hK hP hD hS 0 rfl rfl 0 (by decide) (hT _ tt_16) (fun _ h9 => h9) rfl hin rfl (by decide +kernel) rfl rfl (Nat.le_of_ble_eq_true rfl) dX_init_9 (fun H locs hP hD hS => ?_)
  have hP : va_P (dC, dI) tw_cl [(h0, .inr (0, [.ref a0, .null, .null, .null, .long 0, .int 0])), (a0, .inl (k0, 100, .inl (fun _ => 0)))] H := hP
  have hD : va_D A [(h0, .inr (0, [.ref a0, .null, .null, .null, .long 0, .int 0])), (a0, .inl (k0, 100, .inl (fun _ => 0)))] := hD
  refine lv_aload_n hx hb dX_init_12 rfl (lv_at hl 0 rfl) ?_
  refine lv_bipush (v := 100) hx hb dX_init_13 (by decide) ?_
  refine va_newa (atype := .long) (ty := .long) (a0 := (100, .inr (.inl (fun _ => 0)))) (N' := 100) hx hb (hT _ tt_36) rfl hK hP hD hS hA (fun _ => rfl) (by decide) (by decide) (by decide) (Nat.le_of_ble_eq_true rfl) (Nat.le_of_ble_eq_true rfl) dX_init_15 (fun a1 k1 H hK hP hD hS => ?_)
  have hP : va_P (dC, dI) tw_cl [(h0, .inr (0, [.ref a0, .null, .null, .null, .long 0, .int 0])), (a0, .inl (k0, 100, .inl (fun _ => 0))), (a1, .inl (k1, 100, .inr (.inl (fun _ => 0))))] H := hP
  have hD : va_D A [(h0, .inr (0, [.ref a0, .null, .null, .null, .long 0, .int 0])), (a0, .inl (k0, 100, .inl (fun _ => 0))), (a1, .inl (k1, 100, .inr (.inl (fun _ => 0))))] := hD
  have hK : va_K (dC, dI) tw_cl [(k0, .boolean), (k1, .long)] s := hK
  refine va_putF (D := (dC, dI)) (ci := 0) (v := .ref a1) (ty := .array .long) (C := RX) (T := FX) (N := 6) hx hb hT in_X TX tX_ok nX_ hown hK hP hD hS 0 rfl rfl 1 (by decide) (hT _ tt_17) (fun _ h9 => h9) rfl hin rfl (by decide +kernel) rfl rfl (Nat.le_of_ble_eq_true rfl) dX_init_17 (fun H locs hP hD hS => ?_)
  have hP : va_P (dC, dI) tw_cl [(h0, .inr (0, [.ref a0, .ref a1, .null, .null, .long 0, .int 0])), (a0, .inl (k0, 100, .inl (fun _ => 0))), (a1, .inl (k1, 100, .inr (.inl (fun _ => 0))))] H := hP
  have hD : va_D A [(h0, .inr (0, [.ref a0, .ref a1, .null, .null, .long 0, .int 0])), (a0, .inl (k0, 100, .inl (fun _ => 0))), (a1, .inl (k1, 100, .inr (.inl (fun _ => 0))))] := hD
  refine lv_aload_n hx hb dX_init_20 rfl (lv_at hl 0 rfl) ?_
  refine lv_bipush (v := 100) hx hb dX_init_21 (by decide) ?_
  refine va_newa (atype := .int) (ty := .int) (a0 := (100, .inl (fun _ => 0))) (N' := 100) hx hb (hT _ tt_37) rfl hK hP hD hS hA (fun _ => rfl) (by decide) (by decide) (by decide) (Nat.le_of_ble_eq_true rfl) (Nat.le_of_ble_eq_true rfl) dX_init_23 (fun a2 k2 H hK hP hD hS => ?_)
  have hP : va_P (dC, dI) tw_cl [(h0, .inr (0, [.ref a0, .ref a1, .null, .null, .long 0, .int 0])), (a0, .inl (k0, 100, .inl (fun _ => 0))), (a1, .inl (k1, 100, .inr (.inl (fun _ => 0)))), (a2, .inl (k2, 100, .inl (fun _ => 0)))] H := hP
  have hD : va_D A [(h0, .inr (0, [.ref a0, .ref a1, .null, .null, .long 0, .int 0])), (a0, .inl (k0, 100, .inl (fun _ => 0))), (a1, .inl (k1, 100, .inr (.inl (fun _ => 0)))), (a2, .inl (k2, 100, .inl (fun _ => 0)))] := hD
  have hK : va_K (dC, dI) tw_cl [(k0, .boolean), (k1, .long), (k2, .int)] s := hK
  refine va_putF (D := (dC, dI)) (ci := 0) (v := .ref a2) (ty := .array .int) (C := RX) (T := FX) (N := 6) hx hb hT in_X TX tX_ok nX_ hown hK hP hD hS 0 rfl rfl 2 (by decide) (hT _ tt_18) (fun _ h9 => h9) rfl hin rfl (by decide +kernel) rfl rfl (Nat.le_of_ble_eq_true rfl) dX_init_25 (fun H locs hP hD hS => ?_)
  have hP : va_P (dC, dI) tw_cl [(h0, .inr (0, [.ref a0, .ref a1, .ref a2, .null, .long 0, .int 0])), (a0, .inl (k0, 100, .inl (fun _ => 0))), (a1, .inl (k1, 100, .inr (.inl (fun _ => 0)))), (a2, .inl (k2, 100, .inl (fun _ => 0)))] H := hP
  have hD : va_D A [(h0, .inr (0, [.ref a0, .ref a1, .ref a2, .null, .long 0, .int 0])), (a0, .inl (k0, 100, .inl (fun _ => 0))), (a1, .inl (k1, 100, .inr (.inl (fun _ => 0)))), (a2, .inl (k2, 100, .inl (fun _ => 0)))] := hD
  refine lv_aload_n hx hb dX_init_28 rfl (lv_at hl 0 rfl) ?_
  refine lv_bipush (v := 100) hx hb dX_init_29 (by decide) ?_
  refine va_newa (atype := .int) (ty := .int) (a0 := (100, .inl (fun _ => 0))) (N' := 100) hx hb (hT _ tt_37) rfl hK hP hD hS hA (fun _ => rfl) (by decide) (by decide) (by decide) (Nat.le_of_ble_eq_true rfl) (Nat.le_of_ble_eq_true rfl) dX_init_31 (fun a3 k3 H hK hP hD hS => ?_)
  have hP : va_P (dC, dI) tw_cl [(h0, .inr (0, [.ref a0, .ref a1, .ref a2, .null, .long 0, .int 0])), (a0, .inl (k0, 100, .inl (fun _ => 0))), (a1, .inl (k1, 100, .inr (.inl (fun _ => 0)))), (a2, .inl (k2, 100, .inl (fun _ => 0))), (a3, .inl (k3, 100, .inl (fun _ => 0)))] H := hP
  have hD : va_D A [(h0, .inr (0, [.ref a0, .ref a1, .ref a2, .null, .long 0, .int 0])), (a0, .inl (k0, 100, .inl (fun _ => 0))), (a1, .inl (k1, 100, .inr (.inl (fun _ => 0)))), (a2, .inl (k2, 100, .inl (fun _ => 0))), (a3, .inl (k3, 100, .inl (fun _ => 0)))] := hD
  have hK : va_K (dC, dI) tw_cl [(k0, .boolean), (k1, .long), (k2, .int), (k3, .int)] s := hK
  refine va_putF (D := (dC, dI)) (ci := 0) (v := .ref a3) (ty := .array .int) (C := RX) (T := FX) (N := 6) hx hb hT in_X TX tX_ok nX_ hown hK hP hD hS 0 rfl rfl 3 (by decide) (hT _ tt_19) (fun _ h9 => h9) rfl hin rfl (by decide +kernel) rfl rfl (Nat.le_of_ble_eq_true rfl) dX_init_33 (fun H locs hP hD hS => ?_)
  have hP : va_P (dC, dI) tw_cl [(h0, .inr (0, [.ref a0, .ref a1, .ref a2, .ref a3, .long 0, .int 0])), (a0, .inl (k0, 100, .inl (fun _ => 0))), (a1, .inl (k1, 100, .inr (.inl (fun _ => 0)))), (a2, .inl (k2, 100, .inl (fun _ => 0))), (a3, .inl (k3, 100, .inl (fun _ => 0)))] H := hP
  have hD : va_D A [(h0, .inr (0, [.ref a0, .ref a1, .ref a2, .ref a3, .long 0, .int 0])), (a0, .inl (k0, 100, .inl (fun _ => 0))), (a1, .inl (k1, 100, .inr (.inl (fun _ => 0)))), (a2, .inl (k2, 100, .inl (fun _ => 0))), (a3, .inl (k3, 100, .inl (fun _ => 0)))] := hD
  refine lv_aload_n hx hb dX_init_36 rfl (lv_at hl 0 rfl) ?_
  refine lv_lconst (v := 0) hx hb dX_init_37 (by decide) ?_
  refine va_put (D := (dC, dI)) (ci := 0) (v := .long 0) (ty := .long) (C := RX) (T := FX) (N := 6) hx hb hT in_X TX tX_ok nX_ hown hK hP hD hS 0 rfl rfl 4 (by decide) (hT _ tt_20) (fun _ h9 => h9) rfl (by decide +kernel) rfl rfl (Nat.le_of_ble_eq_true rfl) dX_init_38 (fun H locs hP hD hS => ?_)
  have hP : va_P (dC, dI) tw_cl [(h0, .inr (0, [.ref a0, .ref a1, .ref a2, .ref a3, .long 0, .int 0])), (a0, .inl (k0, 100, .inl (fun _ => 0))), (a1, .inl (k1, 100, .inr (.inl (fun _ => 0)))), (a2, .inl (k2, 100, .inl (fun _ => 0))), (a3, .inl (k3, 100, .inl (fun _ => 0)))] H := hP
  have hD : va_D A [(h0, .inr (0, [.ref a0, .ref a1, .ref a2, .ref a3, .long 0, .int 0])), (a0, .inl (k0, 100, .inl (fun _ => 0))), (a1, .inl (k1, 100, .inr (.inl (fun _ => 0)))), (a2, .inl (k2, 100, .inl (fun _ => 0))), (a3, .inl (k3, 100, .inl (fun _ => 0)))] := hD
  refine lv_aload_n hx hb dX_init_41 rfl (lv_at hl 0 rfl) ?_
  refine lv_iconst (v := 0) hx hb dX_init_42 (by decide) ?_
  refine va_put (D := (dC, dI)) (ci := 0) (v := .int 0) (ty := .int) (C := RX) (T := FX) (N := 6) hx hb hT in_X TX tX_ok nX_ hown hK hP hD hS 0 rfl rfl 5 (by decide) (hT _ tt_21) (fun _ h9 => h9) rfl (by decide +kernel) rfl rfl (Nat.le_of_ble_eq_true rfl) dX_init_43 (fun H locs hP hD hS => ?_)
  have hP : va_P (dC, dI) tw_cl [(h0, .inr (0, [.ref a0, .ref a1, .ref a2, .ref a3, .long 0, .int 0])), (a0, .inl (k0, 100, .inl (fun _ => 0))), (a1, .inl (k1, 100, .inr (.inl (fun _ => 0)))), (a2, .inl (k2, 100, .inl (fun _ => 0))), (a3, .inl (k3, 100, .inl (fun _ => 0)))] H := hP
  have hD : va_D A [(h0, .inr (0, [.ref a0, .ref a1, .ref a2, .ref a3, .long 0, .int 0])), (a0, .inl (k0, 100, .inl (fun _ => 0))), (a1, .inl (k1, 100, .inr (.inl (fun _ => 0)))), (a2, .inl (k2, 100, .inl (fun _ => 0))), (a3, .inl (k3, 100, .inl (fun _ => 0)))] := hD
  refine W.widen (k := 4) (n := 400) (Nat.le_of_ble_eq_true rfl) (Nat.le_of_ble_eq_true rfl) ?_
  exact W.vret hx hb hr (fun t ht hW => ⟨⟨(), rfl, trivial, a0, a1, a2, a3, k0, k1, k2, k3, by rw [ht]; exact hP, va_K.moved hW.alike hK, hD⟩, hS.F ht⟩) hS.2.2 dX_init_46
set_option maxHeartbeats 4000000 in
set_option maxRecDepth 100000 in
theorem cM_init (l : Launch) (dC : Nat → ClassId) (dI : Nat → Nat → Nat) (h0 sz : Nat) : Met l yM_init (Cond.code yM_init bM_init 1 (none) :: tw_T) { frames := 1, cells := 4, slots := 400, locals := 12 } (va_Pc [.ref h0] (fun U => U.heap.size = sz ∧ va_P (dC, dI) tw_cl [(h0, .inr (1, [.int 0, .null, .null, .null, .null, .int 0, .long 0]))] U.heap ∧ va_K (dC, dI) tw_cl [] U ∧ va_D (fun _ => True) [(h0, .inr (1, [.int 0, .null, .null, .null, .null, .int 0, .long 0]))])) (va_Qv (S := Unit) (fun _ => True) (fun _ tz => ∃ (a0 a1 a2 a3 : Nat) (k0 k1 k2 k3 : ClassId), va_P (dC, dI) tw_cl (tw_wM h0 a0 a1 a2 a3 k0 k1 k2 k3 0 (fun _ => 0) (fun _ => 0) (fun _ => 0) (fun _ => 0) 0 0) tz.heap ∧ va_K (dC, dI) tw_cl (tw_k k0 k1 k2 k3) tz ∧ va_D (va_A [(h0, .inr (1, [.int 0, .null, .null, .null, .null, .int 0, .long 0]))] sz) (tw_wM h0 a0 a1 a2 a3 k0 k1 k2 k3 0 (fun _ => 0) (fun _ => 0) (fun _ => 0) (fun _ => 0) 0 0)) (va_A [(h0, .inr (1, [.int 0, .null, .null, .null, .null, .int 0, .long 0]))] sz)) 4 400 (va_A [(h0, .inr (1, [.int 0, .null, .null, .null, .null, .int 0, .long 0]))] sz) := by
  refine Met.ofW (cc := bM_init) (maxL := 1) (ret := none) (by decide) rfl ?_
  intro p e s m args below meth c s₁ B hml hv
  obtain ⟨rfl, hsz, hP, hK, hD0⟩ := hv
  have hx := B.exec
  have hb := B.bytes
  have hr := B.returns
  have hT := fun (w : Cond) (h : w ∈ tw_T) => atoms_spec (ws := Cond.code yM_init bM_init 1 (none) :: tw_T) B.pre w (List.mem_cons_of_mem _ h)
  have hown : s.vm.findClass RM = some m.cls := findClass_of_methodNamed B.named
  have hlocks := B.notSynchronized
  have hl := lv_entry ([.ref h0]) (n := 1) (Nat.le_of_ble_eq_true rfl)
  rw [lg_entry_eq]
  generalize (lg_sl ([.ref h0]) ++ List.replicate (1 - (lg_sl ([.ref h0])).length) Slot.unset).toArray = ls at hl ⊢
  have hl : lv_has ls 1 [(0, .ref h0)] := hl
  have hin : meth.name = "<init>" := (name_of_methodNamed B.named B.method).1
  subst hsz
  have hD := hD0.self (sz := s.heap.size)
  generalize hAe : va_A [(h0, .inr (1, [.int 0, .null, .null, .null, .null, .int 0, .long 0]))] s.heap.size = A at hD ⊢
  have hA : ∀ q : Nat, s.heap.size ≤ q → A q := fun q h => by rw [← hAe]; exact Or.inr h
  have hS : va_S A s.heap s.heap [] := va_S.rf
  refine lv_aload_n hx hb dM_init_0 rfl (lv_at hl 0 rfl) ?_
  refine W.objInit hx hb hown (hT _ tt_216) (hT _ tt_14) (hT _ tt_15) rfl (by rw [hml]; exact hl.1) rfl dM_init_1 (Nat.le_of_ble_eq_true rfl) (Nat.le_of_ble_eq_true rfl) ?_
  refine W.eq (g2 := F0 m 4 ls []) rfl ?_
  refine lv_aload_n hx hb dM_init_4 rfl (lv_at hl 0 rfl) ?_
  refine lv_bipush (v := 100) hx hb dM_init_5 (by decide) ?_
  refine va_newa (atype := .boolean) (ty := .boolean) (a0 := (100, .inl (fun _ => 0))) (N' := 100) hx hb (hT _ tt_35) rfl hK hP hD hS hA (fun _ => rfl) (by decide) (by decide) (by decide) (Nat.le_of_ble_eq_true rfl) (Nat.le_of_ble_eq_true rfl) dM_init_7 (fun a0 k0 H hK hP hD hS => ?_)
  have hP : va_P (dC, dI) tw_cl [(h0, .inr (1, [.int 0, .null, .null, .null, .null, .int 0, .long 0])), (a0, .inl (k0, 100, .inl (fun _ => 0)))] H := hP
  have hD : va_D A [(h0, .inr (1, [.int 0, .null, .null, .null, .null, .int 0, .long 0])), (a0, .inl (k0, 100, .inl (fun _ => 0)))] := hD
  have hK : va_K (dC, dI) tw_cl [(k0, .boolean)] s := hK
  refine va_putF (D := (dC, dI)) (ci := 1) (v := .ref a0) (ty := .array .boolean) (C := RM) (T := FM) (N := 7) hx hb hT in_M TM tM_ok nM_ hown hK hP hD hS 0 rfl rfl 1 (by decide) (hT _ tt_218) (fun _ h9 => h9) rfl hin rfl (by decide +kernel) rfl rfl (Nat.le_of_ble_eq_true rfl) dM_init_9 (fun H locs hP hD hS => ?_)
  have hP : va_P (dC, dI) tw_cl [(h0, .inr (1, [.int 0, .ref a0, .null, .null, .null, .int 0, .long 0])), (a0, .inl (k0, 100, .inl (fun _ => 0)))] H := hP
  have hD : va_D A [(h0, .inr (1, [.int 0, .ref a0, .null, .null, .null, .int 0, .long 0])), (a0, .inl (k0, 100, .inl (fun _ => 0)))] := hD
  refine lv_aload_n hx hb dM_init_12 rfl (lv_at hl 0 rfl) ?_
  refine lv_bipush (v := 100) hx hb dM_init_13 (by decide) ?_
  refine va_newa (atype := .long) (ty := .long) (a0 := (100, .inr (.inl (fun _ => 0)))) (N' := 100) hx hb (hT _ tt_36) rfl hK hP hD hS hA (fun _ => rfl) (by decide) (by decide) (by decide) (Nat.le_of_ble_eq_true rfl) (Nat.le_of_ble_eq_true rfl) dM_init_15 (fun a1 k1 H hK hP hD hS => ?_)
  have hP : va_P (dC, dI) tw_cl [(h0, .inr (1, [.int 0, .ref a0, .null, .null, .null, .int 0, .long 0])), (a0, .inl (k0, 100, .inl (fun _ => 0))), (a1, .inl (k1, 100, .inr (.inl (fun _ => 0))))] H := hP
  have hD : va_D A [(h0, .inr (1, [.int 0, .ref a0, .null, .null, .null, .int 0, .long 0])), (a0, .inl (k0, 100, .inl (fun _ => 0))), (a1, .inl (k1, 100, .inr (.inl (fun _ => 0))))] := hD
  have hK : va_K (dC, dI) tw_cl [(k0, .boolean), (k1, .long)] s := hK
  refine va_putF (D := (dC, dI)) (ci := 1) (v := .ref a1) (ty := .array .long) (C := RM) (T := FM) (N := 7) hx hb hT in_M TM tM_ok nM_ hown hK hP hD hS 0 rfl rfl 2 (by decide) (hT _ tt_219) (fun _ h9 => h9) rfl hin rfl (by decide +kernel) rfl rfl (Nat.le_of_ble_eq_true rfl) dM_init_17 (fun H locs hP hD hS => ?_)
  have hP : va_P (dC, dI) tw_cl [(h0, .inr (1, [.int 0, .ref a0, .ref a1, .null, .null, .int 0, .long 0])), (a0, .inl (k0, 100, .inl (fun _ => 0))), (a1, .inl (k1, 100, .inr (.inl (fun _ => 0))))] H := hP
  have hD : va_D A [(h0, .inr (1, [.int 0, .ref a0, .ref a1, .null, .null, .int 0, .long 0])), (a0, .inl (k0, 100, .inl (fun _ => 0))), (a1, .inl (k1, 100, .inr (.inl (fun _ => 0))))] := hD
  refine lv_aload_n hx hb dM_init_20 rfl (lv_at hl 0 rfl) ?_
  refine lv_bipush (v := 100) hx hb dM_init_21 (by decide) ?_
  refine va_newa (atype := .int) (ty := .int) (a0 := (100, .inl (fun _ => 0))) (N' := 100) hx hb (hT _ tt_37) rfl hK hP hD hS hA (fun _ => rfl) (by decide) (by decide) (by decide) (Nat.le_of_ble_eq_true rfl) (Nat.le_of_ble_eq_true rfl) dM_init_23 (fun a2 k2 H hK hP hD hS => ?_)
  have hP : va_P (dC, dI) tw_cl [(h0, .inr (1, [.int 0, .ref a0, .ref a1, .null, .null, .int 0, .long 0])), (a0, .inl (k0, 100, .inl (fun _ => 0))), (a1, .inl (k1, 100, .inr (.inl (fun _ => 0)))), (a2, .inl (k2, 100, .inl (fun _ => 0)))] H := hP
  have hD : va_D A [(h0, .inr (1, [.int 0, .ref a0, .ref a1, .null, .null, .int 0, .long 0])), (a0, .inl (k0, 100, .inl (fun _ => 0))), (a1, .inl (k1, 100, .inr (.inl (fun _ => 0)))), (a2, .inl (k2, 100, .inl (fun _ => 0)))] := hD
  have hK : va_K (dC, dI) tw_cl [(k0, .boolean), (k1, .long), (k2, .int)] s := hK
  refine va_putF (D := (dC, dI)) (ci := 1) (v := .ref a2) (ty := .array .int) (C := RM) (T := FM) (N := 7) hx hb hT in_M TM tM_ok nM_ hown hK hP hD hS 0 rfl rfl 3 (by decide) (hT _ tt_220) (fun _ h9 => h9) rfl hin rfl (by decide +kernel) rfl rfl (Nat.le_of_ble_eq_true rfl) dM_init_25 (fun H locs hP hD hS => ?_)
  have hP : va_P (dC, dI) tw_cl [(h0, .inr (1, [.int 0, .ref a0, .ref a1, .ref a2, .null, .int 0, .long 0])), (a0, .inl (k0, 100, .inl (fun _ => 0))), (a1, .inl (k1, 100, .inr (.inl (fun _ => 0)))), (a2, .inl (k2, 100, .inl (fun _ => 0)))] H := hP
  have hD : va_D A [(h0, .inr (1, [.int 0, .ref a0, .ref a1, .ref a2, .null, .int 0, .long 0])), (a0, .inl (k0, 100, .inl (fun _ => 0))), (a1, .inl (k1, 100, .inr (.inl (fun _ => 0)))), (a2, .inl (k2, 100, .inl (fun _ => 0)))] := hD
  refine lv_aload_n hx hb dM_init_28 rfl (lv_at hl 0 rfl) ?_
  refine lv_bipush (v := 100) hx hb dM_init_29 (by decide) ?_
  refine va_newa (atype := .int) (ty := .int) (a0 := (100, .inl (fun _ => 0))) (N' := 100) hx hb (hT _ tt_37) rfl hK hP hD hS hA (fun _ => rfl) (by decide) (by decide) (by decide) (Nat.le_of_ble_eq_true rfl) (Nat.le_of_ble_eq_true rfl) dM_init_31 (fun a3 k3 H hK hP hD hS => ?_)
  have hP : va_P (dC, dI) tw_cl [(h0, .inr (1, [.int 0, .ref a0, .ref a1, .ref a2, .null, .int 0, .long 0])), (a0, .inl (k0, 100, .inl (fun _ => 0))), (a1, .inl (k1, 100, .inr (.inl (fun _ => 0)))), (a2, .inl (k2, 100, .inl (fun _ => 0))), (a3, .inl (k3, 100, .inl (fun _ => 0)))] H := hP
  have hD : va_D A [(h0, .inr (1, [.int 0, .ref a0, .ref a1, .ref a2, .null, .int 0, .long 0])), (a0, .inl (k0, 100, .inl (fun _ => 0))), (a1, .inl (k1, 100, .inr (.inl (fun _ => 0)))), (a2, .inl (k2, 100, .inl (fun _ => 0))), (a3, .inl (k3, 100, .inl (fun _ => 0)))] := hD
  have hK : va_K (dC, dI) tw_cl [(k0, .boolean), (k1, .long), (k2, .int), (k3, .int)] s := hK
  refine va_putF (D := (dC, dI)) (ci := 1) (v := .ref a3) (ty := .array .int) (C := RM) (T := FM) (N := 7) hx hb hT in_M TM tM_ok nM_ hown hK hP hD hS 0 rfl rfl 4 (by decide) (hT _ tt_221) (fun _ h9 => h9) rfl hin rfl (by decide +kernel) rfl rfl (Nat.le_of_ble_eq_true rfl) dM_init_33 (fun H locs hP hD hS => ?_)
  have hP : va_P (dC, dI) tw_cl [(h0, .inr (1, [.int 0, .ref a0, .ref a1, .ref a2, .ref a3, .int 0, .long 0])), (a0, .inl (k0, 100, .inl (fun _ => 0))), (a1, .inl (k1, 100, .inr (.inl (fun _ => 0)))), (a2, .inl (k2, 100, .inl (fun _ => 0))), (a3, .inl (k3, 100, .inl (fun _ => 0)))] H := hP
  have hD : va_D A [(h0, .inr (1, [.int 0, .ref a0, .ref a1, .ref a2, .ref a3, .int 0, .long 0])), (a0, .inl (k0, 100, .inl (fun _ => 0))), (a1, .inl (k1, 100, .inr (.inl (fun _ => 0)))), (a2, .inl (k2, 100, .inl (fun _ => 0))), (a3, .inl (k3, 100, .inl (fun _ => 0)))] := hD
  refine W.widen (k := 4) (n := 400) (Nat.le_of_ble_eq_true rfl) (Nat.le_of_ble_eq_true rfl) ?_
  exact W.vret hx hb hr (fun t ht hW => ⟨⟨(), rfl, trivial, a0, a1, a2, a3, k0, k1, k2, k3, by rw [ht]; exact hP, va_K.moved hW.alike hK, hD⟩, hS.F ht⟩) hS.2.2 dM_init_36
end
section
/-! The law's helpers: 0 and the answer laid into out[0], or 1 or 2 and nothing changed. Rows laid by our own program (wip/gen/gh.py). -/
abbrev tw_wH (h0 a0 a1 a2 a3 : Nat) (k0 k1 k2 k3 : ClassId) (th : Nat → Int32) (tm : Nat → Int64) (pr ag : Nat → Int32) (ck : Int64) (nx : Int32) (ao : Nat) (k4 : ClassId) (ou : Nat → Int64) : va_W := [(h0, .inr (0, [.ref a0, .ref a1, .ref a2, .ref a3, .long ck, .int nx])), (a0, .inl (k0, 100, .inl th)), (a1, .inl (k1, 100, .inr (.inl tm))), (a2, .inl (k2, 100, .inl pr)), (a3, .inl (k3, 100, .inl ag)), (ao, .inl (k4, 1, .inr (.inl ou)))]
abbrev tw_kH (k0 k1 k2 k3 k4 : ClassId) : List (ClassId × FieldType) := [(k0, .boolean), (k1, .long), (k2, .int), (k3, .int), (k4, .long)]
set_option maxHeartbeats 4000000 in
set_option maxRecDepth 100000 in
theorem cL_set (l : Launch) (dC : Nat → ClassId) (dI : Nat → Nat → Nat) (h0 a0 a1 a2 a3 : Nat) (k0 k1 k2 k3 : ClassId) (th : Nat → Int32) (tm : Nat → Int64) (pr ag : Nat → Int32) (ck : Int64) (nx : Int32) (ao : Nat) (k4 : ClassId) (ou : Nat → Int64) (sz : Nat) (j : Int32) (hj : vp_in j 100) (t : Int64) (ht0 : 0 ≤ t) (ht1 : t ≤ 70368744177664) (q : Int32) : Met l yL_set (Cond.codeWith yL_set bL_set 7 (some .int) [(0, 13, 16, 13)] :: tw_T) { frames := 3, cells := 0, slots := 0, locals := 120 } (va_Pc [.ref h0, .int j, .long t, .int q, .ref ao] (fun U => U.heap.size = sz ∧ va_P (dC, dI) tw_cl (tw_wH h0 a0 a1 a2 a3 k0 k1 k2 k3 th tm pr ag ck nx ao k4 ou) U.heap ∧ va_K (dC, dI) tw_cl (tw_kH k0 k1 k2 k3 k4) U ∧ va_D (fun _ => True) (tw_wH h0 a0 a1 a2 a3 k0 k1 k2 k3 th tm pr ag ck nx ao k4 ou))) (va_Qi (S := Unit) (fun r _ => r = 0) (fun _ tz => va_P (dC, dI) tw_cl (tw_wH h0 a0 a1 a2 a3 k0 k1 k2 k3 (upd th j.toNatClampNeg (vp_nar .boolean 1)) (vp_updL tm j.toNatClampNeg t) (upd pr j.toNatClampNeg q) (upd ag j.toNatClampNeg nx) ck (nx + 1) ao k4 (vp_updL ou (0 : Int32).toNatClampNeg ((upd ag j.toNatClampNeg nx j.toNatClampNeg).toInt64))) tz.heap ∧ va_D (va_A (tw_wH h0 a0 a1 a2 a3 k0 k1 k2 k3 th tm pr ag ck nx ao k4 ou) sz) (tw_wH h0 a0 a1 a2 a3 k0 k1 k2 k3 (upd th j.toNatClampNeg (vp_nar .boolean 1)) (vp_updL tm j.toNatClampNeg t) (upd pr j.toNatClampNeg q) (upd ag j.toNatClampNeg nx) ck (nx + 1) ao k4 (vp_updL ou (0 : Int32).toNatClampNeg ((upd ag j.toNatClampNeg nx j.toNatClampNeg).toInt64)))) (va_A (tw_wH h0 a0 a1 a2 a3 k0 k1 k2 k3 th tm pr ag ck nx ao k4 ou) sz)) 0 0 (va_A (tw_wH h0 a0 a1 a2 a3 k0 k1 k2 k3 th tm pr ag ck nx ao k4 ou) sz) := by
  refine va_MetW (hh := [(0, 13, 16, 13)]) (cc := bL_set) (maxL := 7) (ret := some .int) (by decide) rfl ?_
  intro p e s m args below meth c s₁ B hml hv
  obtain ⟨rfl, hsz, hP, hK, hD0⟩ := hv
  have hx := B.exec
  have hb := B.bytes
  have hr := B.returns
  have hts := atoms_spec (ws := Cond.codeWith yL_set bL_set 7 (some .int) [(0, 13, 16, 13)] :: tw_T) B.pre
  have hT := fun (w : Cond) (h : w ∈ tw_T) => hts w (List.mem_cons_of_mem _ h)
  have hown : s.vm.findClass RL = some m.cls := findClass_of_methodNamed B.named
  have hlocks := B.notSynchronized
  have hl := lv_entry ([.ref h0, .int j, .long t, .int q, .ref ao]) (n := 7) (Nat.le_of_ble_eq_true rfl)
  rw [lg_entry_eq]
  generalize (lg_sl ([.ref h0, .int j, .long t, .int q, .ref ao]) ++ List.replicate (7 - (lg_sl ([.ref h0, .int j, .long t, .int q, .ref ao])).length) Slot.unset).toArray = ls at hl ⊢
  have hl : lv_has ls 7 [(0, .ref h0), (1, .int j), (2, .long t), (4, .int q), (5, .ref ao)] := hl
  subst hsz
  have hD := hD0.self (sz := s.heap.size)
  generalize hAe : va_A (tw_wH h0 a0 a1 a2 a3 k0 k1 k2 k3 th tm pr ag ck nx ao k4 ou) s.heap.size = A at hD ⊢
  have hA : ∀ q : Nat, s.heap.size ≤ q → A q := fun q h => by rw [← hAe]; exact Or.inr h
  have hS : va_S A s.heap s.heap [] := va_S.rf
  have hPc := hP.sub (ws' := tw_wX h0 a0 a1 a2 a3 k0 k1 k2 k3 th tm pr ag ck nx) [0, 1, 2, 3, 4] rfl
  have hDc := hD.sub (ws' := tw_wX h0 a0 a1 a2 a3 k0 k1 k2 k3 th tm pr ag ck nx) [0, 1, 2, 3, 4] (by decide) rfl
  have hKc := hK.sub (tys' := tw_k k0 k1 k2 k3) [0, 1, 2, 3] rfl
  have hFc := va_free (wc := tw_wX h0 a0 a1 a2 a3 k0 k1 k2 k3 th tm pr ag ck nx) hD hS hA [0, 1, 2, 3, 4] rfl
  refine lv_aload hx hb dL_set_0 (lv_at hl 4 rfl) ?_
  refine lv_iconst (v := 0) hx hb dL_set_2 (by decide) ?_
  refine lv_aload_n hx hb dL_set_3 rfl (lv_at hl 0 rfl) ?_
  refine lv_iload_n hx hb dL_set_4 rfl (lv_at hl 1 rfl) ?_
  refine lv_lload_n hx hb dL_set_5 rfl (lv_at hl 2 rfl) ?_
  refine lv_iload hx hb dL_set_6 (lv_at hl 3 rfl) ?_
  refine va_calli (va_runV (C := RX) (b := h0) (As := [.int j, .long t, .int q]) (rest := [.int 0, .ref ao]) ⟨hx, hb, hml, hown, hT⟩ (cX_set l dC dI h0 a0 a1 a2 a3 k0 k1 k2 k3 th tm pr ag ck nx s.heap.size j hj t ht0 ht1 q) (cwV 3 hT (tw_gV tt_51 tt_52 tt_53 tt_1 tt_54) rfl rfl rfl ⟨rfl, by decide +kernel⟩ ⟨Nat.le_of_ble_eq_true rfl, Nat.le_of_ble_eq_true rfl⟩) ⟨fun a U g mk q => by obtain ⟨q0, q1, qP, qK, qD⟩ := q; exact ⟨q0, q1, qP, va_K.moved (u := U) (U := U.calling g mk a) (Vm.Alike.refl U.vm) qK, qD⟩, va_recv (q0 := 0) (ci := 0) hKc hPc rfl rfl, fun U hU hW => ⟨rfl, by rw [hU], by rw [hU]; exact hPc, va_K.moved hW.alike hKc, hDc.weaken (fun _ _ _ _ => trivial)⟩⟩ rfl rfl hl.1 rfl (lv_room (Nat.le_of_ble_eq_true rfl)) dL_set_8 ⟨Nat.le_of_ble_eq_true rfl, Nat.le_of_ble_eq_true rfl⟩) hS (fun q _ h => hFc q h) hFc (fun r9 u9 t9 H1 locs ht9 hvm9 hw9 hB9 hz9 hk9 hS => ?_)
  obtain ⟨hP1, hD1⟩ := hB9
  rw [ht9] at hP1
  have hw9 : r9 = upd ag j.toNatClampNeg nx j.toNatClampNeg := hw9
  subst r9
  obtain ⟨hP, hD⟩ := va_join (wr := [(ao, .inl (k4, 1, .inr (.inl ou)))]) (w1 := (tw_wX h0 a0 a1 a2 a3 k0 k1 k2 k3 (upd th j.toNatClampNeg (vp_nar .boolean 1)) (vp_updL tm j.toNatClampNeg t) (upd pr j.toNatClampNeg q) (upd ag j.toNatClampNeg nx) ck (nx + 1))) hP hD [0, 1, 2, 3, 4] [5] rfl rfl (by decide) (by decide) hk9 hFc hP1 hD1
  generalize H1 = H at hP hS ⊢
  have hP := hP.sub (ws' := (tw_wH h0 a0 a1 a2 a3 k0 k1 k2 k3 (upd th j.toNatClampNeg (vp_nar .boolean 1)) (vp_updL tm j.toNatClampNeg t) (upd pr j.toNatClampNeg q) (upd ag j.toNatClampNeg nx) ck (nx + 1) ao k4 ou)) [1, 2, 3, 4, 5, 0] rfl
  have hD := hD.sub (ws' := (tw_wH h0 a0 a1 a2 a3 k0 k1 k2 k3 (upd th j.toNatClampNeg (vp_nar .boolean 1)) (vp_updL tm j.toNatClampNeg t) (upd pr j.toNatClampNeg q) (upd ag j.toNatClampNeg nx) ck (nx + 1) ao k4 ou)) [1, 2, 3, 4, 5, 0] (by decide) rfl
  refine lv_i2l hx hb dL_set_11 rfl ?_
  refine va_last hx hb hK hP hD hS 5 4 rfl rfl (by unfold vp_in; decide) dL_set_12 (fun H locs hP hD hS => ?_)
  have hP : va_P (dC, dI) tw_cl [(h0, .inr (0, [.ref a0, .ref a1, .ref a2, .ref a3, .long ck, .int (nx + 1)])), (a0, .inl (k0, 100, .inl (upd th j.toNatClampNeg (vp_nar .boolean 1)))), (a1, .inl (k1, 100, .inr (.inl (vp_updL tm j.toNatClampNeg t)))), (a2, .inl (k2, 100, .inl (upd pr j.toNatClampNeg q))), (a3, .inl (k3, 100, .inl (upd ag j.toNatClampNeg nx))), (ao, .inl (k4, 1, .inr (.inl (vp_updL ou (0 : Int32).toNatClampNeg ((upd ag j.toNatClampNeg nx j.toNatClampNeg).toInt64)))))] H := hP
  have hD : va_D A [(h0, .inr (0, [.ref a0, .ref a1, .ref a2, .ref a3, .long ck, .int (nx + 1)])), (a0, .inl (k0, 100, .inl (upd th j.toNatClampNeg (vp_nar .boolean 1)))), (a1, .inl (k1, 100, .inr (.inl (vp_updL tm j.toNatClampNeg t)))), (a2, .inl (k2, 100, .inl (upd pr j.toNatClampNeg q))), (a3, .inl (k3, 100, .inl (upd ag j.toNatClampNeg nx))), (ao, .inl (k4, 1, .inr (.inl (vp_updL ou (0 : Int32).toNatClampNeg ((upd ag j.toNatClampNeg nx j.toNatClampNeg).toInt64)))))] := hD
  refine lv_goto (tgt := 20) hx hb dL_set_13 (by decide) ?_
  refine lv_iconst (v := 0) hx hb dL_set_20 (by decide) ?_
  exact W.iret hx hb hr (fun t ht hW => ⟨⟨_, (), rfl, rfl, by rw [ht]; exact hP, hD⟩, hS.F ht⟩) hS.2.2 dL_set_21
set_option maxHeartbeats 4000000 in
set_option maxRecDepth 100000 in
theorem cL_setB (l : Launch) (hfl : l.flags = pinnedFlags ++ [noTraceFlag]) (dC : Nat → ClassId) (dI : Nat → Nat → Nat) (h0 a0 a1 a2 a3 : Nat) (k0 k1 k2 k3 : ClassId) (th : Nat → Int32) (tm : Nat → Int64) (pr ag : Nat → Int32) (ck : Int64) (nx : Int32) (ao : Nat) (k4 : ClassId) (ou : Nat → Int64) (sz : Nat) (j : Int32) (t : Int64) (q : Int32) (hbad : ¬ (vp_in j 100 ∧ 0 ≤ t ∧ t ≤ 70368744177664)) : Met l yL_set (Cond.codeWith yL_set bL_set 7 (some .int) [(0, 13, 16, 13)] :: tw_T) { frames := 8, cells := 1, slots := 6, locals := 160 } (va_Pc [.ref h0, .int j, .long t, .int q, .ref ao] (fun U => U.heap.size = sz ∧ va_P (dC, dI) tw_cl (tw_wH h0 a0 a1 a2 a3 k0 k1 k2 k3 th tm pr ag ck nx ao k4 ou) U.heap ∧ va_K (dC, dI) tw_cl (tw_kH k0 k1 k2 k3 k4) U ∧ va_D (fun _ => True) (tw_wH h0 a0 a1 a2 a3 k0 k1 k2 k3 th tm pr ag ck nx ao k4 ou) ∧ tw_Z U U.heap)) (va_Qi (S := Unit) (fun r _ => r = 1) (fun _ tz => va_P (dC, dI) tw_cl (tw_wH h0 a0 a1 a2 a3 k0 k1 k2 k3 th tm pr ag ck nx ao k4 ou) tz.heap ∧ va_D (va_A (tw_wH h0 a0 a1 a2 a3 k0 k1 k2 k3 th tm pr ag ck nx ao k4 ou) sz) (tw_wH h0 a0 a1 a2 a3 k0 k1 k2 k3 th tm pr ag ck nx ao k4 ou)) (va_A (tw_wH h0 a0 a1 a2 a3 k0 k1 k2 k3 th tm pr ag ck nx ao k4 ou) sz)) 1 6 (va_A (tw_wH h0 a0 a1 a2 a3 k0 k1 k2 k3 th tm pr ag ck nx ao k4 ou) sz) := by
  refine va_MetW (hh := [(0, 13, 16, 13)]) (cc := bL_set) (maxL := 7) (ret := some .int) (by decide) rfl ?_
  intro p e s m args below meth c s₁ B hml hv
  obtain ⟨rfl, hsz, hP, hK, hD0, hZ⟩ := hv
  have hx := B.exec
  have hb := B.bytes
  have hr := B.returns
  have hts := atoms_spec (ws := Cond.codeWith yL_set bL_set 7 (some .int) [(0, 13, 16, 13)] :: tw_T) B.pre
  have hT := fun (w : Cond) (h : w ∈ tw_T) => hts w (List.mem_cons_of_mem _ h)
  have hown : s.vm.findClass RL = some m.cls := findClass_of_methodNamed B.named
  have hlocks := B.notSynchronized
  have hl := lv_entry ([.ref h0, .int j, .long t, .int q, .ref ao]) (n := 7) (Nat.le_of_ble_eq_true rfl)
  rw [lg_entry_eq]
  generalize (lg_sl ([.ref h0, .int j, .long t, .int q, .ref ao]) ++ List.replicate (7 - (lg_sl ([.ref h0, .int j, .long t, .int q, .ref ao])).length) Slot.unset).toArray = ls at hl ⊢
  have hl : lv_has ls 7 [(0, .ref h0), (1, .int j), (2, .long t), (4, .int q), (5, .ref ao)] := hl
  subst hsz
  have hD := hD0.self (sz := s.heap.size)
  generalize hAe : va_A (tw_wH h0 a0 a1 a2 a3 k0 k1 k2 k3 th tm pr ag ck nx ao k4 ou) s.heap.size = A at hD ⊢
  have hA : ∀ q : Nat, s.heap.size ≤ q → A q := fun q h => by rw [← hAe]; exact Or.inr h
  have hS : va_S A s.heap s.heap [] := va_S.rf
  have hPc := hP.sub (ws' := tw_wX h0 a0 a1 a2 a3 k0 k1 k2 k3 th tm pr ag ck nx) [0, 1, 2, 3, 4] rfl
  have hDc := hD.sub (ws' := tw_wX h0 a0 a1 a2 a3 k0 k1 k2 k3 th tm pr ag ck nx) [0, 1, 2, 3, 4] (by decide) rfl
  have hKc := hK.sub (tys' := tw_k k0 k1 k2 k3) [0, 1, 2, 3] rfl
  have hFc := va_free (wc := tw_wX h0 a0 a1 a2 a3 k0 k1 k2 k3 th tm pr ag ck nx) hD hS hA [0, 1, 2, 3, 4] rfl
  have hTab := xt_tableOf (xt_table B (hts _ List.mem_cons_self))
  refine lv_aload hx hb dL_set_0 (lv_at hl 4 rfl) ?_
  refine lv_iconst (v := 0) hx hb dL_set_2 (by decide) ?_
  refine lv_aload_n hx hb dL_set_3 rfl (lv_at hl 0 rfl) ?_
  refine lv_iload_n hx hb dL_set_4 rfl (lv_at hl 1 rfl) ?_
  refine lv_lload_n hx hb dL_set_5 rfl (lv_at hl 2 rfl) ?_
  refine lv_iload hx hb dL_set_6 (lv_at hl 3 rfl) ?_
  refine xt_call (xt_runV (C := RX) (b := h0) (As := [.int j, .long t, .int q]) (rest := [.int 0, .ref ao]) ⟨hx, hb, hml, hown, hT⟩ (eX_set l hfl dC dI h0 a0 a1 a2 a3 k0 k1 k2 k3 th tm pr ag ck nx j t q hbad) (cwV 3 hT (tw_gV tt_51 tt_52 tt_53 tt_1 tt_54) rfl rfl rfl ⟨rfl, by decide +kernel⟩ ⟨Nat.le_of_ble_eq_true rfl, Nat.le_of_ble_eq_true rfl⟩) ⟨fun a U g mk q => ⟨q.1, ⟨q.2.1.1, va_K.moved (u := U) (U := U.calling g mk a) (Vm.Alike.refl U.vm) q.2.1.2⟩, q.2.2.call⟩, va_recv (q0 := 0) (ci := 0) hKc hPc rfl rfl, fun U hU hW => ⟨rfl, ⟨by rw [hU]; exact hPc, va_K.moved hW.alike hKc⟩, hZ.at hU hW⟩⟩ rfl rfl hl.1 rfl (lv_room (Nat.le_of_ble_eq_true rfl)) dL_set_8 ⟨Nat.le_of_ble_eq_true rfl, Nat.le_of_ble_eq_true rfl⟩) (fun v st₀ t H1 L _ _ _ _ _ hq => ?_) (fun q9 st₀ t8 H1 L e1 e2 e3 e4 hL hq => ?_)
  · obtain ⟨q2, hq1, -⟩ := hq
    cases hq1
  · obtain ⟨q2, hq1, ⟨ce, hce, hcv, hcc⟩, hz, hk⟩ := hq
    cases hq1
    rw [e1] at hz hk
    rw [e3] at hz hk hce
    rw [e2.findClass] at hcc
    have hP : va_P (dC, dI) tw_cl (tw_wH h0 a0 a1 a2 a3 k0 k1 k2 k3 th tm pr ag ck nx ao k4 ou) H1 := hP.kept (fun k x hx9 => hk x.1 ((hP k x hx9).lt))
    have hS : va_S A s.heap H1 ([] ++ L) := ⟨hz, fun q h1 _ => hk q h1, fun z hz9 => (hL z (by simpa using hz9)).elim⟩
    refine xt_catch1 hown ⟨0, 13, 16, 13⟩ [] (hTab.trans rfl) (by decide) (by decide) (hT _ tt_50) (va_Nw.use rfl hZ.2.2.1) hce hcv hcc ?_
    refine W.eq (g2 := F0 m 16 ls [.ref q9]) rfl ?_
    refine lv_astore hx hb dL_set_16 hl (by decide) rfl (fun ls hl => ?_)
    have hl : lv_has ls 7 [(6, .ref q9), (0, .ref h0), (1, .int j), (2, .long t), (4, .int q), (5, .ref ao)] := hl
    refine lv_iconst (v := 1) hx hb dL_set_18 (by decide) ?_
    exact W.iret hx hb hr (fun t ht hW => ⟨⟨_, (), rfl, rfl, by rw [ht]; exact hP, hD⟩, hS.F ht⟩) hS.2.2 dL_set_19
set_option maxHeartbeats 4000000 in
set_option maxRecDepth 100000 in
theorem cL_drop (l : Launch) (dC : Nat → ClassId) (dI : Nat → Nat → Nat) (h0 a0 a1 a2 a3 : Nat) (k0 k1 k2 k3 : ClassId) (th : Nat → Int32) (tm : Nat → Int64) (pr ag : Nat → Int32) (ck : Int64) (nx : Int32) (ao : Nat) (k4 : ClassId) (ou : Nat → Int64) (sz : Nat) (j : Int32) (hj : vp_in j 100) (ht : ¬ th j.toNatClampNeg = 0) : Met l yL_drop (Cond.codeWith yL_drop bL_drop 4 (some .int) [(0, 8, 11, 13), (0, 8, 14, 19)] :: tw_T) { frames := 3, cells := 0, slots := 0, locals := 120 } (va_Pc [.ref h0, .int j, .ref ao] (fun U => U.heap.size = sz ∧ va_P (dC, dI) tw_cl (tw_wH h0 a0 a1 a2 a3 k0 k1 k2 k3 th tm pr ag ck nx ao k4 ou) U.heap ∧ va_K (dC, dI) tw_cl (tw_kH k0 k1 k2 k3 k4) U ∧ va_D (fun _ => True) (tw_wH h0 a0 a1 a2 a3 k0 k1 k2 k3 th tm pr ag ck nx ao k4 ou))) (va_Qi (S := Unit) (fun r _ => r = 0) (fun _ tz => va_P (dC, dI) tw_cl (tw_wH h0 a0 a1 a2 a3 k0 k1 k2 k3 (upd th j.toNatClampNeg (vp_nar .boolean 0)) tm pr ag ck nx ao k4 (vp_updL ou (0 : Int32).toNatClampNeg (tm j.toNatClampNeg))) tz.heap ∧ va_D (va_A (tw_wH h0 a0 a1 a2 a3 k0 k1 k2 k3 th tm pr ag ck nx ao k4 ou) sz) (tw_wH h0 a0 a1 a2 a3 k0 k1 k2 k3 (upd th j.toNatClampNeg (vp_nar .boolean 0)) tm pr ag ck nx ao k4 (vp_updL ou (0 : Int32).toNatClampNeg (tm j.toNatClampNeg)))) (va_A (tw_wH h0 a0 a1 a2 a3 k0 k1 k2 k3 th tm pr ag ck nx ao k4 ou) sz)) 0 0 (va_A (tw_wH h0 a0 a1 a2 a3 k0 k1 k2 k3 th tm pr ag ck nx ao k4 ou) sz) := by
  refine va_MetW (hh := [(0, 8, 11, 13), (0, 8, 14, 19)]) (cc := bL_drop) (maxL := 4) (ret := some .int) (by decide) rfl ?_
  intro p e s m args below meth c s₁ B hml hv
  obtain ⟨rfl, hsz, hP, hK, hD0⟩ := hv
  have hx := B.exec
  have hb := B.bytes
  have hr := B.returns
  have hts := atoms_spec (ws := Cond.codeWith yL_drop bL_drop 4 (some .int) [(0, 8, 11, 13), (0, 8, 14, 19)] :: tw_T) B.pre
  have hT := fun (w : Cond) (h : w ∈ tw_T) => hts w (List.mem_cons_of_mem _ h)
  have hown : s.vm.findClass RL = some m.cls := findClass_of_methodNamed B.named
  have hlocks := B.notSynchronized
  have hl := lv_entry ([.ref h0, .int j, .ref ao]) (n := 4) (Nat.le_of_ble_eq_true rfl)
  rw [lg_entry_eq]
  generalize (lg_sl ([.ref h0, .int j, .ref ao]) ++ List.replicate (4 - (lg_sl ([.ref h0, .int j, .ref ao])).length) Slot.unset).toArray = ls at hl ⊢
  have hl : lv_has ls 4 [(0, .ref h0), (1, .int j), (2, .ref ao)] := hl
  subst hsz
  have hD := hD0.self (sz := s.heap.size)
  generalize hAe : va_A (tw_wH h0 a0 a1 a2 a3 k0 k1 k2 k3 th tm pr ag ck nx ao k4 ou) s.heap.size = A at hD ⊢
  have hA : ∀ q : Nat, s.heap.size ≤ q → A q := fun q h => by rw [← hAe]; exact Or.inr h
  have hS : va_S A s.heap s.heap [] := va_S.rf
  have hPc := hP.sub (ws' := tw_wX h0 a0 a1 a2 a3 k0 k1 k2 k3 th tm pr ag ck nx) [0, 1, 2, 3, 4] rfl
  have hDc := hD.sub (ws' := tw_wX h0 a0 a1 a2 a3 k0 k1 k2 k3 th tm pr ag ck nx) [0, 1, 2, 3, 4] (by decide) rfl
  have hKc := hK.sub (tys' := tw_k k0 k1 k2 k3) [0, 1, 2, 3] rfl
  have hFc := va_free (wc := tw_wX h0 a0 a1 a2 a3 k0 k1 k2 k3 th tm pr ag ck nx) hD hS hA [0, 1, 2, 3, 4] rfl
  refine lv_aload_n hx hb dL_drop_0 rfl (lv_at hl 2 rfl) ?_
  refine lv_iconst (v := 0) hx hb dL_drop_1 (by decide) ?_
  refine lv_aload_n hx hb dL_drop_2 rfl (lv_at hl 0 rfl) ?_
  refine lv_iload_n hx hb dL_drop_3 rfl (lv_at hl 1 rfl) ?_
  refine va_calll (va_runV (C := RX) (b := h0) (As := [.int j]) (rest := [.int 0, .ref ao]) ⟨hx, hb, hml, hown, hT⟩ (cX_drop l dC dI h0 a0 a1 a2 a3 k0 k1 k2 k3 th tm pr ag ck nx s.heap.size j hj ht) (cwV 1 hT (tw_gV tt_131 tt_132 tt_133 tt_1 tt_134) rfl rfl rfl ⟨rfl, by decide +kernel⟩ ⟨Nat.le_of_ble_eq_true rfl, Nat.le_of_ble_eq_true rfl⟩) ⟨fun a U g mk q => by obtain ⟨q0, q1, qP, qK, qD⟩ := q; exact ⟨q0, q1, qP, va_K.moved (u := U) (U := U.calling g mk a) (Vm.Alike.refl U.vm) qK, qD⟩, va_recv (q0 := 0) (ci := 0) hKc hPc rfl rfl, fun U hU hW => ⟨rfl, by rw [hU], by rw [hU]; exact hPc, va_K.moved hW.alike hKc, hDc.weaken (fun _ _ _ _ => trivial)⟩⟩ rfl rfl hl.1 rfl (lv_room (Nat.le_of_ble_eq_true rfl)) dL_drop_4 ⟨Nat.le_of_ble_eq_true rfl, Nat.le_of_ble_eq_true rfl⟩) hS (fun q _ h => hFc q h) hFc (fun r9 u9 t9 H1 locs ht9 hvm9 hw9 hB9 hz9 hk9 hS => ?_)
  obtain ⟨hP1, hD1⟩ := hB9
  rw [ht9] at hP1
  have hw9 : r9 = tm j.toNatClampNeg := hw9
  subst r9
  obtain ⟨hP, hD⟩ := va_join (wr := [(ao, .inl (k4, 1, .inr (.inl ou)))]) (w1 := (tw_wX h0 a0 a1 a2 a3 k0 k1 k2 k3 (upd th j.toNatClampNeg (vp_nar .boolean 0)) tm pr ag ck nx)) hP hD [0, 1, 2, 3, 4] [5] rfl rfl (by decide) (by decide) hk9 hFc hP1 hD1
  generalize H1 = H at hP hS ⊢
  have hP := hP.sub (ws' := (tw_wH h0 a0 a1 a2 a3 k0 k1 k2 k3 (upd th j.toNatClampNeg (vp_nar .boolean 0)) tm pr ag ck nx ao k4 ou)) [1, 2, 3, 4, 5, 0] rfl
  have hD := hD.sub (ws' := (tw_wH h0 a0 a1 a2 a3 k0 k1 k2 k3 (upd th j.toNatClampNeg (vp_nar .boolean 0)) tm pr ag ck nx ao k4 ou)) [1, 2, 3, 4, 5, 0] (by decide) rfl
  refine va_last hx hb hK hP hD hS 5 4 rfl rfl (by unfold vp_in; decide) dL_drop_7 (fun H locs hP hD hS => ?_)
  have hP : va_P (dC, dI) tw_cl [(h0, .inr (0, [.ref a0, .ref a1, .ref a2, .ref a3, .long ck, .int nx])), (a0, .inl (k0, 100, .inl (upd th j.toNatClampNeg (vp_nar .boolean 0)))), (a1, .inl (k1, 100, .inr (.inl tm))), (a2, .inl (k2, 100, .inl pr)), (a3, .inl (k3, 100, .inl ag)), (ao, .inl (k4, 1, .inr (.inl (vp_updL ou (0 : Int32).toNatClampNeg (tm j.toNatClampNeg)))))] H := hP
  have hD : va_D A [(h0, .inr (0, [.ref a0, .ref a1, .ref a2, .ref a3, .long ck, .int nx])), (a0, .inl (k0, 100, .inl (upd th j.toNatClampNeg (vp_nar .boolean 0)))), (a1, .inl (k1, 100, .inr (.inl tm))), (a2, .inl (k2, 100, .inl pr)), (a3, .inl (k3, 100, .inl ag)), (ao, .inl (k4, 1, .inr (.inl (vp_updL ou (0 : Int32).toNatClampNeg (tm j.toNatClampNeg)))))] := hD
  refine lv_goto (tgt := 17) hx hb dL_drop_8 (by decide) ?_
  refine lv_iconst (v := 0) hx hb dL_drop_17 (by decide) ?_
  exact W.iret hx hb hr (fun t ht hW => ⟨⟨_, (), rfl, rfl, by rw [ht]; exact hP, hD⟩, hS.F ht⟩) hS.2.2 dL_drop_18
set_option maxHeartbeats 4000000 in
set_option maxRecDepth 100000 in
theorem cL_dropA (l : Launch) (hfl : l.flags = pinnedFlags ++ [noTraceFlag]) (dC : Nat → ClassId) (dI : Nat → Nat → Nat) (h0 a0 a1 a2 a3 : Nat) (k0 k1 k2 k3 : ClassId) (th : Nat → Int32) (tm : Nat → Int64) (pr ag : Nat → Int32) (ck : Int64) (nx : Int32) (ao : Nat) (k4 : ClassId) (ou : Nat → Int64) (sz : Nat) (j : Int32) (hj : ¬ vp_in j 100) : Met l yL_drop (Cond.codeWith yL_drop bL_drop 4 (some .int) [(0, 8, 11, 13), (0, 8, 14, 19)] :: tw_T) { frames := 8, cells := 1, slots := 6, locals := 160 } (va_Pc [.ref h0, .int j, .ref ao] (fun U => U.heap.size = sz ∧ va_P (dC, dI) tw_cl (tw_wH h0 a0 a1 a2 a3 k0 k1 k2 k3 th tm pr ag ck nx ao k4 ou) U.heap ∧ va_K (dC, dI) tw_cl (tw_kH k0 k1 k2 k3 k4) U ∧ va_D (fun _ => True) (tw_wH h0 a0 a1 a2 a3 k0 k1 k2 k3 th tm pr ag ck nx ao k4 ou) ∧ tw_Z U U.heap)) (va_Qi (S := Unit) (fun r _ => r = 1) (fun _ tz => va_P (dC, dI) tw_cl (tw_wH h0 a0 a1 a2 a3 k0 k1 k2 k3 th tm pr ag ck nx ao k4 ou) tz.heap ∧ va_D (va_A (tw_wH h0 a0 a1 a2 a3 k0 k1 k2 k3 th tm pr ag ck nx ao k4 ou) sz) (tw_wH h0 a0 a1 a2 a3 k0 k1 k2 k3 th tm pr ag ck nx ao k4 ou)) (va_A (tw_wH h0 a0 a1 a2 a3 k0 k1 k2 k3 th tm pr ag ck nx ao k4 ou) sz)) 1 6 (va_A (tw_wH h0 a0 a1 a2 a3 k0 k1 k2 k3 th tm pr ag ck nx ao k4 ou) sz) := by
  refine va_MetW (hh := [(0, 8, 11, 13), (0, 8, 14, 19)]) (cc := bL_drop) (maxL := 4) (ret := some .int) (by decide) rfl ?_
  intro p e s m args below meth c s₁ B hml hv
  obtain ⟨rfl, hsz, hP, hK, hD0, hZ⟩ := hv
  have hx := B.exec
  have hb := B.bytes
  have hr := B.returns
  have hts := atoms_spec (ws := Cond.codeWith yL_drop bL_drop 4 (some .int) [(0, 8, 11, 13), (0, 8, 14, 19)] :: tw_T) B.pre
  have hT := fun (w : Cond) (h : w ∈ tw_T) => hts w (List.mem_cons_of_mem _ h)
  have hown : s.vm.findClass RL = some m.cls := findClass_of_methodNamed B.named
  have hlocks := B.notSynchronized
  have hl := lv_entry ([.ref h0, .int j, .ref ao]) (n := 4) (Nat.le_of_ble_eq_true rfl)
  rw [lg_entry_eq]
  generalize (lg_sl ([.ref h0, .int j, .ref ao]) ++ List.replicate (4 - (lg_sl ([.ref h0, .int j, .ref ao])).length) Slot.unset).toArray = ls at hl ⊢
  have hl : lv_has ls 4 [(0, .ref h0), (1, .int j), (2, .ref ao)] := hl
  subst hsz
  have hD := hD0.self (sz := s.heap.size)
  generalize hAe : va_A (tw_wH h0 a0 a1 a2 a3 k0 k1 k2 k3 th tm pr ag ck nx ao k4 ou) s.heap.size = A at hD ⊢
  have hA : ∀ q : Nat, s.heap.size ≤ q → A q := fun q h => by rw [← hAe]; exact Or.inr h
  have hS : va_S A s.heap s.heap [] := va_S.rf
  have hPc := hP.sub (ws' := tw_wX h0 a0 a1 a2 a3 k0 k1 k2 k3 th tm pr ag ck nx) [0, 1, 2, 3, 4] rfl
  have hDc := hD.sub (ws' := tw_wX h0 a0 a1 a2 a3 k0 k1 k2 k3 th tm pr ag ck nx) [0, 1, 2, 3, 4] (by decide) rfl
  have hKc := hK.sub (tys' := tw_k k0 k1 k2 k3) [0, 1, 2, 3] rfl
  have hFc := va_free (wc := tw_wX h0 a0 a1 a2 a3 k0 k1 k2 k3 th tm pr ag ck nx) hD hS hA [0, 1, 2, 3, 4] rfl
  have hTab := xt_tableOf (xt_table B (hts _ List.mem_cons_self))
  refine lv_aload_n hx hb dL_drop_0 rfl (lv_at hl 2 rfl) ?_
  refine lv_iconst (v := 0) hx hb dL_drop_1 (by decide) ?_
  refine lv_aload_n hx hb dL_drop_2 rfl (lv_at hl 0 rfl) ?_
  refine lv_iload_n hx hb dL_drop_3 rfl (lv_at hl 1 rfl) ?_
  refine xt_call (xt_runV (C := RX) (b := h0) (As := [.int j]) (rest := [.int 0, .ref ao]) ⟨hx, hb, hml, hown, hT⟩ (eX_dropA l hfl dC dI h0 a0 a1 a2 a3 k0 k1 k2 k3 th tm pr ag ck nx j hj) (cwV 1 hT (tw_gV tt_131 tt_132 tt_133 tt_1 tt_134) rfl rfl rfl ⟨rfl, by decide +kernel⟩ ⟨Nat.le_of_ble_eq_true rfl, Nat.le_of_ble_eq_true rfl⟩) ⟨fun a U g mk q => ⟨q.1, ⟨q.2.1.1, va_K.moved (u := U) (U := U.calling g mk a) (Vm.Alike.refl U.vm) q.2.1.2⟩, q.2.2.call⟩, va_recv (q0 := 0) (ci := 0) hKc hPc rfl rfl, fun U hU hW => ⟨rfl, ⟨by rw [hU]; exact hPc, va_K.moved hW.alike hKc⟩, hZ.at hU hW⟩⟩ rfl rfl hl.1 rfl (lv_room (Nat.le_of_ble_eq_true rfl)) dL_drop_4 ⟨Nat.le_of_ble_eq_true rfl, Nat.le_of_ble_eq_true rfl⟩) (fun v st₀ t H1 L _ _ _ _ _ hq => ?_) (fun q9 st₀ t8 H1 L e1 e2 e3 e4 hL hq => ?_)
  · obtain ⟨q2, hq1, -⟩ := hq
    cases hq1
  · obtain ⟨q2, hq1, ⟨ce, hce, hcv, hcc⟩, hz, hk⟩ := hq
    cases hq1
    rw [e1] at hz hk
    rw [e3] at hz hk hce
    rw [e2.findClass] at hcc
    have hP : va_P (dC, dI) tw_cl (tw_wH h0 a0 a1 a2 a3 k0 k1 k2 k3 th tm pr ag ck nx ao k4 ou) H1 := hP.kept (fun k x hx9 => hk x.1 ((hP k x hx9).lt))
    have hS : va_S A s.heap H1 ([] ++ L) := ⟨hz, fun q h1 _ => hk q h1, fun z hz9 => (hL z (by simpa using hz9)).elim⟩
    refine xt_catch1 hown ⟨0, 8, 11, 13⟩ [⟨0, 8, 14, 19⟩] (hTab.trans rfl) (by decide) (by decide) (hT _ tt_50) (va_Nw.use rfl hZ.2.2.1) hce hcv hcc ?_
    refine W.eq (g2 := F0 m 11 ls [.ref q9]) rfl ?_
    refine lv_astore_n hx hb dL_drop_11 rfl hl (by decide) rfl (fun ls hl => ?_)
    have hl : lv_has ls 4 [(3, .ref q9), (0, .ref h0), (1, .int j), (2, .ref ao)] := hl
    refine lv_iconst (v := 1) hx hb dL_drop_12 (by decide) ?_
    exact W.iret hx hb hr (fun t ht hW => ⟨⟨_, (), rfl, rfl, by rw [ht]; exact hP, hD⟩, hS.F ht⟩) hS.2.2 dL_drop_13
set_option maxHeartbeats 4000000 in
set_option maxRecDepth 100000 in
theorem cL_dropN (l : Launch) (hfl : l.flags = pinnedFlags ++ [noTraceFlag]) (dC : Nat → ClassId) (dI : Nat → Nat → Nat) (h0 a0 a1 a2 a3 : Nat) (k0 k1 k2 k3 : ClassId) (th : Nat → Int32) (tm : Nat → Int64) (pr ag : Nat → Int32) (ck : Int64) (nx : Int32) (ao : Nat) (k4 : ClassId) (ou : Nat → Int64) (sz : Nat) (j : Int32) (hj : vp_in j 100) (ht : th j.toNatClampNeg = 0) : Met l yL_drop (Cond.codeWith yL_drop bL_drop 4 (some .int) [(0, 8, 11, 13), (0, 8, 14, 19)] :: tw_T) { frames := 8, cells := 1, slots := 6, locals := 160 } (va_Pc [.ref h0, .int j, .ref ao] (fun U => U.heap.size = sz ∧ va_P (dC, dI) tw_cl (tw_wH h0 a0 a1 a2 a3 k0 k1 k2 k3 th tm pr ag ck nx ao k4 ou) U.heap ∧ va_K (dC, dI) tw_cl (tw_kH k0 k1 k2 k3 k4) U ∧ va_D (fun _ => True) (tw_wH h0 a0 a1 a2 a3 k0 k1 k2 k3 th tm pr ag ck nx ao k4 ou) ∧ tw_Z U U.heap ∧ va_Nc tw_nse tw_iae U)) (va_Qi (S := Unit) (fun r _ => r = 2) (fun _ tz => va_P (dC, dI) tw_cl (tw_wH h0 a0 a1 a2 a3 k0 k1 k2 k3 th tm pr ag ck nx ao k4 ou) tz.heap ∧ va_D (va_A (tw_wH h0 a0 a1 a2 a3 k0 k1 k2 k3 th tm pr ag ck nx ao k4 ou) sz) (tw_wH h0 a0 a1 a2 a3 k0 k1 k2 k3 th tm pr ag ck nx ao k4 ou)) (va_A (tw_wH h0 a0 a1 a2 a3 k0 k1 k2 k3 th tm pr ag ck nx ao k4 ou) sz)) 1 6 (va_A (tw_wH h0 a0 a1 a2 a3 k0 k1 k2 k3 th tm pr ag ck nx ao k4 ou) sz) := by
  refine va_MetW (hh := [(0, 8, 11, 13), (0, 8, 14, 19)]) (cc := bL_drop) (maxL := 4) (ret := some .int) (by decide) rfl ?_
  intro p e s m args below meth c s₁ B hml hv
  obtain ⟨rfl, hsz, hP, hK, hD0, hZ, hNc⟩ := hv
  have hx := B.exec
  have hb := B.bytes
  have hr := B.returns
  have hts := atoms_spec (ws := Cond.codeWith yL_drop bL_drop 4 (some .int) [(0, 8, 11, 13), (0, 8, 14, 19)] :: tw_T) B.pre
  have hT := fun (w : Cond) (h : w ∈ tw_T) => hts w (List.mem_cons_of_mem _ h)
  have hown : s.vm.findClass RL = some m.cls := findClass_of_methodNamed B.named
  have hlocks := B.notSynchronized
  have hl := lv_entry ([.ref h0, .int j, .ref ao]) (n := 4) (Nat.le_of_ble_eq_true rfl)
  rw [lg_entry_eq]
  generalize (lg_sl ([.ref h0, .int j, .ref ao]) ++ List.replicate (4 - (lg_sl ([.ref h0, .int j, .ref ao])).length) Slot.unset).toArray = ls at hl ⊢
  have hl : lv_has ls 4 [(0, .ref h0), (1, .int j), (2, .ref ao)] := hl
  subst hsz
  have hD := hD0.self (sz := s.heap.size)
  generalize hAe : va_A (tw_wH h0 a0 a1 a2 a3 k0 k1 k2 k3 th tm pr ag ck nx ao k4 ou) s.heap.size = A at hD ⊢
  have hA : ∀ q : Nat, s.heap.size ≤ q → A q := fun q h => by rw [← hAe]; exact Or.inr h
  have hS : va_S A s.heap s.heap [] := va_S.rf
  have hPc := hP.sub (ws' := tw_wX h0 a0 a1 a2 a3 k0 k1 k2 k3 th tm pr ag ck nx) [0, 1, 2, 3, 4] rfl
  have hDc := hD.sub (ws' := tw_wX h0 a0 a1 a2 a3 k0 k1 k2 k3 th tm pr ag ck nx) [0, 1, 2, 3, 4] (by decide) rfl
  have hKc := hK.sub (tys' := tw_k k0 k1 k2 k3) [0, 1, 2, 3] rfl
  have hFc := va_free (wc := tw_wX h0 a0 a1 a2 a3 k0 k1 k2 k3 th tm pr ag ck nx) hD hS hA [0, 1, 2, 3, 4] rfl
  have hTab := xt_tableOf (xt_table B (hts _ List.mem_cons_self))
  refine lv_aload_n hx hb dL_drop_0 rfl (lv_at hl 2 rfl) ?_
  refine lv_iconst (v := 0) hx hb dL_drop_1 (by decide) ?_
  refine lv_aload_n hx hb dL_drop_2 rfl (lv_at hl 0 rfl) ?_
  refine lv_iload_n hx hb dL_drop_3 rfl (lv_at hl 1 rfl) ?_
  refine xt_call (xt_runV (C := RX) (b := h0) (As := [.int j]) (rest := [.int 0, .ref ao]) ⟨hx, hb, hml, hown, hT⟩ (eX_dropN l hfl dC dI h0 a0 a1 a2 a3 k0 k1 k2 k3 th tm pr ag ck nx j hj ht) (cwV 1 hT (tw_gV tt_131 tt_132 tt_133 tt_1 tt_134) rfl rfl rfl ⟨rfl, by decide +kernel⟩ ⟨Nat.le_of_ble_eq_true rfl, Nat.le_of_ble_eq_true rfl⟩) ⟨fun a U g mk q => ⟨q.1, ⟨q.2.1.1, va_K.moved (u := U) (U := U.calling g mk a) (Vm.Alike.refl U.vm) q.2.1.2⟩, q.2.2.call⟩, va_recv (q0 := 0) (ci := 0) hKc hPc rfl rfl, fun U hU hW => ⟨rfl, ⟨by rw [hU]; exact hPc, va_K.moved hW.alike hKc⟩, hZ.at hU hW⟩⟩ rfl rfl hl.1 rfl (lv_room (Nat.le_of_ble_eq_true rfl)) dL_drop_4 ⟨Nat.le_of_ble_eq_true rfl, Nat.le_of_ble_eq_true rfl⟩) (fun v st₀ t H1 L _ _ _ _ _ hq => ?_) (fun q9 st₀ t8 H1 L e1 e2 e3 e4 hL hq => ?_)
  · obtain ⟨q2, hq1, -⟩ := hq
    cases hq1
  · obtain ⟨q2, hq1, ⟨ce, hce, hcv, hcc⟩, hz, hk⟩ := hq
    cases hq1
    rw [e1] at hz hk
    rw [e3] at hz hk hce
    rw [e2.findClass] at hcc
    have hP : va_P (dC, dI) tw_cl (tw_wH h0 a0 a1 a2 a3 k0 k1 k2 k3 th tm pr ag ck nx ao k4 ou) H1 := hP.kept (fun k x hx9 => hk x.1 ((hP k x hx9).lt))
    have hS : va_S A s.heap H1 ([] ++ L) := ⟨hz, fun q h1 _ => hk q h1, fun z hz9 => (hL z (by simpa using hz9)).elim⟩
    refine xt_catch2 hown ⟨0, 8, 11, 13⟩ ⟨0, 8, 14, 19⟩ [] (hTab.trans rfl) (by decide) (by decide) (hT _ tt_50) hNc (by decide) (by decide) (hT _ tt_130) (va_Nw.use rfl hZ.2.2.2.1) hce hcv hcc ?_
    refine W.eq (g2 := F0 m 14 ls [.ref q9]) rfl ?_
    refine lv_astore_n hx hb dL_drop_14 rfl hl (by decide) rfl (fun ls hl => ?_)
    have hl : lv_has ls 4 [(3, .ref q9), (0, .ref h0), (1, .int j), (2, .ref ao)] := hl
    refine lv_iconst (v := 2) hx hb dL_drop_15 (by decide) ?_
    exact W.iret hx hb hr (fun t ht hW => ⟨⟨_, (), rfl, rfl, by rw [ht]; exact hP, hD⟩, hS.F ht⟩) hS.2.2 dL_drop_16
set_option maxHeartbeats 4000000 in
set_option maxRecDepth 100000 in
theorem cL_take (l : Launch) (dC : Nat → ClassId) (dI : Nat → Nat → Nat) (h0 a0 a1 a2 a3 : Nat) (k0 k1 k2 k3 : ClassId) (th : Nat → Int32) (tm : Nat → Int64) (pr ag : Nat → Int32) (ck : Int64) (nx : Int32) (ao : Nat) (k4 : ClassId) (ou : Nat → Int64) (sz : Nat) (hf : ¬ tw_first th tm pr ag ck 100 = -1) : Met l yL_take (Cond.codeWith yL_take bL_take 3 (some .int) [(0, 8, 11, 19)] :: tw_T) { frames := 3, cells := 0, slots := 0, locals := 120 } (va_Pc [.ref h0, .ref ao] (fun U => U.heap.size = sz ∧ va_P (dC, dI) tw_cl (tw_wH h0 a0 a1 a2 a3 k0 k1 k2 k3 th tm pr ag ck nx ao k4 ou) U.heap ∧ va_K (dC, dI) tw_cl (tw_kH k0 k1 k2 k3 k4) U ∧ va_D (fun _ => True) (tw_wH h0 a0 a1 a2 a3 k0 k1 k2 k3 th tm pr ag ck nx ao k4 ou))) (va_Qi (S := Unit) (fun r _ => r = 0) (fun _ tz => va_P (dC, dI) tw_cl (tw_wH h0 a0 a1 a2 a3 k0 k1 k2 k3 (upd th (tw_first th tm pr ag ck 100).toNatClampNeg (vp_nar .boolean 0)) tm pr ag ck nx ao k4 (vp_updL ou (0 : Int32).toNatClampNeg ((tw_first th tm pr ag ck 100).toInt64))) tz.heap ∧ va_D (va_A (tw_wH h0 a0 a1 a2 a3 k0 k1 k2 k3 th tm pr ag ck nx ao k4 ou) sz) (tw_wH h0 a0 a1 a2 a3 k0 k1 k2 k3 (upd th (tw_first th tm pr ag ck 100).toNatClampNeg (vp_nar .boolean 0)) tm pr ag ck nx ao k4 (vp_updL ou (0 : Int32).toNatClampNeg ((tw_first th tm pr ag ck 100).toInt64)))) (va_A (tw_wH h0 a0 a1 a2 a3 k0 k1 k2 k3 th tm pr ag ck nx ao k4 ou) sz)) 0 0 (va_A (tw_wH h0 a0 a1 a2 a3 k0 k1 k2 k3 th tm pr ag ck nx ao k4 ou) sz) := by
  refine va_MetW (hh := [(0, 8, 11, 19)]) (cc := bL_take) (maxL := 3) (ret := some .int) (by decide) rfl ?_
  intro p e s m args below meth c s₁ B hml hv
  obtain ⟨rfl, hsz, hP, hK, hD0⟩ := hv
  have hx := B.exec
  have hb := B.bytes
  have hr := B.returns
  have hts := atoms_spec (ws := Cond.codeWith yL_take bL_take 3 (some .int) [(0, 8, 11, 19)] :: tw_T) B.pre
  have hT := fun (w : Cond) (h : w ∈ tw_T) => hts w (List.mem_cons_of_mem _ h)
  have hown : s.vm.findClass RL = some m.cls := findClass_of_methodNamed B.named
  have hlocks := B.notSynchronized
  have hl := lv_entry ([.ref h0, .ref ao]) (n := 3) (Nat.le_of_ble_eq_true rfl)
  rw [lg_entry_eq]
  generalize (lg_sl ([.ref h0, .ref ao]) ++ List.replicate (3 - (lg_sl ([.ref h0, .ref ao])).length) Slot.unset).toArray = ls at hl ⊢
  have hl : lv_has ls 3 [(0, .ref h0), (1, .ref ao)] := hl
  subst hsz
  have hD := hD0.self (sz := s.heap.size)
  generalize hAe : va_A (tw_wH h0 a0 a1 a2 a3 k0 k1 k2 k3 th tm pr ag ck nx ao k4 ou) s.heap.size = A at hD ⊢
  have hA : ∀ q : Nat, s.heap.size ≤ q → A q := fun q h => by rw [← hAe]; exact Or.inr h
  have hS : va_S A s.heap s.heap [] := va_S.rf
  have hPc := hP.sub (ws' := tw_wX h0 a0 a1 a2 a3 k0 k1 k2 k3 th tm pr ag ck nx) [0, 1, 2, 3, 4] rfl
  have hDc := hD.sub (ws' := tw_wX h0 a0 a1 a2 a3 k0 k1 k2 k3 th tm pr ag ck nx) [0, 1, 2, 3, 4] (by decide) rfl
  have hKc := hK.sub (tys' := tw_k k0 k1 k2 k3) [0, 1, 2, 3] rfl
  have hFc := va_free (wc := tw_wX h0 a0 a1 a2 a3 k0 k1 k2 k3 th tm pr ag ck nx) hD hS hA [0, 1, 2, 3, 4] rfl
  refine lv_aload_n hx hb dL_take_0 rfl (lv_at hl 1 rfl) ?_
  refine lv_iconst (v := 0) hx hb dL_take_1 (by decide) ?_
  refine lv_aload_n hx hb dL_take_2 rfl (lv_at hl 0 rfl) ?_
  refine va_calli (va_runV (C := RX) (b := h0) (As := []) (rest := [.int 0, .ref ao]) ⟨hx, hb, hml, hown, hT⟩ (cX_take l dC dI h0 a0 a1 a2 a3 k0 k1 k2 k3 th tm pr ag ck nx s.heap.size hf) (cwV 0 hT (tw_gV tt_154 tt_155 tt_156 tt_1 tt_157) rfl rfl rfl ⟨rfl, by decide +kernel⟩ ⟨Nat.le_of_ble_eq_true rfl, Nat.le_of_ble_eq_true rfl⟩) ⟨fun a U g mk q => by obtain ⟨q0, q1, qP, qK, qD⟩ := q; exact ⟨q0, q1, qP, va_K.moved (u := U) (U := U.calling g mk a) (Vm.Alike.refl U.vm) qK, qD⟩, va_recv (q0 := 0) (ci := 0) hKc hPc rfl rfl, fun U hU hW => ⟨rfl, by rw [hU], by rw [hU]; exact hPc, va_K.moved hW.alike hKc, hDc.weaken (fun _ _ _ _ => trivial)⟩⟩ rfl rfl hl.1 rfl (lv_room (Nat.le_of_ble_eq_true rfl)) dL_take_3 ⟨Nat.le_of_ble_eq_true rfl, Nat.le_of_ble_eq_true rfl⟩) hS (fun q _ h => hFc q h) hFc (fun r9 u9 t9 H1 locs ht9 hvm9 hw9 hB9 hz9 hk9 hS => ?_)
  obtain ⟨hP1, hD1⟩ := hB9
  rw [ht9] at hP1
  have hw9 : r9 = tw_first th tm pr ag ck 100 := hw9
  subst r9
  obtain ⟨hP, hD⟩ := va_join (wr := [(ao, .inl (k4, 1, .inr (.inl ou)))]) (w1 := (tw_wX h0 a0 a1 a2 a3 k0 k1 k2 k3 (upd th (tw_first th tm pr ag ck 100).toNatClampNeg (vp_nar .boolean 0)) tm pr ag ck nx)) hP hD [0, 1, 2, 3, 4] [5] rfl rfl (by decide) (by decide) hk9 hFc hP1 hD1
  generalize H1 = H at hP hS ⊢
  have hP := hP.sub (ws' := (tw_wH h0 a0 a1 a2 a3 k0 k1 k2 k3 (upd th (tw_first th tm pr ag ck 100).toNatClampNeg (vp_nar .boolean 0)) tm pr ag ck nx ao k4 ou)) [1, 2, 3, 4, 5, 0] rfl
  have hD := hD.sub (ws' := (tw_wH h0 a0 a1 a2 a3 k0 k1 k2 k3 (upd th (tw_first th tm pr ag ck 100).toNatClampNeg (vp_nar .boolean 0)) tm pr ag ck nx ao k4 ou)) [1, 2, 3, 4, 5, 0] (by decide) rfl
  refine lv_i2l hx hb dL_take_6 rfl ?_
  refine va_last hx hb hK hP hD hS 5 4 rfl rfl (by unfold vp_in; decide) dL_take_7 (fun H locs hP hD hS => ?_)
  have hP : va_P (dC, dI) tw_cl [(h0, .inr (0, [.ref a0, .ref a1, .ref a2, .ref a3, .long ck, .int nx])), (a0, .inl (k0, 100, .inl (upd th (tw_first th tm pr ag ck 100).toNatClampNeg (vp_nar .boolean 0)))), (a1, .inl (k1, 100, .inr (.inl tm))), (a2, .inl (k2, 100, .inl pr)), (a3, .inl (k3, 100, .inl ag)), (ao, .inl (k4, 1, .inr (.inl (vp_updL ou (0 : Int32).toNatClampNeg ((tw_first th tm pr ag ck 100).toInt64)))))] H := hP
  have hD : va_D A [(h0, .inr (0, [.ref a0, .ref a1, .ref a2, .ref a3, .long ck, .int nx])), (a0, .inl (k0, 100, .inl (upd th (tw_first th tm pr ag ck 100).toNatClampNeg (vp_nar .boolean 0)))), (a1, .inl (k1, 100, .inr (.inl tm))), (a2, .inl (k2, 100, .inl pr)), (a3, .inl (k3, 100, .inl ag)), (ao, .inl (k4, 1, .inr (.inl (vp_updL ou (0 : Int32).toNatClampNeg ((tw_first th tm pr ag ck 100).toInt64)))))] := hD
  refine lv_goto (tgt := 14) hx hb dL_take_8 (by decide) ?_
  refine lv_iconst (v := 0) hx hb dL_take_14 (by decide) ?_
  exact W.iret hx hb hr (fun t ht hW => ⟨⟨_, (), rfl, rfl, by rw [ht]; exact hP, hD⟩, hS.F ht⟩) hS.2.2 dL_take_15
set_option maxHeartbeats 4000000 in
set_option maxRecDepth 100000 in
theorem cL_takeB (l : Launch) (hfl : l.flags = pinnedFlags ++ [noTraceFlag]) (dC : Nat → ClassId) (dI : Nat → Nat → Nat) (h0 a0 a1 a2 a3 : Nat) (k0 k1 k2 k3 : ClassId) (th : Nat → Int32) (tm : Nat → Int64) (pr ag : Nat → Int32) (ck : Int64) (nx : Int32) (ao : Nat) (k4 : ClassId) (ou : Nat → Int64) (sz : Nat) (hf : tw_first th tm pr ag ck 100 = -1) : Met l yL_take (Cond.codeWith yL_take bL_take 3 (some .int) [(0, 8, 11, 19)] :: tw_T) { frames := 8, cells := 1, slots := 6, locals := 160 } (va_Pc [.ref h0, .ref ao] (fun U => U.heap.size = sz ∧ va_P (dC, dI) tw_cl (tw_wH h0 a0 a1 a2 a3 k0 k1 k2 k3 th tm pr ag ck nx ao k4 ou) U.heap ∧ va_K (dC, dI) tw_cl (tw_kH k0 k1 k2 k3 k4) U ∧ va_D (fun _ => True) (tw_wH h0 a0 a1 a2 a3 k0 k1 k2 k3 th tm pr ag ck nx ao k4 ou) ∧ tw_Z U U.heap)) (va_Qi (S := Unit) (fun r _ => r = 1) (fun _ tz => va_P (dC, dI) tw_cl (tw_wH h0 a0 a1 a2 a3 k0 k1 k2 k3 th tm pr ag ck nx ao k4 ou) tz.heap ∧ va_D (va_A (tw_wH h0 a0 a1 a2 a3 k0 k1 k2 k3 th tm pr ag ck nx ao k4 ou) sz) (tw_wH h0 a0 a1 a2 a3 k0 k1 k2 k3 th tm pr ag ck nx ao k4 ou)) (va_A (tw_wH h0 a0 a1 a2 a3 k0 k1 k2 k3 th tm pr ag ck nx ao k4 ou) sz)) 1 6 (va_A (tw_wH h0 a0 a1 a2 a3 k0 k1 k2 k3 th tm pr ag ck nx ao k4 ou) sz) := by
  refine va_MetW (hh := [(0, 8, 11, 19)]) (cc := bL_take) (maxL := 3) (ret := some .int) (by decide) rfl ?_
  intro p e s m args below meth c s₁ B hml hv
  obtain ⟨rfl, hsz, hP, hK, hD0, hZ⟩ := hv
  have hx := B.exec
  have hb := B.bytes
  have hr := B.returns
  have hts := atoms_spec (ws := Cond.codeWith yL_take bL_take 3 (some .int) [(0, 8, 11, 19)] :: tw_T) B.pre
  have hT := fun (w : Cond) (h : w ∈ tw_T) => hts w (List.mem_cons_of_mem _ h)
  have hown : s.vm.findClass RL = some m.cls := findClass_of_methodNamed B.named
  have hlocks := B.notSynchronized
  have hl := lv_entry ([.ref h0, .ref ao]) (n := 3) (Nat.le_of_ble_eq_true rfl)
  rw [lg_entry_eq]
  generalize (lg_sl ([.ref h0, .ref ao]) ++ List.replicate (3 - (lg_sl ([.ref h0, .ref ao])).length) Slot.unset).toArray = ls at hl ⊢
  have hl : lv_has ls 3 [(0, .ref h0), (1, .ref ao)] := hl
  subst hsz
  have hD := hD0.self (sz := s.heap.size)
  generalize hAe : va_A (tw_wH h0 a0 a1 a2 a3 k0 k1 k2 k3 th tm pr ag ck nx ao k4 ou) s.heap.size = A at hD ⊢
  have hA : ∀ q : Nat, s.heap.size ≤ q → A q := fun q h => by rw [← hAe]; exact Or.inr h
  have hS : va_S A s.heap s.heap [] := va_S.rf
  have hPc := hP.sub (ws' := tw_wX h0 a0 a1 a2 a3 k0 k1 k2 k3 th tm pr ag ck nx) [0, 1, 2, 3, 4] rfl
  have hDc := hD.sub (ws' := tw_wX h0 a0 a1 a2 a3 k0 k1 k2 k3 th tm pr ag ck nx) [0, 1, 2, 3, 4] (by decide) rfl
  have hKc := hK.sub (tys' := tw_k k0 k1 k2 k3) [0, 1, 2, 3] rfl
  have hFc := va_free (wc := tw_wX h0 a0 a1 a2 a3 k0 k1 k2 k3 th tm pr ag ck nx) hD hS hA [0, 1, 2, 3, 4] rfl
  have hTab := xt_tableOf (xt_table B (hts _ List.mem_cons_self))
  refine lv_aload_n hx hb dL_take_0 rfl (lv_at hl 1 rfl) ?_
  refine lv_iconst (v := 0) hx hb dL_take_1 (by decide) ?_
  refine lv_aload_n hx hb dL_take_2 rfl (lv_at hl 0 rfl) ?_
  refine xt_call (xt_runV (C := RX) (b := h0) (As := []) (rest := [.int 0, .ref ao]) ⟨hx, hb, hml, hown, hT⟩ (eX_take l hfl dC dI h0 a0 a1 a2 a3 k0 k1 k2 k3 th tm pr ag ck nx hf) (cwV 0 hT (tw_gV tt_154 tt_155 tt_156 tt_1 tt_157) rfl rfl rfl ⟨rfl, by decide +kernel⟩ ⟨Nat.le_of_ble_eq_true rfl, Nat.le_of_ble_eq_true rfl⟩) ⟨fun a U g mk q => ⟨q.1, ⟨q.2.1.1, va_K.moved (u := U) (U := U.calling g mk a) (Vm.Alike.refl U.vm) q.2.1.2⟩, q.2.2.call⟩, va_recv (q0 := 0) (ci := 0) hKc hPc rfl rfl, fun U hU hW => ⟨rfl, ⟨by rw [hU]; exact hPc, va_K.moved hW.alike hKc⟩, hZ.at hU hW⟩⟩ rfl rfl hl.1 rfl (lv_room (Nat.le_of_ble_eq_true rfl)) dL_take_3 ⟨Nat.le_of_ble_eq_true rfl, Nat.le_of_ble_eq_true rfl⟩) (fun v st₀ t H1 L _ _ _ _ _ hq => ?_) (fun q9 st₀ t8 H1 L e1 e2 e3 e4 hL hq => ?_)
  · obtain ⟨q2, hq1, -⟩ := hq
    cases hq1
  · obtain ⟨q2, hq1, ⟨ce, hce, hcv, hcc⟩, hz, hk⟩ := hq
    cases hq1
    rw [e1] at hz hk
    rw [e3] at hz hk hce
    rw [e2.findClass] at hcc
    have hP : va_P (dC, dI) tw_cl (tw_wH h0 a0 a1 a2 a3 k0 k1 k2 k3 th tm pr ag ck nx ao k4 ou) H1 := hP.kept (fun k x hx9 => hk x.1 ((hP k x hx9).lt))
    have hS : va_S A s.heap H1 ([] ++ L) := ⟨hz, fun q h1 _ => hk q h1, fun z hz9 => (hL z (by simpa using hz9)).elim⟩
    refine xt_catch1 hown ⟨0, 8, 11, 19⟩ [] (hTab.trans rfl) (by decide) (by decide) (hT _ tt_130) (va_Nw.use rfl hZ.2.2.2.1) hce hcv hcc ?_
    refine W.eq (g2 := F0 m 11 ls [.ref q9]) rfl ?_
    refine lv_astore_n hx hb dL_take_11 rfl hl (by decide) rfl (fun ls hl => ?_)
    have hl : lv_has ls 3 [(2, .ref q9), (0, .ref h0), (1, .ref ao)] := hl
    refine lv_iconst (v := 1) hx hb dL_take_12 (by decide) ?_
    exact W.iret hx hb hr (fun t ht hW => ⟨⟨_, (), rfl, rfl, by rw [ht]; exact hP, hD⟩, hS.F ht⟩) hS.2.2 dL_take_13
set_option maxHeartbeats 4000000 in
set_option maxRecDepth 100000 in
theorem cL_go (l : Launch) (dC : Nat → ClassId) (dI : Nat → Nat → Nat) (h0 a0 a1 a2 a3 : Nat) (k0 k1 k2 k3 : ClassId) (th : Nat → Int32) (tm : Nat → Int64) (pr ag : Nat → Int32) (ck : Int64) (nx : Int32) (ao : Nat) (k4 : ClassId) (ou : Nat → Int64) (sz : Nat) (n : Int64) (h1 : 0 ≤ n) (h2 : n ≤ 17592186044416) (h3 : n ≤ 70368744177664 - ck) : Met l yL_go (Cond.codeWith yL_go bL_go 5 (some .int) [(0, 9, 12, 13)] :: tw_T) { frames := 3, cells := 0, slots := 0, locals := 120 } (va_Pc [.ref h0, .long n, .ref ao] (fun U => U.heap.size = sz ∧ va_P (dC, dI) tw_cl (tw_wH h0 a0 a1 a2 a3 k0 k1 k2 k3 th tm pr ag ck nx ao k4 ou) U.heap ∧ va_K (dC, dI) tw_cl (tw_kH k0 k1 k2 k3 k4) U ∧ va_D (fun _ => True) (tw_wH h0 a0 a1 a2 a3 k0 k1 k2 k3 th tm pr ag ck nx ao k4 ou))) (va_Qi (S := Unit) (fun r _ => r = 0) (fun _ tz => va_P (dC, dI) tw_cl (tw_wH h0 a0 a1 a2 a3 k0 k1 k2 k3 th tm pr ag (ck + n) nx ao k4 (vp_updL ou (0 : Int32).toNatClampNeg ((tw_dues th tm (ck + n) 100).toInt64))) tz.heap ∧ va_D (va_A (tw_wH h0 a0 a1 a2 a3 k0 k1 k2 k3 th tm pr ag ck nx ao k4 ou) sz) (tw_wH h0 a0 a1 a2 a3 k0 k1 k2 k3 th tm pr ag (ck + n) nx ao k4 (vp_updL ou (0 : Int32).toNatClampNeg ((tw_dues th tm (ck + n) 100).toInt64)))) (va_A (tw_wH h0 a0 a1 a2 a3 k0 k1 k2 k3 th tm pr ag ck nx ao k4 ou) sz)) 0 0 (va_A (tw_wH h0 a0 a1 a2 a3 k0 k1 k2 k3 th tm pr ag ck nx ao k4 ou) sz) := by
  refine va_MetW (hh := [(0, 9, 12, 13)]) (cc := bL_go) (maxL := 5) (ret := some .int) (by decide) rfl ?_
  intro p e s m args below meth c s₁ B hml hv
  obtain ⟨rfl, hsz, hP, hK, hD0⟩ := hv
  have hx := B.exec
  have hb := B.bytes
  have hr := B.returns
  have hts := atoms_spec (ws := Cond.codeWith yL_go bL_go 5 (some .int) [(0, 9, 12, 13)] :: tw_T) B.pre
  have hT := fun (w : Cond) (h : w ∈ tw_T) => hts w (List.mem_cons_of_mem _ h)
  have hown : s.vm.findClass RL = some m.cls := findClass_of_methodNamed B.named
  have hlocks := B.notSynchronized
  have hl := lv_entry ([.ref h0, .long n, .ref ao]) (n := 5) (Nat.le_of_ble_eq_true rfl)
  rw [lg_entry_eq]
  generalize (lg_sl ([.ref h0, .long n, .ref ao]) ++ List.replicate (5 - (lg_sl ([.ref h0, .long n, .ref ao])).length) Slot.unset).toArray = ls at hl ⊢
  have hl : lv_has ls 5 [(0, .ref h0), (1, .long n), (3, .ref ao)] := hl
  subst hsz
  have hD := hD0.self (sz := s.heap.size)
  generalize hAe : va_A (tw_wH h0 a0 a1 a2 a3 k0 k1 k2 k3 th tm pr ag ck nx ao k4 ou) s.heap.size = A at hD ⊢
  have hA : ∀ q : Nat, s.heap.size ≤ q → A q := fun q h => by rw [← hAe]; exact Or.inr h
  have hS : va_S A s.heap s.heap [] := va_S.rf
  have hPc := hP.sub (ws' := tw_wX h0 a0 a1 a2 a3 k0 k1 k2 k3 th tm pr ag ck nx) [0, 1, 2, 3, 4] rfl
  have hDc := hD.sub (ws' := tw_wX h0 a0 a1 a2 a3 k0 k1 k2 k3 th tm pr ag ck nx) [0, 1, 2, 3, 4] (by decide) rfl
  have hKc := hK.sub (tys' := tw_k k0 k1 k2 k3) [0, 1, 2, 3] rfl
  have hFc := va_free (wc := tw_wX h0 a0 a1 a2 a3 k0 k1 k2 k3 th tm pr ag ck nx) hD hS hA [0, 1, 2, 3, 4] rfl
  refine lv_aload_n hx hb dL_go_0 rfl (lv_at hl 2 rfl) ?_
  refine lv_iconst (v := 0) hx hb dL_go_1 (by decide) ?_
  refine lv_aload_n hx hb dL_go_2 rfl (lv_at hl 0 rfl) ?_
  refine lv_lload_n hx hb dL_go_3 rfl (lv_at hl 1 rfl) ?_
  refine va_calli (va_runV (C := RX) (b := h0) (As := [.long n]) (rest := [.int 0, .ref ao]) ⟨hx, hb, hml, hown, hT⟩ (cX_go l dC dI h0 a0 a1 a2 a3 k0 k1 k2 k3 th tm pr ag ck nx s.heap.size n h1 h2 h3) (cwV 1 hT (tw_gV tt_170 tt_171 tt_172 tt_1 tt_173) rfl rfl rfl ⟨rfl, by decide +kernel⟩ ⟨Nat.le_of_ble_eq_true rfl, Nat.le_of_ble_eq_true rfl⟩) ⟨fun a U g mk q => by obtain ⟨q0, q1, qP, qK, qD⟩ := q; exact ⟨q0, q1, qP, va_K.moved (u := U) (U := U.calling g mk a) (Vm.Alike.refl U.vm) qK, qD⟩, va_recv (q0 := 0) (ci := 0) hKc hPc rfl rfl, fun U hU hW => ⟨rfl, by rw [hU], by rw [hU]; exact hPc, va_K.moved hW.alike hKc, hDc.weaken (fun _ _ _ _ => trivial)⟩⟩ rfl rfl hl.1 rfl (lv_room (Nat.le_of_ble_eq_true rfl)) dL_go_4 ⟨Nat.le_of_ble_eq_true rfl, Nat.le_of_ble_eq_true rfl⟩) hS (fun q _ h => hFc q h) hFc (fun r9 u9 t9 H1 locs ht9 hvm9 hw9 hB9 hz9 hk9 hS => ?_)
  obtain ⟨hP1, hD1⟩ := hB9
  rw [ht9] at hP1
  have hw9 : r9 = tw_dues th tm (ck + n) 100 := hw9
  subst r9
  obtain ⟨hP, hD⟩ := va_join (wr := [(ao, .inl (k4, 1, .inr (.inl ou)))]) (w1 := (tw_wX h0 a0 a1 a2 a3 k0 k1 k2 k3 th tm pr ag (ck + n) nx)) hP hD [0, 1, 2, 3, 4] [5] rfl rfl (by decide) (by decide) hk9 hFc hP1 hD1
  generalize H1 = H at hP hS ⊢
  have hP := hP.sub (ws' := (tw_wH h0 a0 a1 a2 a3 k0 k1 k2 k3 th tm pr ag (ck + n) nx ao k4 ou)) [1, 2, 3, 4, 5, 0] rfl
  have hD := hD.sub (ws' := (tw_wH h0 a0 a1 a2 a3 k0 k1 k2 k3 th tm pr ag (ck + n) nx ao k4 ou)) [1, 2, 3, 4, 5, 0] (by decide) rfl
  refine lv_i2l hx hb dL_go_7 rfl ?_
  refine va_last hx hb hK hP hD hS 5 4 rfl rfl (by unfold vp_in; decide) dL_go_8 (fun H locs hP hD hS => ?_)
  have hP : va_P (dC, dI) tw_cl [(h0, .inr (0, [.ref a0, .ref a1, .ref a2, .ref a3, .long (ck + n), .int nx])), (a0, .inl (k0, 100, .inl th)), (a1, .inl (k1, 100, .inr (.inl tm))), (a2, .inl (k2, 100, .inl pr)), (a3, .inl (k3, 100, .inl ag)), (ao, .inl (k4, 1, .inr (.inl (vp_updL ou (0 : Int32).toNatClampNeg ((tw_dues th tm (ck + n) 100).toInt64)))))] H := hP
  have hD : va_D A [(h0, .inr (0, [.ref a0, .ref a1, .ref a2, .ref a3, .long (ck + n), .int nx])), (a0, .inl (k0, 100, .inl th)), (a1, .inl (k1, 100, .inr (.inl tm))), (a2, .inl (k2, 100, .inl pr)), (a3, .inl (k3, 100, .inl ag)), (ao, .inl (k4, 1, .inr (.inl (vp_updL ou (0 : Int32).toNatClampNeg ((tw_dues th tm (ck + n) 100).toInt64)))))] := hD
  refine lv_goto (tgt := 16) hx hb dL_go_9 (by decide) ?_
  refine lv_iconst (v := 0) hx hb dL_go_16 (by decide) ?_
  exact W.iret hx hb hr (fun t ht hW => ⟨⟨_, (), rfl, rfl, by rw [ht]; exact hP, hD⟩, hS.F ht⟩) hS.2.2 dL_go_17
set_option maxHeartbeats 4000000 in
set_option maxRecDepth 100000 in
theorem cL_goB (l : Launch) (hfl : l.flags = pinnedFlags ++ [noTraceFlag]) (dC : Nat → ClassId) (dI : Nat → Nat → Nat) (h0 a0 a1 a2 a3 : Nat) (k0 k1 k2 k3 : ClassId) (th : Nat → Int32) (tm : Nat → Int64) (pr ag : Nat → Int32) (ck : Int64) (nx : Int32) (ao : Nat) (k4 : ClassId) (ou : Nat → Int64) (sz : Nat) (n : Int64) (hbad : ¬ (0 ≤ n ∧ n ≤ 17592186044416 ∧ n ≤ 70368744177664 - ck)) : Met l yL_go (Cond.codeWith yL_go bL_go 5 (some .int) [(0, 9, 12, 13)] :: tw_T) { frames := 8, cells := 1, slots := 6, locals := 160 } (va_Pc [.ref h0, .long n, .ref ao] (fun U => U.heap.size = sz ∧ va_P (dC, dI) tw_cl (tw_wH h0 a0 a1 a2 a3 k0 k1 k2 k3 th tm pr ag ck nx ao k4 ou) U.heap ∧ va_K (dC, dI) tw_cl (tw_kH k0 k1 k2 k3 k4) U ∧ va_D (fun _ => True) (tw_wH h0 a0 a1 a2 a3 k0 k1 k2 k3 th tm pr ag ck nx ao k4 ou) ∧ tw_Z U U.heap)) (va_Qi (S := Unit) (fun r _ => r = 1) (fun _ tz => va_P (dC, dI) tw_cl (tw_wH h0 a0 a1 a2 a3 k0 k1 k2 k3 th tm pr ag ck nx ao k4 ou) tz.heap ∧ va_D (va_A (tw_wH h0 a0 a1 a2 a3 k0 k1 k2 k3 th tm pr ag ck nx ao k4 ou) sz) (tw_wH h0 a0 a1 a2 a3 k0 k1 k2 k3 th tm pr ag ck nx ao k4 ou)) (va_A (tw_wH h0 a0 a1 a2 a3 k0 k1 k2 k3 th tm pr ag ck nx ao k4 ou) sz)) 1 6 (va_A (tw_wH h0 a0 a1 a2 a3 k0 k1 k2 k3 th tm pr ag ck nx ao k4 ou) sz) := by
  refine va_MetW (hh := [(0, 9, 12, 13)]) (cc := bL_go) (maxL := 5) (ret := some .int) (by decide) rfl ?_
  intro p e s m args below meth c s₁ B hml hv
  obtain ⟨rfl, hsz, hP, hK, hD0, hZ⟩ := hv
  have hx := B.exec
  have hb := B.bytes
  have hr := B.returns
  have hts := atoms_spec (ws := Cond.codeWith yL_go bL_go 5 (some .int) [(0, 9, 12, 13)] :: tw_T) B.pre
  have hT := fun (w : Cond) (h : w ∈ tw_T) => hts w (List.mem_cons_of_mem _ h)
  have hown : s.vm.findClass RL = some m.cls := findClass_of_methodNamed B.named
  have hlocks := B.notSynchronized
  have hl := lv_entry ([.ref h0, .long n, .ref ao]) (n := 5) (Nat.le_of_ble_eq_true rfl)
  rw [lg_entry_eq]
  generalize (lg_sl ([.ref h0, .long n, .ref ao]) ++ List.replicate (5 - (lg_sl ([.ref h0, .long n, .ref ao])).length) Slot.unset).toArray = ls at hl ⊢
  have hl : lv_has ls 5 [(0, .ref h0), (1, .long n), (3, .ref ao)] := hl
  subst hsz
  have hD := hD0.self (sz := s.heap.size)
  generalize hAe : va_A (tw_wH h0 a0 a1 a2 a3 k0 k1 k2 k3 th tm pr ag ck nx ao k4 ou) s.heap.size = A at hD ⊢
  have hA : ∀ q : Nat, s.heap.size ≤ q → A q := fun q h => by rw [← hAe]; exact Or.inr h
  have hS : va_S A s.heap s.heap [] := va_S.rf
  have hPc := hP.sub (ws' := tw_wX h0 a0 a1 a2 a3 k0 k1 k2 k3 th tm pr ag ck nx) [0, 1, 2, 3, 4] rfl
  have hDc := hD.sub (ws' := tw_wX h0 a0 a1 a2 a3 k0 k1 k2 k3 th tm pr ag ck nx) [0, 1, 2, 3, 4] (by decide) rfl
  have hKc := hK.sub (tys' := tw_k k0 k1 k2 k3) [0, 1, 2, 3] rfl
  have hFc := va_free (wc := tw_wX h0 a0 a1 a2 a3 k0 k1 k2 k3 th tm pr ag ck nx) hD hS hA [0, 1, 2, 3, 4] rfl
  have hTab := xt_tableOf (xt_table B (hts _ List.mem_cons_self))
  refine lv_aload_n hx hb dL_go_0 rfl (lv_at hl 2 rfl) ?_
  refine lv_iconst (v := 0) hx hb dL_go_1 (by decide) ?_
  refine lv_aload_n hx hb dL_go_2 rfl (lv_at hl 0 rfl) ?_
  refine lv_lload_n hx hb dL_go_3 rfl (lv_at hl 1 rfl) ?_
  refine xt_call (xt_runV (C := RX) (b := h0) (As := [.long n]) (rest := [.int 0, .ref ao]) ⟨hx, hb, hml, hown, hT⟩ (eX_go l hfl dC dI h0 a0 a1 a2 a3 k0 k1 k2 k3 th tm pr ag ck nx n hbad) (cwV 1 hT (tw_gV tt_170 tt_171 tt_172 tt_1 tt_173) rfl rfl rfl ⟨rfl, by decide +kernel⟩ ⟨Nat.le_of_ble_eq_true rfl, Nat.le_of_ble_eq_true rfl⟩) ⟨fun a U g mk q => ⟨q.1, ⟨q.2.1.1, va_K.moved (u := U) (U := U.calling g mk a) (Vm.Alike.refl U.vm) q.2.1.2⟩, q.2.2.call⟩, va_recv (q0 := 0) (ci := 0) hKc hPc rfl rfl, fun U hU hW => ⟨rfl, ⟨by rw [hU]; exact hPc, va_K.moved hW.alike hKc⟩, hZ.at hU hW⟩⟩ rfl rfl hl.1 rfl (lv_room (Nat.le_of_ble_eq_true rfl)) dL_go_4 ⟨Nat.le_of_ble_eq_true rfl, Nat.le_of_ble_eq_true rfl⟩) (fun v st₀ t H1 L _ _ _ _ _ hq => ?_) (fun q9 st₀ t8 H1 L e1 e2 e3 e4 hL hq => ?_)
  · obtain ⟨q2, hq1, -⟩ := hq
    cases hq1
  · obtain ⟨q2, hq1, ⟨ce, hce, hcv, hcc⟩, hz, hk⟩ := hq
    cases hq1
    rw [e1] at hz hk
    rw [e3] at hz hk hce
    rw [e2.findClass] at hcc
    have hP : va_P (dC, dI) tw_cl (tw_wH h0 a0 a1 a2 a3 k0 k1 k2 k3 th tm pr ag ck nx ao k4 ou) H1 := hP.kept (fun k x hx9 => hk x.1 ((hP k x hx9).lt))
    have hS : va_S A s.heap H1 ([] ++ L) := ⟨hz, fun q h1 _ => hk q h1, fun z hz9 => (hL z (by simpa using hz9)).elim⟩
    refine xt_catch1 hown ⟨0, 9, 12, 13⟩ [] (hTab.trans rfl) (by decide) (by decide) (hT _ tt_50) (va_Nw.use rfl hZ.2.2.1) hce hcv hcc ?_
    refine W.eq (g2 := F0 m 12 ls [.ref q9]) rfl ?_
    refine lv_astore hx hb dL_go_12 hl (by decide) rfl (fun ls hl => ?_)
    have hl : lv_has ls 5 [(4, .ref q9), (0, .ref h0), (1, .long n), (3, .ref ao)] := hl
    refine lv_iconst (v := 1) hx hb dL_go_14 (by decide) ?_
    exact W.iret hx hb hr (fun t ht hW => ⟨⟨_, (), rfl, rfl, by rw [ht]; exact hP, hD⟩, hS.F ht⟩) hS.2.2 dL_go_15
set_option maxHeartbeats 4000000 in
set_option maxRecDepth 100000 in
theorem cL_skip (l : Launch) (dC : Nat → ClassId) (dI : Nat → Nat → Nat) (h0 a0 a1 a2 a3 : Nat) (k0 k1 k2 k3 : ClassId) (th : Nat → Int32) (tm : Nat → Int64) (pr ag : Nat → Int32) (ck : Int64) (nx : Int32) (ao : Nat) (k4 : ClassId) (ou : Nat → Int64) (sz : Nat) (hf : ¬ tw_least th tm ck 100 = -1) : Met l yL_skip (Cond.codeWith yL_skip bL_skip 3 (some .int) [(0, 8, 11, 19)] :: tw_T) { frames := 3, cells := 0, slots := 0, locals := 120 } (va_Pc [.ref h0, .ref ao] (fun U => U.heap.size = sz ∧ va_P (dC, dI) tw_cl (tw_wH h0 a0 a1 a2 a3 k0 k1 k2 k3 th tm pr ag ck nx ao k4 ou) U.heap ∧ va_K (dC, dI) tw_cl (tw_kH k0 k1 k2 k3 k4) U ∧ va_D (fun _ => True) (tw_wH h0 a0 a1 a2 a3 k0 k1 k2 k3 th tm pr ag ck nx ao k4 ou))) (va_Qi (S := Unit) (fun r _ => r = 0) (fun _ tz => va_P (dC, dI) tw_cl (tw_wH h0 a0 a1 a2 a3 k0 k1 k2 k3 th tm pr ag (tw_least th tm ck 100) nx ao k4 (vp_updL ou (0 : Int32).toNatClampNeg ((tw_dues th tm (tw_least th tm ck 100) 100).toInt64))) tz.heap ∧ va_D (va_A (tw_wH h0 a0 a1 a2 a3 k0 k1 k2 k3 th tm pr ag ck nx ao k4 ou) sz) (tw_wH h0 a0 a1 a2 a3 k0 k1 k2 k3 th tm pr ag (tw_least th tm ck 100) nx ao k4 (vp_updL ou (0 : Int32).toNatClampNeg ((tw_dues th tm (tw_least th tm ck 100) 100).toInt64)))) (va_A (tw_wH h0 a0 a1 a2 a3 k0 k1 k2 k3 th tm pr ag ck nx ao k4 ou) sz)) 0 0 (va_A (tw_wH h0 a0 a1 a2 a3 k0 k1 k2 k3 th tm pr ag ck nx ao k4 ou) sz) := by
  refine va_MetW (hh := [(0, 8, 11, 19)]) (cc := bL_skip) (maxL := 3) (ret := some .int) (by decide) rfl ?_
  intro p e s m args below meth c s₁ B hml hv
  obtain ⟨rfl, hsz, hP, hK, hD0⟩ := hv
  have hx := B.exec
  have hb := B.bytes
  have hr := B.returns
  have hts := atoms_spec (ws := Cond.codeWith yL_skip bL_skip 3 (some .int) [(0, 8, 11, 19)] :: tw_T) B.pre
  have hT := fun (w : Cond) (h : w ∈ tw_T) => hts w (List.mem_cons_of_mem _ h)
  have hown : s.vm.findClass RL = some m.cls := findClass_of_methodNamed B.named
  have hlocks := B.notSynchronized
  have hl := lv_entry ([.ref h0, .ref ao]) (n := 3) (Nat.le_of_ble_eq_true rfl)
  rw [lg_entry_eq]
  generalize (lg_sl ([.ref h0, .ref ao]) ++ List.replicate (3 - (lg_sl ([.ref h0, .ref ao])).length) Slot.unset).toArray = ls at hl ⊢
  have hl : lv_has ls 3 [(0, .ref h0), (1, .ref ao)] := hl
  subst hsz
  have hD := hD0.self (sz := s.heap.size)
  generalize hAe : va_A (tw_wH h0 a0 a1 a2 a3 k0 k1 k2 k3 th tm pr ag ck nx ao k4 ou) s.heap.size = A at hD ⊢
  have hA : ∀ q : Nat, s.heap.size ≤ q → A q := fun q h => by rw [← hAe]; exact Or.inr h
  have hS : va_S A s.heap s.heap [] := va_S.rf
  have hPc := hP.sub (ws' := tw_wX h0 a0 a1 a2 a3 k0 k1 k2 k3 th tm pr ag ck nx) [0, 1, 2, 3, 4] rfl
  have hDc := hD.sub (ws' := tw_wX h0 a0 a1 a2 a3 k0 k1 k2 k3 th tm pr ag ck nx) [0, 1, 2, 3, 4] (by decide) rfl
  have hKc := hK.sub (tys' := tw_k k0 k1 k2 k3) [0, 1, 2, 3] rfl
  have hFc := va_free (wc := tw_wX h0 a0 a1 a2 a3 k0 k1 k2 k3 th tm pr ag ck nx) hD hS hA [0, 1, 2, 3, 4] rfl
  refine lv_aload_n hx hb dL_skip_0 rfl (lv_at hl 1 rfl) ?_
  refine lv_iconst (v := 0) hx hb dL_skip_1 (by decide) ?_
  refine lv_aload_n hx hb dL_skip_2 rfl (lv_at hl 0 rfl) ?_
  refine va_calli (va_runV (C := RX) (b := h0) (As := []) (rest := [.int 0, .ref ao]) ⟨hx, hb, hml, hown, hT⟩ (cX_skip l dC dI h0 a0 a1 a2 a3 k0 k1 k2 k3 th tm pr ag ck nx s.heap.size hf) (cwV 0 hT (tw_gV tt_184 tt_185 tt_186 tt_1 tt_187) rfl rfl rfl ⟨rfl, by decide +kernel⟩ ⟨Nat.le_of_ble_eq_true rfl, Nat.le_of_ble_eq_true rfl⟩) ⟨fun a U g mk q => by obtain ⟨q0, q1, qP, qK, qD⟩ := q; exact ⟨q0, q1, qP, va_K.moved (u := U) (U := U.calling g mk a) (Vm.Alike.refl U.vm) qK, qD⟩, va_recv (q0 := 0) (ci := 0) hKc hPc rfl rfl, fun U hU hW => ⟨rfl, by rw [hU], by rw [hU]; exact hPc, va_K.moved hW.alike hKc, hDc.weaken (fun _ _ _ _ => trivial)⟩⟩ rfl rfl hl.1 rfl (lv_room (Nat.le_of_ble_eq_true rfl)) dL_skip_3 ⟨Nat.le_of_ble_eq_true rfl, Nat.le_of_ble_eq_true rfl⟩) hS (fun q _ h => hFc q h) hFc (fun r9 u9 t9 H1 locs ht9 hvm9 hw9 hB9 hz9 hk9 hS => ?_)
  obtain ⟨hP1, hD1⟩ := hB9
  rw [ht9] at hP1
  have hw9 : r9 = tw_dues th tm (tw_least th tm ck 100) 100 := hw9
  subst r9
  obtain ⟨hP, hD⟩ := va_join (wr := [(ao, .inl (k4, 1, .inr (.inl ou)))]) (w1 := (tw_wX h0 a0 a1 a2 a3 k0 k1 k2 k3 th tm pr ag (tw_least th tm ck 100) nx)) hP hD [0, 1, 2, 3, 4] [5] rfl rfl (by decide) (by decide) hk9 hFc hP1 hD1
  generalize H1 = H at hP hS ⊢
  have hP := hP.sub (ws' := (tw_wH h0 a0 a1 a2 a3 k0 k1 k2 k3 th tm pr ag (tw_least th tm ck 100) nx ao k4 ou)) [1, 2, 3, 4, 5, 0] rfl
  have hD := hD.sub (ws' := (tw_wH h0 a0 a1 a2 a3 k0 k1 k2 k3 th tm pr ag (tw_least th tm ck 100) nx ao k4 ou)) [1, 2, 3, 4, 5, 0] (by decide) rfl
  refine lv_i2l hx hb dL_skip_6 rfl ?_
  refine va_last hx hb hK hP hD hS 5 4 rfl rfl (by unfold vp_in; decide) dL_skip_7 (fun H locs hP hD hS => ?_)
  have hP : va_P (dC, dI) tw_cl [(h0, .inr (0, [.ref a0, .ref a1, .ref a2, .ref a3, .long (tw_least th tm ck 100), .int nx])), (a0, .inl (k0, 100, .inl th)), (a1, .inl (k1, 100, .inr (.inl tm))), (a2, .inl (k2, 100, .inl pr)), (a3, .inl (k3, 100, .inl ag)), (ao, .inl (k4, 1, .inr (.inl (vp_updL ou (0 : Int32).toNatClampNeg ((tw_dues th tm (tw_least th tm ck 100) 100).toInt64)))))] H := hP
  have hD : va_D A [(h0, .inr (0, [.ref a0, .ref a1, .ref a2, .ref a3, .long (tw_least th tm ck 100), .int nx])), (a0, .inl (k0, 100, .inl th)), (a1, .inl (k1, 100, .inr (.inl tm))), (a2, .inl (k2, 100, .inl pr)), (a3, .inl (k3, 100, .inl ag)), (ao, .inl (k4, 1, .inr (.inl (vp_updL ou (0 : Int32).toNatClampNeg ((tw_dues th tm (tw_least th tm ck 100) 100).toInt64)))))] := hD
  refine lv_goto (tgt := 14) hx hb dL_skip_8 (by decide) ?_
  refine lv_iconst (v := 0) hx hb dL_skip_14 (by decide) ?_
  exact W.iret hx hb hr (fun t ht hW => ⟨⟨_, (), rfl, rfl, by rw [ht]; exact hP, hD⟩, hS.F ht⟩) hS.2.2 dL_skip_15
set_option maxHeartbeats 4000000 in
set_option maxRecDepth 100000 in
theorem cL_skipB (l : Launch) (hfl : l.flags = pinnedFlags ++ [noTraceFlag]) (dC : Nat → ClassId) (dI : Nat → Nat → Nat) (h0 a0 a1 a2 a3 : Nat) (k0 k1 k2 k3 : ClassId) (th : Nat → Int32) (tm : Nat → Int64) (pr ag : Nat → Int32) (ck : Int64) (nx : Int32) (ao : Nat) (k4 : ClassId) (ou : Nat → Int64) (sz : Nat) (hf : tw_least th tm ck 100 = -1) : Met l yL_skip (Cond.codeWith yL_skip bL_skip 3 (some .int) [(0, 8, 11, 19)] :: tw_T) { frames := 8, cells := 1, slots := 6, locals := 160 } (va_Pc [.ref h0, .ref ao] (fun U => U.heap.size = sz ∧ va_P (dC, dI) tw_cl (tw_wH h0 a0 a1 a2 a3 k0 k1 k2 k3 th tm pr ag ck nx ao k4 ou) U.heap ∧ va_K (dC, dI) tw_cl (tw_kH k0 k1 k2 k3 k4) U ∧ va_D (fun _ => True) (tw_wH h0 a0 a1 a2 a3 k0 k1 k2 k3 th tm pr ag ck nx ao k4 ou) ∧ tw_Z U U.heap)) (va_Qi (S := Unit) (fun r _ => r = 1) (fun _ tz => va_P (dC, dI) tw_cl (tw_wH h0 a0 a1 a2 a3 k0 k1 k2 k3 th tm pr ag ck nx ao k4 ou) tz.heap ∧ va_D (va_A (tw_wH h0 a0 a1 a2 a3 k0 k1 k2 k3 th tm pr ag ck nx ao k4 ou) sz) (tw_wH h0 a0 a1 a2 a3 k0 k1 k2 k3 th tm pr ag ck nx ao k4 ou)) (va_A (tw_wH h0 a0 a1 a2 a3 k0 k1 k2 k3 th tm pr ag ck nx ao k4 ou) sz)) 1 6 (va_A (tw_wH h0 a0 a1 a2 a3 k0 k1 k2 k3 th tm pr ag ck nx ao k4 ou) sz) := by
  refine va_MetW (hh := [(0, 8, 11, 19)]) (cc := bL_skip) (maxL := 3) (ret := some .int) (by decide) rfl ?_
  intro p e s m args below meth c s₁ B hml hv
  obtain ⟨rfl, hsz, hP, hK, hD0, hZ⟩ := hv
  have hx := B.exec
  have hb := B.bytes
  have hr := B.returns
  have hts := atoms_spec (ws := Cond.codeWith yL_skip bL_skip 3 (some .int) [(0, 8, 11, 19)] :: tw_T) B.pre
  have hT := fun (w : Cond) (h : w ∈ tw_T) => hts w (List.mem_cons_of_mem _ h)
  have hown : s.vm.findClass RL = some m.cls := findClass_of_methodNamed B.named
  have hlocks := B.notSynchronized
  have hl := lv_entry ([.ref h0, .ref ao]) (n := 3) (Nat.le_of_ble_eq_true rfl)
  rw [lg_entry_eq]
  generalize (lg_sl ([.ref h0, .ref ao]) ++ List.replicate (3 - (lg_sl ([.ref h0, .ref ao])).length) Slot.unset).toArray = ls at hl ⊢
  have hl : lv_has ls 3 [(0, .ref h0), (1, .ref ao)] := hl
  subst hsz
  have hD := hD0.self (sz := s.heap.size)
  generalize hAe : va_A (tw_wH h0 a0 a1 a2 a3 k0 k1 k2 k3 th tm pr ag ck nx ao k4 ou) s.heap.size = A at hD ⊢
  have hA : ∀ q : Nat, s.heap.size ≤ q → A q := fun q h => by rw [← hAe]; exact Or.inr h
  have hS : va_S A s.heap s.heap [] := va_S.rf
  have hPc := hP.sub (ws' := tw_wX h0 a0 a1 a2 a3 k0 k1 k2 k3 th tm pr ag ck nx) [0, 1, 2, 3, 4] rfl
  have hDc := hD.sub (ws' := tw_wX h0 a0 a1 a2 a3 k0 k1 k2 k3 th tm pr ag ck nx) [0, 1, 2, 3, 4] (by decide) rfl
  have hKc := hK.sub (tys' := tw_k k0 k1 k2 k3) [0, 1, 2, 3] rfl
  have hFc := va_free (wc := tw_wX h0 a0 a1 a2 a3 k0 k1 k2 k3 th tm pr ag ck nx) hD hS hA [0, 1, 2, 3, 4] rfl
  have hTab := xt_tableOf (xt_table B (hts _ List.mem_cons_self))
  refine lv_aload_n hx hb dL_skip_0 rfl (lv_at hl 1 rfl) ?_
  refine lv_iconst (v := 0) hx hb dL_skip_1 (by decide) ?_
  refine lv_aload_n hx hb dL_skip_2 rfl (lv_at hl 0 rfl) ?_
  refine xt_call (xt_runV (C := RX) (b := h0) (As := []) (rest := [.int 0, .ref ao]) ⟨hx, hb, hml, hown, hT⟩ (eX_skip l hfl dC dI h0 a0 a1 a2 a3 k0 k1 k2 k3 th tm pr ag ck nx hf) (cwV 0 hT (tw_gV tt_184 tt_185 tt_186 tt_1 tt_187) rfl rfl rfl ⟨rfl, by decide +kernel⟩ ⟨Nat.le_of_ble_eq_true rfl, Nat.le_of_ble_eq_true rfl⟩) ⟨fun a U g mk q => ⟨q.1, ⟨q.2.1.1, va_K.moved (u := U) (U := U.calling g mk a) (Vm.Alike.refl U.vm) q.2.1.2⟩, q.2.2.call⟩, va_recv (q0 := 0) (ci := 0) hKc hPc rfl rfl, fun U hU hW => ⟨rfl, ⟨by rw [hU]; exact hPc, va_K.moved hW.alike hKc⟩, hZ.at hU hW⟩⟩ rfl rfl hl.1 rfl (lv_room (Nat.le_of_ble_eq_true rfl)) dL_skip_3 ⟨Nat.le_of_ble_eq_true rfl, Nat.le_of_ble_eq_true rfl⟩) (fun v st₀ t H1 L _ _ _ _ _ hq => ?_) (fun q9 st₀ t8 H1 L e1 e2 e3 e4 hL hq => ?_)
  · obtain ⟨q2, hq1, -⟩ := hq
    cases hq1
  · obtain ⟨q2, hq1, ⟨ce, hce, hcv, hcc⟩, hz, hk⟩ := hq
    cases hq1
    rw [e1] at hz hk
    rw [e3] at hz hk hce
    rw [e2.findClass] at hcc
    have hP : va_P (dC, dI) tw_cl (tw_wH h0 a0 a1 a2 a3 k0 k1 k2 k3 th tm pr ag ck nx ao k4 ou) H1 := hP.kept (fun k x hx9 => hk x.1 ((hP k x hx9).lt))
    have hS : va_S A s.heap H1 ([] ++ L) := ⟨hz, fun q h1 _ => hk q h1, fun z hz9 => (hL z (by simpa using hz9)).elim⟩
    refine xt_catch1 hown ⟨0, 8, 11, 19⟩ [] (hTab.trans rfl) (by decide) (by decide) (hT _ tt_130) (va_Nw.use rfl hZ.2.2.2.1) hce hcv hcc ?_
    refine W.eq (g2 := F0 m 11 ls [.ref q9]) rfl ?_
    refine lv_astore_n hx hb dL_skip_11 rfl hl (by decide) rfl (fun ls hl => ?_)
    have hl : lv_has ls 3 [(2, .ref q9), (0, .ref h0), (1, .ref ao)] := hl
    refine lv_iconst (v := 1) hx hb dL_skip_12 (by decide) ?_
    exact W.iret hx hb hr (fun t ht hW => ⟨⟨_, (), rfl, rfl, by rw [ht]; exact hP, hD⟩, hS.F ht⟩) hS.2.2 dL_skip_13
set_option maxHeartbeats 4000000 in
set_option maxRecDepth 100000 in
theorem cL_timer0 (l : Launch) (dC : Nat → ClassId) (dI : Nat → Nat → Nat) (h0 a0 a1 a2 a3 : Nat) (k0 k1 k2 k3 : ClassId) (th : Nat → Int32) (tm : Nat → Int64) (pr ag : Nat → Int32) (ck : Int64) (nx : Int32) (ao : Nat) (k4 : ClassId) (ou : Nat → Int64) (sz : Nat) (j : Int32) (hj : vp_in j 100) : Met l yL_timer (Cond.codeWith yL_timer bL_timer 5 (some .int) [(0, 9, 12, 13)] :: tw_T) { frames := 3, cells := 0, slots := 0, locals := 120 } (va_Pc [.ref h0, .int j, .int 0, .ref ao] (fun U => U.heap.size = sz ∧ va_P (dC, dI) tw_cl (tw_wH h0 a0 a1 a2 a3 k0 k1 k2 k3 th tm pr ag ck nx ao k4 ou) U.heap ∧ va_K (dC, dI) tw_cl (tw_kH k0 k1 k2 k3 k4) U ∧ va_D (fun _ => True) (tw_wH h0 a0 a1 a2 a3 k0 k1 k2 k3 th tm pr ag ck nx ao k4 ou))) (va_Qi (S := Unit) (fun r _ => r = 0) (fun _ tz => va_P (dC, dI) tw_cl (tw_wH h0 a0 a1 a2 a3 k0 k1 k2 k3 th tm pr ag ck nx ao k4 (vp_updL ou (0 : Int32).toNatClampNeg (if th j.toNatClampNeg = 0 then 0 else if tw_due th tm ck j = true then 2 else 1))) tz.heap ∧ va_D (va_A (tw_wH h0 a0 a1 a2 a3 k0 k1 k2 k3 th tm pr ag ck nx ao k4 ou) sz) (tw_wH h0 a0 a1 a2 a3 k0 k1 k2 k3 th tm pr ag ck nx ao k4 (vp_updL ou (0 : Int32).toNatClampNeg (if th j.toNatClampNeg = 0 then 0 else if tw_due th tm ck j = true then 2 else 1)))) (va_A (tw_wH h0 a0 a1 a2 a3 k0 k1 k2 k3 th tm pr ag ck nx ao k4 ou) sz)) 0 0 (va_A (tw_wH h0 a0 a1 a2 a3 k0 k1 k2 k3 th tm pr ag ck nx ao k4 ou) sz) := by
  refine va_MetW (hh := [(0, 9, 12, 13)]) (cc := bL_timer) (maxL := 5) (ret := some .int) (by decide) rfl ?_
  intro p e s m args below meth c s₁ B hml hv
  obtain ⟨rfl, hsz, hP, hK, hD0⟩ := hv
  have hx := B.exec
  have hb := B.bytes
  have hr := B.returns
  have hts := atoms_spec (ws := Cond.codeWith yL_timer bL_timer 5 (some .int) [(0, 9, 12, 13)] :: tw_T) B.pre
  have hT := fun (w : Cond) (h : w ∈ tw_T) => hts w (List.mem_cons_of_mem _ h)
  have hown : s.vm.findClass RL = some m.cls := findClass_of_methodNamed B.named
  have hlocks := B.notSynchronized
  have hl := lv_entry ([.ref h0, .int j, .int 0, .ref ao]) (n := 5) (Nat.le_of_ble_eq_true rfl)
  rw [lg_entry_eq]
  generalize (lg_sl ([.ref h0, .int j, .int 0, .ref ao]) ++ List.replicate (5 - (lg_sl ([.ref h0, .int j, .int 0, .ref ao])).length) Slot.unset).toArray = ls at hl ⊢
  have hl : lv_has ls 5 [(0, .ref h0), (1, .int j), (2, .int 0), (3, .ref ao)] := hl
  subst hsz
  have hD := hD0.self (sz := s.heap.size)
  generalize hAe : va_A (tw_wH h0 a0 a1 a2 a3 k0 k1 k2 k3 th tm pr ag ck nx ao k4 ou) s.heap.size = A at hD ⊢
  have hA : ∀ q : Nat, s.heap.size ≤ q → A q := fun q h => by rw [← hAe]; exact Or.inr h
  have hS : va_S A s.heap s.heap [] := va_S.rf
  have hPc := hP.sub (ws' := tw_wX h0 a0 a1 a2 a3 k0 k1 k2 k3 th tm pr ag ck nx) [0, 1, 2, 3, 4] rfl
  have hDc := hD.sub (ws' := tw_wX h0 a0 a1 a2 a3 k0 k1 k2 k3 th tm pr ag ck nx) [0, 1, 2, 3, 4] (by decide) rfl
  have hKc := hK.sub (tys' := tw_k k0 k1 k2 k3) [0, 1, 2, 3] rfl
  have hFc := va_free (wc := tw_wX h0 a0 a1 a2 a3 k0 k1 k2 k3 th tm pr ag ck nx) hD hS hA [0, 1, 2, 3, 4] rfl
  refine lv_aload_n hx hb dL_timer_0 rfl (lv_at hl 3 rfl) ?_
  refine lv_iconst (v := 0) hx hb dL_timer_1 (by decide) ?_
  refine lv_aload_n hx hb dL_timer_2 rfl (lv_at hl 0 rfl) ?_
  refine lv_iload_n hx hb dL_timer_3 rfl (lv_at hl 1 rfl) ?_
  refine lv_iload_n hx hb dL_timer_4 rfl (lv_at hl 2 rfl) ?_
  refine vp_callSl (W.runV (C := RX) (b := h0) (As := [.int j, .int 0]) (rest := [.int 0, .ref ao]) ⟨hx, hb, hml, hown, hT⟩ (cX_timer0 l dC dI h0 a0 a1 a2 a3 k0 k1 k2 k3 th tm pr ag ck nx j hj) (cwV 2 hT (tw_gV tt_193 tt_194 tt_195 tt_1 tt_196) rfl rfl rfl ⟨rfl, by decide +kernel⟩ ⟨Nat.le_of_ble_eq_true rfl, Nat.le_of_ble_eq_true rfl⟩) ⟨fun a U g mk q => ⟨q.1, q.2.1, va_K.moved (u := U) (U := U.calling g mk a) (Vm.Alike.refl U.vm) q.2.2⟩, va_recv (q0 := 0) (ci := 0) hKc hPc rfl rfl, fun U hU hW => ⟨rfl, by rw [hU]; exact hPc, va_K.moved hW.alike hKc⟩⟩ rfl rfl hl.1 rfl (lv_room (Nat.le_of_ble_eq_true rfl)) dL_timer_5 ⟨Nat.le_of_ble_eq_true rfl, Nat.le_of_ble_eq_true rfl⟩) (fun r9 h9 => ?_)
  subst r9
  refine va_last hx hb hK hP hD hS 5 4 rfl rfl (by unfold vp_in; decide) dL_timer_8 (fun H locs hP hD hS => ?_)
  have hP : va_P (dC, dI) tw_cl [(h0, .inr (0, [.ref a0, .ref a1, .ref a2, .ref a3, .long ck, .int nx])), (a0, .inl (k0, 100, .inl th)), (a1, .inl (k1, 100, .inr (.inl tm))), (a2, .inl (k2, 100, .inl pr)), (a3, .inl (k3, 100, .inl ag)), (ao, .inl (k4, 1, .inr (.inl (vp_updL ou (0 : Int32).toNatClampNeg (if th j.toNatClampNeg = 0 then 0 else if tw_due th tm ck j = true then 2 else 1)))))] H := hP
  have hD : va_D A [(h0, .inr (0, [.ref a0, .ref a1, .ref a2, .ref a3, .long ck, .int nx])), (a0, .inl (k0, 100, .inl th)), (a1, .inl (k1, 100, .inr (.inl tm))), (a2, .inl (k2, 100, .inl pr)), (a3, .inl (k3, 100, .inl ag)), (ao, .inl (k4, 1, .inr (.inl (vp_updL ou (0 : Int32).toNatClampNeg (if th j.toNatClampNeg = 0 then 0 else if tw_due th tm ck j = true then 2 else 1)))))] := hD
  refine lv_goto (tgt := 16) hx hb dL_timer_9 (by decide) ?_
  refine lv_iconst (v := 0) hx hb dL_timer_16 (by decide) ?_
  exact W.iret hx hb hr (fun t ht hW => ⟨⟨_, (), rfl, rfl, by rw [ht]; exact hP, hD⟩, hS.F ht⟩) hS.2.2 dL_timer_17
set_option maxHeartbeats 4000000 in
set_option maxRecDepth 100000 in
theorem cL_timer1 (l : Launch) (dC : Nat → ClassId) (dI : Nat → Nat → Nat) (h0 a0 a1 a2 a3 : Nat) (k0 k1 k2 k3 : ClassId) (th : Nat → Int32) (tm : Nat → Int64) (pr ag : Nat → Int32) (ck : Int64) (nx : Int32) (ao : Nat) (k4 : ClassId) (ou : Nat → Int64) (sz : Nat) (j : Int32) (hj : vp_in j 100) : Met l yL_timer (Cond.codeWith yL_timer bL_timer 5 (some .int) [(0, 9, 12, 13)] :: tw_T) { frames := 3, cells := 0, slots := 0, locals := 120 } (va_Pc [.ref h0, .int j, .int 1, .ref ao] (fun U => U.heap.size = sz ∧ va_P (dC, dI) tw_cl (tw_wH h0 a0 a1 a2 a3 k0 k1 k2 k3 th tm pr ag ck nx ao k4 ou) U.heap ∧ va_K (dC, dI) tw_cl (tw_kH k0 k1 k2 k3 k4) U ∧ va_D (fun _ => True) (tw_wH h0 a0 a1 a2 a3 k0 k1 k2 k3 th tm pr ag ck nx ao k4 ou))) (va_Qi (S := Unit) (fun r _ => r = 0) (fun _ tz => va_P (dC, dI) tw_cl (tw_wH h0 a0 a1 a2 a3 k0 k1 k2 k3 th tm pr ag ck nx ao k4 (vp_updL ou (0 : Int32).toNatClampNeg (if th j.toNatClampNeg = 0 then 0 else tm j.toNatClampNeg))) tz.heap ∧ va_D (va_A (tw_wH h0 a0 a1 a2 a3 k0 k1 k2 k3 th tm pr ag ck nx ao k4 ou) sz) (tw_wH h0 a0 a1 a2 a3 k0 k1 k2 k3 th tm pr ag ck nx ao k4 (vp_updL ou (0 : Int32).toNatClampNeg (if th j.toNatClampNeg = 0 then 0 else tm j.toNatClampNeg)))) (va_A (tw_wH h0 a0 a1 a2 a3 k0 k1 k2 k3 th tm pr ag ck nx ao k4 ou) sz)) 0 0 (va_A (tw_wH h0 a0 a1 a2 a3 k0 k1 k2 k3 th tm pr ag ck nx ao k4 ou) sz) := by
  refine va_MetW (hh := [(0, 9, 12, 13)]) (cc := bL_timer) (maxL := 5) (ret := some .int) (by decide) rfl ?_
  intro p e s m args below meth c s₁ B hml hv
  obtain ⟨rfl, hsz, hP, hK, hD0⟩ := hv
  have hx := B.exec
  have hb := B.bytes
  have hr := B.returns
  have hts := atoms_spec (ws := Cond.codeWith yL_timer bL_timer 5 (some .int) [(0, 9, 12, 13)] :: tw_T) B.pre
  have hT := fun (w : Cond) (h : w ∈ tw_T) => hts w (List.mem_cons_of_mem _ h)
  have hown : s.vm.findClass RL = some m.cls := findClass_of_methodNamed B.named
  have hlocks := B.notSynchronized
  have hl := lv_entry ([.ref h0, .int j, .int 1, .ref ao]) (n := 5) (Nat.le_of_ble_eq_true rfl)
  rw [lg_entry_eq]
  generalize (lg_sl ([.ref h0, .int j, .int 1, .ref ao]) ++ List.replicate (5 - (lg_sl ([.ref h0, .int j, .int 1, .ref ao])).length) Slot.unset).toArray = ls at hl ⊢
  have hl : lv_has ls 5 [(0, .ref h0), (1, .int j), (2, .int 1), (3, .ref ao)] := hl
  subst hsz
  have hD := hD0.self (sz := s.heap.size)
  generalize hAe : va_A (tw_wH h0 a0 a1 a2 a3 k0 k1 k2 k3 th tm pr ag ck nx ao k4 ou) s.heap.size = A at hD ⊢
  have hA : ∀ q : Nat, s.heap.size ≤ q → A q := fun q h => by rw [← hAe]; exact Or.inr h
  have hS : va_S A s.heap s.heap [] := va_S.rf
  have hPc := hP.sub (ws' := tw_wX h0 a0 a1 a2 a3 k0 k1 k2 k3 th tm pr ag ck nx) [0, 1, 2, 3, 4] rfl
  have hDc := hD.sub (ws' := tw_wX h0 a0 a1 a2 a3 k0 k1 k2 k3 th tm pr ag ck nx) [0, 1, 2, 3, 4] (by decide) rfl
  have hKc := hK.sub (tys' := tw_k k0 k1 k2 k3) [0, 1, 2, 3] rfl
  have hFc := va_free (wc := tw_wX h0 a0 a1 a2 a3 k0 k1 k2 k3 th tm pr ag ck nx) hD hS hA [0, 1, 2, 3, 4] rfl
  refine lv_aload_n hx hb dL_timer_0 rfl (lv_at hl 3 rfl) ?_
  refine lv_iconst (v := 0) hx hb dL_timer_1 (by decide) ?_
  refine lv_aload_n hx hb dL_timer_2 rfl (lv_at hl 0 rfl) ?_
  refine lv_iload_n hx hb dL_timer_3 rfl (lv_at hl 1 rfl) ?_
  refine lv_iload_n hx hb dL_timer_4 rfl (lv_at hl 2 rfl) ?_
  refine vp_callSl (W.runV (C := RX) (b := h0) (As := [.int j, .int 1]) (rest := [.int 0, .ref ao]) ⟨hx, hb, hml, hown, hT⟩ (cX_timer1 l dC dI h0 a0 a1 a2 a3 k0 k1 k2 k3 th tm pr ag ck nx j hj) (cwV 2 hT (tw_gV tt_193 tt_194 tt_195 tt_1 tt_196) rfl rfl rfl ⟨rfl, by decide +kernel⟩ ⟨Nat.le_of_ble_eq_true rfl, Nat.le_of_ble_eq_true rfl⟩) ⟨fun a U g mk q => ⟨q.1, q.2.1, va_K.moved (u := U) (U := U.calling g mk a) (Vm.Alike.refl U.vm) q.2.2⟩, va_recv (q0 := 0) (ci := 0) hKc hPc rfl rfl, fun U hU hW => ⟨rfl, by rw [hU]; exact hPc, va_K.moved hW.alike hKc⟩⟩ rfl rfl hl.1 rfl (lv_room (Nat.le_of_ble_eq_true rfl)) dL_timer_5 ⟨Nat.le_of_ble_eq_true rfl, Nat.le_of_ble_eq_true rfl⟩) (fun r9 h9 => ?_)
  subst r9
  refine va_last hx hb hK hP hD hS 5 4 rfl rfl (by unfold vp_in; decide) dL_timer_8 (fun H locs hP hD hS => ?_)
  have hP : va_P (dC, dI) tw_cl [(h0, .inr (0, [.ref a0, .ref a1, .ref a2, .ref a3, .long ck, .int nx])), (a0, .inl (k0, 100, .inl th)), (a1, .inl (k1, 100, .inr (.inl tm))), (a2, .inl (k2, 100, .inl pr)), (a3, .inl (k3, 100, .inl ag)), (ao, .inl (k4, 1, .inr (.inl (vp_updL ou (0 : Int32).toNatClampNeg (if th j.toNatClampNeg = 0 then 0 else tm j.toNatClampNeg)))))] H := hP
  have hD : va_D A [(h0, .inr (0, [.ref a0, .ref a1, .ref a2, .ref a3, .long ck, .int nx])), (a0, .inl (k0, 100, .inl th)), (a1, .inl (k1, 100, .inr (.inl tm))), (a2, .inl (k2, 100, .inl pr)), (a3, .inl (k3, 100, .inl ag)), (ao, .inl (k4, 1, .inr (.inl (vp_updL ou (0 : Int32).toNatClampNeg (if th j.toNatClampNeg = 0 then 0 else tm j.toNatClampNeg)))))] := hD
  refine lv_goto (tgt := 16) hx hb dL_timer_9 (by decide) ?_
  refine lv_iconst (v := 0) hx hb dL_timer_16 (by decide) ?_
  exact W.iret hx hb hr (fun t ht hW => ⟨⟨_, (), rfl, rfl, by rw [ht]; exact hP, hD⟩, hS.F ht⟩) hS.2.2 dL_timer_17
set_option maxHeartbeats 4000000 in
set_option maxRecDepth 100000 in
theorem cL_timer2 (l : Launch) (dC : Nat → ClassId) (dI : Nat → Nat → Nat) (h0 a0 a1 a2 a3 : Nat) (k0 k1 k2 k3 : ClassId) (th : Nat → Int32) (tm : Nat → Int64) (pr ag : Nat → Int32) (ck : Int64) (nx : Int32) (ao : Nat) (k4 : ClassId) (ou : Nat → Int64) (sz : Nat) (j : Int32) (hj : vp_in j 100) : Met l yL_timer (Cond.codeWith yL_timer bL_timer 5 (some .int) [(0, 9, 12, 13)] :: tw_T) { frames := 3, cells := 0, slots := 0, locals := 120 } (va_Pc [.ref h0, .int j, .int 2, .ref ao] (fun U => U.heap.size = sz ∧ va_P (dC, dI) tw_cl (tw_wH h0 a0 a1 a2 a3 k0 k1 k2 k3 th tm pr ag ck nx ao k4 ou) U.heap ∧ va_K (dC, dI) tw_cl (tw_kH k0 k1 k2 k3 k4) U ∧ va_D (fun _ => True) (tw_wH h0 a0 a1 a2 a3 k0 k1 k2 k3 th tm pr ag ck nx ao k4 ou))) (va_Qi (S := Unit) (fun r _ => r = 0) (fun _ tz => va_P (dC, dI) tw_cl (tw_wH h0 a0 a1 a2 a3 k0 k1 k2 k3 th tm pr ag ck nx ao k4 (vp_updL ou (0 : Int32).toNatClampNeg (if th j.toNatClampNeg = 0 then 0 else (pr j.toNatClampNeg).toInt64))) tz.heap ∧ va_D (va_A (tw_wH h0 a0 a1 a2 a3 k0 k1 k2 k3 th tm pr ag ck nx ao k4 ou) sz) (tw_wH h0 a0 a1 a2 a3 k0 k1 k2 k3 th tm pr ag ck nx ao k4 (vp_updL ou (0 : Int32).toNatClampNeg (if th j.toNatClampNeg = 0 then 0 else (pr j.toNatClampNeg).toInt64)))) (va_A (tw_wH h0 a0 a1 a2 a3 k0 k1 k2 k3 th tm pr ag ck nx ao k4 ou) sz)) 0 0 (va_A (tw_wH h0 a0 a1 a2 a3 k0 k1 k2 k3 th tm pr ag ck nx ao k4 ou) sz) := by
  refine va_MetW (hh := [(0, 9, 12, 13)]) (cc := bL_timer) (maxL := 5) (ret := some .int) (by decide) rfl ?_
  intro p e s m args below meth c s₁ B hml hv
  obtain ⟨rfl, hsz, hP, hK, hD0⟩ := hv
  have hx := B.exec
  have hb := B.bytes
  have hr := B.returns
  have hts := atoms_spec (ws := Cond.codeWith yL_timer bL_timer 5 (some .int) [(0, 9, 12, 13)] :: tw_T) B.pre
  have hT := fun (w : Cond) (h : w ∈ tw_T) => hts w (List.mem_cons_of_mem _ h)
  have hown : s.vm.findClass RL = some m.cls := findClass_of_methodNamed B.named
  have hlocks := B.notSynchronized
  have hl := lv_entry ([.ref h0, .int j, .int 2, .ref ao]) (n := 5) (Nat.le_of_ble_eq_true rfl)
  rw [lg_entry_eq]
  generalize (lg_sl ([.ref h0, .int j, .int 2, .ref ao]) ++ List.replicate (5 - (lg_sl ([.ref h0, .int j, .int 2, .ref ao])).length) Slot.unset).toArray = ls at hl ⊢
  have hl : lv_has ls 5 [(0, .ref h0), (1, .int j), (2, .int 2), (3, .ref ao)] := hl
  subst hsz
  have hD := hD0.self (sz := s.heap.size)
  generalize hAe : va_A (tw_wH h0 a0 a1 a2 a3 k0 k1 k2 k3 th tm pr ag ck nx ao k4 ou) s.heap.size = A at hD ⊢
  have hA : ∀ q : Nat, s.heap.size ≤ q → A q := fun q h => by rw [← hAe]; exact Or.inr h
  have hS : va_S A s.heap s.heap [] := va_S.rf
  have hPc := hP.sub (ws' := tw_wX h0 a0 a1 a2 a3 k0 k1 k2 k3 th tm pr ag ck nx) [0, 1, 2, 3, 4] rfl
  have hDc := hD.sub (ws' := tw_wX h0 a0 a1 a2 a3 k0 k1 k2 k3 th tm pr ag ck nx) [0, 1, 2, 3, 4] (by decide) rfl
  have hKc := hK.sub (tys' := tw_k k0 k1 k2 k3) [0, 1, 2, 3] rfl
  have hFc := va_free (wc := tw_wX h0 a0 a1 a2 a3 k0 k1 k2 k3 th tm pr ag ck nx) hD hS hA [0, 1, 2, 3, 4] rfl
  refine lv_aload_n hx hb dL_timer_0 rfl (lv_at hl 3 rfl) ?_
  refine lv_iconst (v := 0) hx hb dL_timer_1 (by decide) ?_
  refine lv_aload_n hx hb dL_timer_2 rfl (lv_at hl 0 rfl) ?_
  refine lv_iload_n hx hb dL_timer_3 rfl (lv_at hl 1 rfl) ?_
  refine lv_iload_n hx hb dL_timer_4 rfl (lv_at hl 2 rfl) ?_
  refine vp_callSl (W.runV (C := RX) (b := h0) (As := [.int j, .int 2]) (rest := [.int 0, .ref ao]) ⟨hx, hb, hml, hown, hT⟩ (cX_timer2 l dC dI h0 a0 a1 a2 a3 k0 k1 k2 k3 th tm pr ag ck nx j hj) (cwV 2 hT (tw_gV tt_193 tt_194 tt_195 tt_1 tt_196) rfl rfl rfl ⟨rfl, by decide +kernel⟩ ⟨Nat.le_of_ble_eq_true rfl, Nat.le_of_ble_eq_true rfl⟩) ⟨fun a U g mk q => ⟨q.1, q.2.1, va_K.moved (u := U) (U := U.calling g mk a) (Vm.Alike.refl U.vm) q.2.2⟩, va_recv (q0 := 0) (ci := 0) hKc hPc rfl rfl, fun U hU hW => ⟨rfl, by rw [hU]; exact hPc, va_K.moved hW.alike hKc⟩⟩ rfl rfl hl.1 rfl (lv_room (Nat.le_of_ble_eq_true rfl)) dL_timer_5 ⟨Nat.le_of_ble_eq_true rfl, Nat.le_of_ble_eq_true rfl⟩) (fun r9 h9 => ?_)
  subst r9
  refine va_last hx hb hK hP hD hS 5 4 rfl rfl (by unfold vp_in; decide) dL_timer_8 (fun H locs hP hD hS => ?_)
  have hP : va_P (dC, dI) tw_cl [(h0, .inr (0, [.ref a0, .ref a1, .ref a2, .ref a3, .long ck, .int nx])), (a0, .inl (k0, 100, .inl th)), (a1, .inl (k1, 100, .inr (.inl tm))), (a2, .inl (k2, 100, .inl pr)), (a3, .inl (k3, 100, .inl ag)), (ao, .inl (k4, 1, .inr (.inl (vp_updL ou (0 : Int32).toNatClampNeg (if th j.toNatClampNeg = 0 then 0 else (pr j.toNatClampNeg).toInt64)))))] H := hP
  have hD : va_D A [(h0, .inr (0, [.ref a0, .ref a1, .ref a2, .ref a3, .long ck, .int nx])), (a0, .inl (k0, 100, .inl th)), (a1, .inl (k1, 100, .inr (.inl tm))), (a2, .inl (k2, 100, .inl pr)), (a3, .inl (k3, 100, .inl ag)), (ao, .inl (k4, 1, .inr (.inl (vp_updL ou (0 : Int32).toNatClampNeg (if th j.toNatClampNeg = 0 then 0 else (pr j.toNatClampNeg).toInt64)))))] := hD
  refine lv_goto (tgt := 16) hx hb dL_timer_9 (by decide) ?_
  refine lv_iconst (v := 0) hx hb dL_timer_16 (by decide) ?_
  exact W.iret hx hb hr (fun t ht hW => ⟨⟨_, (), rfl, rfl, by rw [ht]; exact hP, hD⟩, hS.F ht⟩) hS.2.2 dL_timer_17
set_option maxHeartbeats 4000000 in
set_option maxRecDepth 100000 in
theorem cL_timer3 (l : Launch) (dC : Nat → ClassId) (dI : Nat → Nat → Nat) (h0 a0 a1 a2 a3 : Nat) (k0 k1 k2 k3 : ClassId) (th : Nat → Int32) (tm : Nat → Int64) (pr ag : Nat → Int32) (ck : Int64) (nx : Int32) (ao : Nat) (k4 : ClassId) (ou : Nat → Int64) (sz : Nat) (j : Int32) (hj : vp_in j 100) : Met l yL_timer (Cond.codeWith yL_timer bL_timer 5 (some .int) [(0, 9, 12, 13)] :: tw_T) { frames := 3, cells := 0, slots := 0, locals := 120 } (va_Pc [.ref h0, .int j, .int 3, .ref ao] (fun U => U.heap.size = sz ∧ va_P (dC, dI) tw_cl (tw_wH h0 a0 a1 a2 a3 k0 k1 k2 k3 th tm pr ag ck nx ao k4 ou) U.heap ∧ va_K (dC, dI) tw_cl (tw_kH k0 k1 k2 k3 k4) U ∧ va_D (fun _ => True) (tw_wH h0 a0 a1 a2 a3 k0 k1 k2 k3 th tm pr ag ck nx ao k4 ou))) (va_Qi (S := Unit) (fun r _ => r = 0) (fun _ tz => va_P (dC, dI) tw_cl (tw_wH h0 a0 a1 a2 a3 k0 k1 k2 k3 th tm pr ag ck nx ao k4 (vp_updL ou (0 : Int32).toNatClampNeg (if th j.toNatClampNeg = 0 then 0 else (ag j.toNatClampNeg).toInt64))) tz.heap ∧ va_D (va_A (tw_wH h0 a0 a1 a2 a3 k0 k1 k2 k3 th tm pr ag ck nx ao k4 ou) sz) (tw_wH h0 a0 a1 a2 a3 k0 k1 k2 k3 th tm pr ag ck nx ao k4 (vp_updL ou (0 : Int32).toNatClampNeg (if th j.toNatClampNeg = 0 then 0 else (ag j.toNatClampNeg).toInt64)))) (va_A (tw_wH h0 a0 a1 a2 a3 k0 k1 k2 k3 th tm pr ag ck nx ao k4 ou) sz)) 0 0 (va_A (tw_wH h0 a0 a1 a2 a3 k0 k1 k2 k3 th tm pr ag ck nx ao k4 ou) sz) := by
  refine va_MetW (hh := [(0, 9, 12, 13)]) (cc := bL_timer) (maxL := 5) (ret := some .int) (by decide) rfl ?_
  intro p e s m args below meth c s₁ B hml hv
  obtain ⟨rfl, hsz, hP, hK, hD0⟩ := hv
  have hx := B.exec
  have hb := B.bytes
  have hr := B.returns
  have hts := atoms_spec (ws := Cond.codeWith yL_timer bL_timer 5 (some .int) [(0, 9, 12, 13)] :: tw_T) B.pre
  have hT := fun (w : Cond) (h : w ∈ tw_T) => hts w (List.mem_cons_of_mem _ h)
  have hown : s.vm.findClass RL = some m.cls := findClass_of_methodNamed B.named
  have hlocks := B.notSynchronized
  have hl := lv_entry ([.ref h0, .int j, .int 3, .ref ao]) (n := 5) (Nat.le_of_ble_eq_true rfl)
  rw [lg_entry_eq]
  generalize (lg_sl ([.ref h0, .int j, .int 3, .ref ao]) ++ List.replicate (5 - (lg_sl ([.ref h0, .int j, .int 3, .ref ao])).length) Slot.unset).toArray = ls at hl ⊢
  have hl : lv_has ls 5 [(0, .ref h0), (1, .int j), (2, .int 3), (3, .ref ao)] := hl
  subst hsz
  have hD := hD0.self (sz := s.heap.size)
  generalize hAe : va_A (tw_wH h0 a0 a1 a2 a3 k0 k1 k2 k3 th tm pr ag ck nx ao k4 ou) s.heap.size = A at hD ⊢
  have hA : ∀ q : Nat, s.heap.size ≤ q → A q := fun q h => by rw [← hAe]; exact Or.inr h
  have hS : va_S A s.heap s.heap [] := va_S.rf
  have hPc := hP.sub (ws' := tw_wX h0 a0 a1 a2 a3 k0 k1 k2 k3 th tm pr ag ck nx) [0, 1, 2, 3, 4] rfl
  have hDc := hD.sub (ws' := tw_wX h0 a0 a1 a2 a3 k0 k1 k2 k3 th tm pr ag ck nx) [0, 1, 2, 3, 4] (by decide) rfl
  have hKc := hK.sub (tys' := tw_k k0 k1 k2 k3) [0, 1, 2, 3] rfl
  have hFc := va_free (wc := tw_wX h0 a0 a1 a2 a3 k0 k1 k2 k3 th tm pr ag ck nx) hD hS hA [0, 1, 2, 3, 4] rfl
  refine lv_aload_n hx hb dL_timer_0 rfl (lv_at hl 3 rfl) ?_
  refine lv_iconst (v := 0) hx hb dL_timer_1 (by decide) ?_
  refine lv_aload_n hx hb dL_timer_2 rfl (lv_at hl 0 rfl) ?_
  refine lv_iload_n hx hb dL_timer_3 rfl (lv_at hl 1 rfl) ?_
  refine lv_iload_n hx hb dL_timer_4 rfl (lv_at hl 2 rfl) ?_
  refine vp_callSl (W.runV (C := RX) (b := h0) (As := [.int j, .int 3]) (rest := [.int 0, .ref ao]) ⟨hx, hb, hml, hown, hT⟩ (cX_timer3 l dC dI h0 a0 a1 a2 a3 k0 k1 k2 k3 th tm pr ag ck nx j hj) (cwV 2 hT (tw_gV tt_193 tt_194 tt_195 tt_1 tt_196) rfl rfl rfl ⟨rfl, by decide +kernel⟩ ⟨Nat.le_of_ble_eq_true rfl, Nat.le_of_ble_eq_true rfl⟩) ⟨fun a U g mk q => ⟨q.1, q.2.1, va_K.moved (u := U) (U := U.calling g mk a) (Vm.Alike.refl U.vm) q.2.2⟩, va_recv (q0 := 0) (ci := 0) hKc hPc rfl rfl, fun U hU hW => ⟨rfl, by rw [hU]; exact hPc, va_K.moved hW.alike hKc⟩⟩ rfl rfl hl.1 rfl (lv_room (Nat.le_of_ble_eq_true rfl)) dL_timer_5 ⟨Nat.le_of_ble_eq_true rfl, Nat.le_of_ble_eq_true rfl⟩) (fun r9 h9 => ?_)
  subst r9
  refine va_last hx hb hK hP hD hS 5 4 rfl rfl (by unfold vp_in; decide) dL_timer_8 (fun H locs hP hD hS => ?_)
  have hP : va_P (dC, dI) tw_cl [(h0, .inr (0, [.ref a0, .ref a1, .ref a2, .ref a3, .long ck, .int nx])), (a0, .inl (k0, 100, .inl th)), (a1, .inl (k1, 100, .inr (.inl tm))), (a2, .inl (k2, 100, .inl pr)), (a3, .inl (k3, 100, .inl ag)), (ao, .inl (k4, 1, .inr (.inl (vp_updL ou (0 : Int32).toNatClampNeg (if th j.toNatClampNeg = 0 then 0 else (ag j.toNatClampNeg).toInt64)))))] H := hP
  have hD : va_D A [(h0, .inr (0, [.ref a0, .ref a1, .ref a2, .ref a3, .long ck, .int nx])), (a0, .inl (k0, 100, .inl th)), (a1, .inl (k1, 100, .inr (.inl tm))), (a2, .inl (k2, 100, .inl pr)), (a3, .inl (k3, 100, .inl ag)), (ao, .inl (k4, 1, .inr (.inl (vp_updL ou (0 : Int32).toNatClampNeg (if th j.toNatClampNeg = 0 then 0 else (ag j.toNatClampNeg).toInt64)))))] := hD
  refine lv_goto (tgt := 16) hx hb dL_timer_9 (by decide) ?_
  refine lv_iconst (v := 0) hx hb dL_timer_16 (by decide) ?_
  exact W.iret hx hb hr (fun t ht hW => ⟨⟨_, (), rfl, rfl, by rw [ht]; exact hP, hD⟩, hS.F ht⟩) hS.2.2 dL_timer_17
set_option maxHeartbeats 4000000 in
set_option maxRecDepth 100000 in
theorem cL_timerB (l : Launch) (hfl : l.flags = pinnedFlags ++ [noTraceFlag]) (dC : Nat → ClassId) (dI : Nat → Nat → Nat) (h0 a0 a1 a2 a3 : Nat) (k0 k1 k2 k3 : ClassId) (th : Nat → Int32) (tm : Nat → Int64) (pr ag : Nat → Int32) (ck : Int64) (nx : Int32) (ao : Nat) (k4 : ClassId) (ou : Nat → Int64) (sz : Nat) (j k : Int32) (hbad : ¬ (vp_in j 100 ∧ ¬ k < 0 ∧ k ≤ 3)) : Met l yL_timer (Cond.codeWith yL_timer bL_timer 5 (some .int) [(0, 9, 12, 13)] :: tw_T) { frames := 8, cells := 1, slots := 6, locals := 160 } (va_Pc [.ref h0, .int j, .int k, .ref ao] (fun U => U.heap.size = sz ∧ va_P (dC, dI) tw_cl (tw_wH h0 a0 a1 a2 a3 k0 k1 k2 k3 th tm pr ag ck nx ao k4 ou) U.heap ∧ va_K (dC, dI) tw_cl (tw_kH k0 k1 k2 k3 k4) U ∧ va_D (fun _ => True) (tw_wH h0 a0 a1 a2 a3 k0 k1 k2 k3 th tm pr ag ck nx ao k4 ou) ∧ tw_Z U U.heap)) (va_Qi (S := Unit) (fun r _ => r = 1) (fun _ tz => va_P (dC, dI) tw_cl (tw_wH h0 a0 a1 a2 a3 k0 k1 k2 k3 th tm pr ag ck nx ao k4 ou) tz.heap ∧ va_D (va_A (tw_wH h0 a0 a1 a2 a3 k0 k1 k2 k3 th tm pr ag ck nx ao k4 ou) sz) (tw_wH h0 a0 a1 a2 a3 k0 k1 k2 k3 th tm pr ag ck nx ao k4 ou)) (va_A (tw_wH h0 a0 a1 a2 a3 k0 k1 k2 k3 th tm pr ag ck nx ao k4 ou) sz)) 1 6 (va_A (tw_wH h0 a0 a1 a2 a3 k0 k1 k2 k3 th tm pr ag ck nx ao k4 ou) sz) := by
  refine va_MetW (hh := [(0, 9, 12, 13)]) (cc := bL_timer) (maxL := 5) (ret := some .int) (by decide) rfl ?_
  intro p e s m args below meth c s₁ B hml hv
  obtain ⟨rfl, hsz, hP, hK, hD0, hZ⟩ := hv
  have hx := B.exec
  have hb := B.bytes
  have hr := B.returns
  have hts := atoms_spec (ws := Cond.codeWith yL_timer bL_timer 5 (some .int) [(0, 9, 12, 13)] :: tw_T) B.pre
  have hT := fun (w : Cond) (h : w ∈ tw_T) => hts w (List.mem_cons_of_mem _ h)
  have hown : s.vm.findClass RL = some m.cls := findClass_of_methodNamed B.named
  have hlocks := B.notSynchronized
  have hl := lv_entry ([.ref h0, .int j, .int k, .ref ao]) (n := 5) (Nat.le_of_ble_eq_true rfl)
  rw [lg_entry_eq]
  generalize (lg_sl ([.ref h0, .int j, .int k, .ref ao]) ++ List.replicate (5 - (lg_sl ([.ref h0, .int j, .int k, .ref ao])).length) Slot.unset).toArray = ls at hl ⊢
  have hl : lv_has ls 5 [(0, .ref h0), (1, .int j), (2, .int k), (3, .ref ao)] := hl
  subst hsz
  have hD := hD0.self (sz := s.heap.size)
  generalize hAe : va_A (tw_wH h0 a0 a1 a2 a3 k0 k1 k2 k3 th tm pr ag ck nx ao k4 ou) s.heap.size = A at hD ⊢
  have hA : ∀ q : Nat, s.heap.size ≤ q → A q := fun q h => by rw [← hAe]; exact Or.inr h
  have hS : va_S A s.heap s.heap [] := va_S.rf
  have hPc := hP.sub (ws' := tw_wX h0 a0 a1 a2 a3 k0 k1 k2 k3 th tm pr ag ck nx) [0, 1, 2, 3, 4] rfl
  have hDc := hD.sub (ws' := tw_wX h0 a0 a1 a2 a3 k0 k1 k2 k3 th tm pr ag ck nx) [0, 1, 2, 3, 4] (by decide) rfl
  have hKc := hK.sub (tys' := tw_k k0 k1 k2 k3) [0, 1, 2, 3] rfl
  have hFc := va_free (wc := tw_wX h0 a0 a1 a2 a3 k0 k1 k2 k3 th tm pr ag ck nx) hD hS hA [0, 1, 2, 3, 4] rfl
  have hTab := xt_tableOf (xt_table B (hts _ List.mem_cons_self))
  refine lv_aload_n hx hb dL_timer_0 rfl (lv_at hl 3 rfl) ?_
  refine lv_iconst (v := 0) hx hb dL_timer_1 (by decide) ?_
  refine lv_aload_n hx hb dL_timer_2 rfl (lv_at hl 0 rfl) ?_
  refine lv_iload_n hx hb dL_timer_3 rfl (lv_at hl 1 rfl) ?_
  refine lv_iload_n hx hb dL_timer_4 rfl (lv_at hl 2 rfl) ?_
  refine xt_call (xt_runV (C := RX) (b := h0) (As := [.int j, .int k]) (rest := [.int 0, .ref ao]) ⟨hx, hb, hml, hown, hT⟩ (eX_timer l hfl dC dI h0 a0 a1 a2 a3 k0 k1 k2 k3 th tm pr ag ck nx j k hbad) (cwV 2 hT (tw_gV tt_193 tt_194 tt_195 tt_1 tt_196) rfl rfl rfl ⟨rfl, by decide +kernel⟩ ⟨Nat.le_of_ble_eq_true rfl, Nat.le_of_ble_eq_true rfl⟩) ⟨fun a U g mk q => ⟨q.1, ⟨q.2.1.1, va_K.moved (u := U) (U := U.calling g mk a) (Vm.Alike.refl U.vm) q.2.1.2⟩, q.2.2.call⟩, va_recv (q0 := 0) (ci := 0) hKc hPc rfl rfl, fun U hU hW => ⟨rfl, ⟨by rw [hU]; exact hPc, va_K.moved hW.alike hKc⟩, hZ.at hU hW⟩⟩ rfl rfl hl.1 rfl (lv_room (Nat.le_of_ble_eq_true rfl)) dL_timer_5 ⟨Nat.le_of_ble_eq_true rfl, Nat.le_of_ble_eq_true rfl⟩) (fun v st₀ t H1 L _ _ _ _ _ hq => ?_) (fun q9 st₀ t8 H1 L e1 e2 e3 e4 hL hq => ?_)
  · obtain ⟨q2, hq1, -⟩ := hq
    cases hq1
  · obtain ⟨q2, hq1, ⟨ce, hce, hcv, hcc⟩, hz, hk⟩ := hq
    cases hq1
    rw [e1] at hz hk
    rw [e3] at hz hk hce
    rw [e2.findClass] at hcc
    have hP : va_P (dC, dI) tw_cl (tw_wH h0 a0 a1 a2 a3 k0 k1 k2 k3 th tm pr ag ck nx ao k4 ou) H1 := hP.kept (fun k x hx9 => hk x.1 ((hP k x hx9).lt))
    have hS : va_S A s.heap H1 ([] ++ L) := ⟨hz, fun q h1 _ => hk q h1, fun z hz9 => (hL z (by simpa using hz9)).elim⟩
    refine xt_catch1 hown ⟨0, 9, 12, 13⟩ [] (hTab.trans rfl) (by decide) (by decide) (hT _ tt_50) (va_Nw.use rfl hZ.2.2.1) hce hcv hcc ?_
    refine W.eq (g2 := F0 m 12 ls [.ref q9]) rfl ?_
    refine lv_astore hx hb dL_timer_12 hl (by decide) rfl (fun ls hl => ?_)
    have hl : lv_has ls 5 [(4, .ref q9), (0, .ref h0), (1, .int j), (2, .int k), (3, .ref ao)] := hl
    refine lv_iconst (v := 1) hx hb dL_timer_14 (by decide) ?_
    exact W.iret hx hb hr (fun t ht hW => ⟨⟨_, (), rfl, rfl, by rw [ht]; exact hP, hD⟩, hS.F ht⟩) hS.2.2 dL_timer_15
set_option maxHeartbeats 4000000 in
set_option maxRecDepth 100000 in
theorem cL_count0 (l : Launch) (dC : Nat → ClassId) (dI : Nat → Nat → Nat) (h0 a0 a1 a2 a3 : Nat) (k0 k1 k2 k3 : ClassId) (th : Nat → Int32) (tm : Nat → Int64) (pr ag : Nat → Int32) (ck : Int64) (nx : Int32) (ao : Nat) (k4 : ClassId) (ou : Nat → Int64) (sz : Nat)  : Met l yL_count (Cond.codeWith yL_count bL_count 4 (some .int) [(0, 8, 11, 13)] :: tw_T) { frames := 3, cells := 0, slots := 0, locals := 120 } (va_Pc [.ref h0, .int 0, .ref ao] (fun U => U.heap.size = sz ∧ va_P (dC, dI) tw_cl (tw_wH h0 a0 a1 a2 a3 k0 k1 k2 k3 th tm pr ag ck nx ao k4 ou) U.heap ∧ va_K (dC, dI) tw_cl (tw_kH k0 k1 k2 k3 k4) U ∧ va_D (fun _ => True) (tw_wH h0 a0 a1 a2 a3 k0 k1 k2 k3 th tm pr ag ck nx ao k4 ou))) (va_Qi (S := Unit) (fun r _ => r = 0) (fun _ tz => va_P (dC, dI) tw_cl (tw_wH h0 a0 a1 a2 a3 k0 k1 k2 k3 th tm pr ag ck nx ao k4 (vp_updL ou (0 : Int32).toNatClampNeg ck)) tz.heap ∧ va_D (va_A (tw_wH h0 a0 a1 a2 a3 k0 k1 k2 k3 th tm pr ag ck nx ao k4 ou) sz) (tw_wH h0 a0 a1 a2 a3 k0 k1 k2 k3 th tm pr ag ck nx ao k4 (vp_updL ou (0 : Int32).toNatClampNeg ck))) (va_A (tw_wH h0 a0 a1 a2 a3 k0 k1 k2 k3 th tm pr ag ck nx ao k4 ou) sz)) 0 0 (va_A (tw_wH h0 a0 a1 a2 a3 k0 k1 k2 k3 th tm pr ag ck nx ao k4 ou) sz) := by
  refine va_MetW (hh := [(0, 8, 11, 13)]) (cc := bL_count) (maxL := 4) (ret := some .int) (by decide) rfl ?_
  intro p e s m args below meth c s₁ B hml hv
  obtain ⟨rfl, hsz, hP, hK, hD0⟩ := hv
  have hx := B.exec
  have hb := B.bytes
  have hr := B.returns
  have hts := atoms_spec (ws := Cond.codeWith yL_count bL_count 4 (some .int) [(0, 8, 11, 13)] :: tw_T) B.pre
  have hT := fun (w : Cond) (h : w ∈ tw_T) => hts w (List.mem_cons_of_mem _ h)
  have hown : s.vm.findClass RL = some m.cls := findClass_of_methodNamed B.named
  have hlocks := B.notSynchronized
  have hl := lv_entry ([.ref h0, .int 0, .ref ao]) (n := 4) (Nat.le_of_ble_eq_true rfl)
  rw [lg_entry_eq]
  generalize (lg_sl ([.ref h0, .int 0, .ref ao]) ++ List.replicate (4 - (lg_sl ([.ref h0, .int 0, .ref ao])).length) Slot.unset).toArray = ls at hl ⊢
  have hl : lv_has ls 4 [(0, .ref h0), (1, .int 0), (2, .ref ao)] := hl
  subst hsz
  have hD := hD0.self (sz := s.heap.size)
  generalize hAe : va_A (tw_wH h0 a0 a1 a2 a3 k0 k1 k2 k3 th tm pr ag ck nx ao k4 ou) s.heap.size = A at hD ⊢
  have hA : ∀ q : Nat, s.heap.size ≤ q → A q := fun q h => by rw [← hAe]; exact Or.inr h
  have hS : va_S A s.heap s.heap [] := va_S.rf
  have hPc := hP.sub (ws' := tw_wX h0 a0 a1 a2 a3 k0 k1 k2 k3 th tm pr ag ck nx) [0, 1, 2, 3, 4] rfl
  have hDc := hD.sub (ws' := tw_wX h0 a0 a1 a2 a3 k0 k1 k2 k3 th tm pr ag ck nx) [0, 1, 2, 3, 4] (by decide) rfl
  have hKc := hK.sub (tys' := tw_k k0 k1 k2 k3) [0, 1, 2, 3] rfl
  have hFc := va_free (wc := tw_wX h0 a0 a1 a2 a3 k0 k1 k2 k3 th tm pr ag ck nx) hD hS hA [0, 1, 2, 3, 4] rfl
  refine lv_aload_n hx hb dL_count_0 rfl (lv_at hl 2 rfl) ?_
  refine lv_iconst (v := 0) hx hb dL_count_1 (by decide) ?_
  refine lv_aload_n hx hb dL_count_2 rfl (lv_at hl 0 rfl) ?_
  refine lv_iload_n hx hb dL_count_3 rfl (lv_at hl 1 rfl) ?_
  refine vp_callSl (W.runV (C := RX) (b := h0) (As := [.int 0]) (rest := [.int 0, .ref ao]) ⟨hx, hb, hml, hown, hT⟩ (cX_count0 l dC dI h0 a0 a1 a2 a3 k0 k1 k2 k3 th tm pr ag ck nx ) (cwV 1 hT (tw_gV tt_202 tt_203 tt_204 tt_1 tt_205) rfl rfl rfl ⟨rfl, by decide +kernel⟩ ⟨Nat.le_of_ble_eq_true rfl, Nat.le_of_ble_eq_true rfl⟩) ⟨fun a U g mk q => ⟨q.1, q.2.1, va_K.moved (u := U) (U := U.calling g mk a) (Vm.Alike.refl U.vm) q.2.2⟩, va_recv (q0 := 0) (ci := 0) hKc hPc rfl rfl, fun U hU hW => ⟨rfl, by rw [hU]; exact hPc, va_K.moved hW.alike hKc⟩⟩ rfl rfl hl.1 rfl (lv_room (Nat.le_of_ble_eq_true rfl)) dL_count_4 ⟨Nat.le_of_ble_eq_true rfl, Nat.le_of_ble_eq_true rfl⟩) (fun r9 h9 => ?_)
  subst r9
  refine va_last hx hb hK hP hD hS 5 4 rfl rfl (by unfold vp_in; decide) dL_count_7 (fun H locs hP hD hS => ?_)
  have hP : va_P (dC, dI) tw_cl [(h0, .inr (0, [.ref a0, .ref a1, .ref a2, .ref a3, .long ck, .int nx])), (a0, .inl (k0, 100, .inl th)), (a1, .inl (k1, 100, .inr (.inl tm))), (a2, .inl (k2, 100, .inl pr)), (a3, .inl (k3, 100, .inl ag)), (ao, .inl (k4, 1, .inr (.inl (vp_updL ou (0 : Int32).toNatClampNeg ck))))] H := hP
  have hD : va_D A [(h0, .inr (0, [.ref a0, .ref a1, .ref a2, .ref a3, .long ck, .int nx])), (a0, .inl (k0, 100, .inl th)), (a1, .inl (k1, 100, .inr (.inl tm))), (a2, .inl (k2, 100, .inl pr)), (a3, .inl (k3, 100, .inl ag)), (ao, .inl (k4, 1, .inr (.inl (vp_updL ou (0 : Int32).toNatClampNeg ck))))] := hD
  refine lv_goto (tgt := 14) hx hb dL_count_8 (by decide) ?_
  refine lv_iconst (v := 0) hx hb dL_count_14 (by decide) ?_
  exact W.iret hx hb hr (fun t ht hW => ⟨⟨_, (), rfl, rfl, by rw [ht]; exact hP, hD⟩, hS.F ht⟩) hS.2.2 dL_count_15
set_option maxHeartbeats 4000000 in
set_option maxRecDepth 100000 in
theorem cL_count1 (l : Launch) (dC : Nat → ClassId) (dI : Nat → Nat → Nat) (h0 a0 a1 a2 a3 : Nat) (k0 k1 k2 k3 : ClassId) (th : Nat → Int32) (tm : Nat → Int64) (pr ag : Nat → Int32) (ck : Int64) (nx : Int32) (ao : Nat) (k4 : ClassId) (ou : Nat → Int64) (sz : Nat)  : Met l yL_count (Cond.codeWith yL_count bL_count 4 (some .int) [(0, 8, 11, 13)] :: tw_T) { frames := 3, cells := 0, slots := 0, locals := 120 } (va_Pc [.ref h0, .int 1, .ref ao] (fun U => U.heap.size = sz ∧ va_P (dC, dI) tw_cl (tw_wH h0 a0 a1 a2 a3 k0 k1 k2 k3 th tm pr ag ck nx ao k4 ou) U.heap ∧ va_K (dC, dI) tw_cl (tw_kH k0 k1 k2 k3 k4) U ∧ va_D (fun _ => True) (tw_wH h0 a0 a1 a2 a3 k0 k1 k2 k3 th tm pr ag ck nx ao k4 ou))) (va_Qi (S := Unit) (fun r _ => r = 0) (fun _ tz => va_P (dC, dI) tw_cl (tw_wH h0 a0 a1 a2 a3 k0 k1 k2 k3 th tm pr ag ck nx ao k4 (vp_updL ou (0 : Int32).toNatClampNeg ((tw_ther th 100).toInt64))) tz.heap ∧ va_D (va_A (tw_wH h0 a0 a1 a2 a3 k0 k1 k2 k3 th tm pr ag ck nx ao k4 ou) sz) (tw_wH h0 a0 a1 a2 a3 k0 k1 k2 k3 th tm pr ag ck nx ao k4 (vp_updL ou (0 : Int32).toNatClampNeg ((tw_ther th 100).toInt64)))) (va_A (tw_wH h0 a0 a1 a2 a3 k0 k1 k2 k3 th tm pr ag ck nx ao k4 ou) sz)) 0 0 (va_A (tw_wH h0 a0 a1 a2 a3 k0 k1 k2 k3 th tm pr ag ck nx ao k4 ou) sz) := by
  refine va_MetW (hh := [(0, 8, 11, 13)]) (cc := bL_count) (maxL := 4) (ret := some .int) (by decide) rfl ?_
  intro p e s m args below meth c s₁ B hml hv
  obtain ⟨rfl, hsz, hP, hK, hD0⟩ := hv
  have hx := B.exec
  have hb := B.bytes
  have hr := B.returns
  have hts := atoms_spec (ws := Cond.codeWith yL_count bL_count 4 (some .int) [(0, 8, 11, 13)] :: tw_T) B.pre
  have hT := fun (w : Cond) (h : w ∈ tw_T) => hts w (List.mem_cons_of_mem _ h)
  have hown : s.vm.findClass RL = some m.cls := findClass_of_methodNamed B.named
  have hlocks := B.notSynchronized
  have hl := lv_entry ([.ref h0, .int 1, .ref ao]) (n := 4) (Nat.le_of_ble_eq_true rfl)
  rw [lg_entry_eq]
  generalize (lg_sl ([.ref h0, .int 1, .ref ao]) ++ List.replicate (4 - (lg_sl ([.ref h0, .int 1, .ref ao])).length) Slot.unset).toArray = ls at hl ⊢
  have hl : lv_has ls 4 [(0, .ref h0), (1, .int 1), (2, .ref ao)] := hl
  subst hsz
  have hD := hD0.self (sz := s.heap.size)
  generalize hAe : va_A (tw_wH h0 a0 a1 a2 a3 k0 k1 k2 k3 th tm pr ag ck nx ao k4 ou) s.heap.size = A at hD ⊢
  have hA : ∀ q : Nat, s.heap.size ≤ q → A q := fun q h => by rw [← hAe]; exact Or.inr h
  have hS : va_S A s.heap s.heap [] := va_S.rf
  have hPc := hP.sub (ws' := tw_wX h0 a0 a1 a2 a3 k0 k1 k2 k3 th tm pr ag ck nx) [0, 1, 2, 3, 4] rfl
  have hDc := hD.sub (ws' := tw_wX h0 a0 a1 a2 a3 k0 k1 k2 k3 th tm pr ag ck nx) [0, 1, 2, 3, 4] (by decide) rfl
  have hKc := hK.sub (tys' := tw_k k0 k1 k2 k3) [0, 1, 2, 3] rfl
  have hFc := va_free (wc := tw_wX h0 a0 a1 a2 a3 k0 k1 k2 k3 th tm pr ag ck nx) hD hS hA [0, 1, 2, 3, 4] rfl
  refine lv_aload_n hx hb dL_count_0 rfl (lv_at hl 2 rfl) ?_
  refine lv_iconst (v := 0) hx hb dL_count_1 (by decide) ?_
  refine lv_aload_n hx hb dL_count_2 rfl (lv_at hl 0 rfl) ?_
  refine lv_iload_n hx hb dL_count_3 rfl (lv_at hl 1 rfl) ?_
  refine vp_callSl (W.runV (C := RX) (b := h0) (As := [.int 1]) (rest := [.int 0, .ref ao]) ⟨hx, hb, hml, hown, hT⟩ (cX_count1 l dC dI h0 a0 a1 a2 a3 k0 k1 k2 k3 th tm pr ag ck nx ) (cwV 1 hT (tw_gV tt_202 tt_203 tt_204 tt_1 tt_205) rfl rfl rfl ⟨rfl, by decide +kernel⟩ ⟨Nat.le_of_ble_eq_true rfl, Nat.le_of_ble_eq_true rfl⟩) ⟨fun a U g mk q => ⟨q.1, q.2.1, va_K.moved (u := U) (U := U.calling g mk a) (Vm.Alike.refl U.vm) q.2.2⟩, va_recv (q0 := 0) (ci := 0) hKc hPc rfl rfl, fun U hU hW => ⟨rfl, by rw [hU]; exact hPc, va_K.moved hW.alike hKc⟩⟩ rfl rfl hl.1 rfl (lv_room (Nat.le_of_ble_eq_true rfl)) dL_count_4 ⟨Nat.le_of_ble_eq_true rfl, Nat.le_of_ble_eq_true rfl⟩) (fun r9 h9 => ?_)
  subst r9
  refine va_last hx hb hK hP hD hS 5 4 rfl rfl (by unfold vp_in; decide) dL_count_7 (fun H locs hP hD hS => ?_)
  have hP : va_P (dC, dI) tw_cl [(h0, .inr (0, [.ref a0, .ref a1, .ref a2, .ref a3, .long ck, .int nx])), (a0, .inl (k0, 100, .inl th)), (a1, .inl (k1, 100, .inr (.inl tm))), (a2, .inl (k2, 100, .inl pr)), (a3, .inl (k3, 100, .inl ag)), (ao, .inl (k4, 1, .inr (.inl (vp_updL ou (0 : Int32).toNatClampNeg ((tw_ther th 100).toInt64)))))] H := hP
  have hD : va_D A [(h0, .inr (0, [.ref a0, .ref a1, .ref a2, .ref a3, .long ck, .int nx])), (a0, .inl (k0, 100, .inl th)), (a1, .inl (k1, 100, .inr (.inl tm))), (a2, .inl (k2, 100, .inl pr)), (a3, .inl (k3, 100, .inl ag)), (ao, .inl (k4, 1, .inr (.inl (vp_updL ou (0 : Int32).toNatClampNeg ((tw_ther th 100).toInt64)))))] := hD
  refine lv_goto (tgt := 14) hx hb dL_count_8 (by decide) ?_
  refine lv_iconst (v := 0) hx hb dL_count_14 (by decide) ?_
  exact W.iret hx hb hr (fun t ht hW => ⟨⟨_, (), rfl, rfl, by rw [ht]; exact hP, hD⟩, hS.F ht⟩) hS.2.2 dL_count_15
set_option maxHeartbeats 4000000 in
set_option maxRecDepth 100000 in
theorem cL_count2 (l : Launch) (dC : Nat → ClassId) (dI : Nat → Nat → Nat) (h0 a0 a1 a2 a3 : Nat) (k0 k1 k2 k3 : ClassId) (th : Nat → Int32) (tm : Nat → Int64) (pr ag : Nat → Int32) (ck : Int64) (nx : Int32) (ao : Nat) (k4 : ClassId) (ou : Nat → Int64) (sz : Nat)  : Met l yL_count (Cond.codeWith yL_count bL_count 4 (some .int) [(0, 8, 11, 13)] :: tw_T) { frames := 3, cells := 0, slots := 0, locals := 120 } (va_Pc [.ref h0, .int 2, .ref ao] (fun U => U.heap.size = sz ∧ va_P (dC, dI) tw_cl (tw_wH h0 a0 a1 a2 a3 k0 k1 k2 k3 th tm pr ag ck nx ao k4 ou) U.heap ∧ va_K (dC, dI) tw_cl (tw_kH k0 k1 k2 k3 k4) U ∧ va_D (fun _ => True) (tw_wH h0 a0 a1 a2 a3 k0 k1 k2 k3 th tm pr ag ck nx ao k4 ou))) (va_Qi (S := Unit) (fun r _ => r = 0) (fun _ tz => va_P (dC, dI) tw_cl (tw_wH h0 a0 a1 a2 a3 k0 k1 k2 k3 th tm pr ag ck nx ao k4 (vp_updL ou (0 : Int32).toNatClampNeg ((tw_dues th tm ck 100).toInt64))) tz.heap ∧ va_D (va_A (tw_wH h0 a0 a1 a2 a3 k0 k1 k2 k3 th tm pr ag ck nx ao k4 ou) sz) (tw_wH h0 a0 a1 a2 a3 k0 k1 k2 k3 th tm pr ag ck nx ao k4 (vp_updL ou (0 : Int32).toNatClampNeg ((tw_dues th tm ck 100).toInt64)))) (va_A (tw_wH h0 a0 a1 a2 a3 k0 k1 k2 k3 th tm pr ag ck nx ao k4 ou) sz)) 0 0 (va_A (tw_wH h0 a0 a1 a2 a3 k0 k1 k2 k3 th tm pr ag ck nx ao k4 ou) sz) := by
  refine va_MetW (hh := [(0, 8, 11, 13)]) (cc := bL_count) (maxL := 4) (ret := some .int) (by decide) rfl ?_
  intro p e s m args below meth c s₁ B hml hv
  obtain ⟨rfl, hsz, hP, hK, hD0⟩ := hv
  have hx := B.exec
  have hb := B.bytes
  have hr := B.returns
  have hts := atoms_spec (ws := Cond.codeWith yL_count bL_count 4 (some .int) [(0, 8, 11, 13)] :: tw_T) B.pre
  have hT := fun (w : Cond) (h : w ∈ tw_T) => hts w (List.mem_cons_of_mem _ h)
  have hown : s.vm.findClass RL = some m.cls := findClass_of_methodNamed B.named
  have hlocks := B.notSynchronized
  have hl := lv_entry ([.ref h0, .int 2, .ref ao]) (n := 4) (Nat.le_of_ble_eq_true rfl)
  rw [lg_entry_eq]
  generalize (lg_sl ([.ref h0, .int 2, .ref ao]) ++ List.replicate (4 - (lg_sl ([.ref h0, .int 2, .ref ao])).length) Slot.unset).toArray = ls at hl ⊢
  have hl : lv_has ls 4 [(0, .ref h0), (1, .int 2), (2, .ref ao)] := hl
  subst hsz
  have hD := hD0.self (sz := s.heap.size)
  generalize hAe : va_A (tw_wH h0 a0 a1 a2 a3 k0 k1 k2 k3 th tm pr ag ck nx ao k4 ou) s.heap.size = A at hD ⊢
  have hA : ∀ q : Nat, s.heap.size ≤ q → A q := fun q h => by rw [← hAe]; exact Or.inr h
  have hS : va_S A s.heap s.heap [] := va_S.rf
  have hPc := hP.sub (ws' := tw_wX h0 a0 a1 a2 a3 k0 k1 k2 k3 th tm pr ag ck nx) [0, 1, 2, 3, 4] rfl
  have hDc := hD.sub (ws' := tw_wX h0 a0 a1 a2 a3 k0 k1 k2 k3 th tm pr ag ck nx) [0, 1, 2, 3, 4] (by decide) rfl
  have hKc := hK.sub (tys' := tw_k k0 k1 k2 k3) [0, 1, 2, 3] rfl
  have hFc := va_free (wc := tw_wX h0 a0 a1 a2 a3 k0 k1 k2 k3 th tm pr ag ck nx) hD hS hA [0, 1, 2, 3, 4] rfl
  refine lv_aload_n hx hb dL_count_0 rfl (lv_at hl 2 rfl) ?_
  refine lv_iconst (v := 0) hx hb dL_count_1 (by decide) ?_
  refine lv_aload_n hx hb dL_count_2 rfl (lv_at hl 0 rfl) ?_
  refine lv_iload_n hx hb dL_count_3 rfl (lv_at hl 1 rfl) ?_
  refine vp_callSl (W.runV (C := RX) (b := h0) (As := [.int 2]) (rest := [.int 0, .ref ao]) ⟨hx, hb, hml, hown, hT⟩ (cX_count2 l dC dI h0 a0 a1 a2 a3 k0 k1 k2 k3 th tm pr ag ck nx ) (cwV 1 hT (tw_gV tt_202 tt_203 tt_204 tt_1 tt_205) rfl rfl rfl ⟨rfl, by decide +kernel⟩ ⟨Nat.le_of_ble_eq_true rfl, Nat.le_of_ble_eq_true rfl⟩) ⟨fun a U g mk q => ⟨q.1, q.2.1, va_K.moved (u := U) (U := U.calling g mk a) (Vm.Alike.refl U.vm) q.2.2⟩, va_recv (q0 := 0) (ci := 0) hKc hPc rfl rfl, fun U hU hW => ⟨rfl, by rw [hU]; exact hPc, va_K.moved hW.alike hKc⟩⟩ rfl rfl hl.1 rfl (lv_room (Nat.le_of_ble_eq_true rfl)) dL_count_4 ⟨Nat.le_of_ble_eq_true rfl, Nat.le_of_ble_eq_true rfl⟩) (fun r9 h9 => ?_)
  subst r9
  refine va_last hx hb hK hP hD hS 5 4 rfl rfl (by unfold vp_in; decide) dL_count_7 (fun H locs hP hD hS => ?_)
  have hP : va_P (dC, dI) tw_cl [(h0, .inr (0, [.ref a0, .ref a1, .ref a2, .ref a3, .long ck, .int nx])), (a0, .inl (k0, 100, .inl th)), (a1, .inl (k1, 100, .inr (.inl tm))), (a2, .inl (k2, 100, .inl pr)), (a3, .inl (k3, 100, .inl ag)), (ao, .inl (k4, 1, .inr (.inl (vp_updL ou (0 : Int32).toNatClampNeg ((tw_dues th tm ck 100).toInt64)))))] H := hP
  have hD : va_D A [(h0, .inr (0, [.ref a0, .ref a1, .ref a2, .ref a3, .long ck, .int nx])), (a0, .inl (k0, 100, .inl th)), (a1, .inl (k1, 100, .inr (.inl tm))), (a2, .inl (k2, 100, .inl pr)), (a3, .inl (k3, 100, .inl ag)), (ao, .inl (k4, 1, .inr (.inl (vp_updL ou (0 : Int32).toNatClampNeg ((tw_dues th tm ck 100).toInt64)))))] := hD
  refine lv_goto (tgt := 14) hx hb dL_count_8 (by decide) ?_
  refine lv_iconst (v := 0) hx hb dL_count_14 (by decide) ?_
  exact W.iret hx hb hr (fun t ht hW => ⟨⟨_, (), rfl, rfl, by rw [ht]; exact hP, hD⟩, hS.F ht⟩) hS.2.2 dL_count_15
set_option maxHeartbeats 4000000 in
set_option maxRecDepth 100000 in
theorem cL_countB (l : Launch) (hfl : l.flags = pinnedFlags ++ [noTraceFlag]) (dC : Nat → ClassId) (dI : Nat → Nat → Nat) (h0 a0 a1 a2 a3 : Nat) (k0 k1 k2 k3 : ClassId) (th : Nat → Int32) (tm : Nat → Int64) (pr ag : Nat → Int32) (ck : Int64) (nx : Int32) (ao : Nat) (k4 : ClassId) (ou : Nat → Int64) (sz : Nat) (k : Int32) (hbad : k.toInt < 0 ∨ 2 < k.toInt) : Met l yL_count (Cond.codeWith yL_count bL_count 4 (some .int) [(0, 8, 11, 13)] :: tw_T) { frames := 8, cells := 1, slots := 6, locals := 160 } (va_Pc [.ref h0, .int k, .ref ao] (fun U => U.heap.size = sz ∧ va_P (dC, dI) tw_cl (tw_wH h0 a0 a1 a2 a3 k0 k1 k2 k3 th tm pr ag ck nx ao k4 ou) U.heap ∧ va_K (dC, dI) tw_cl (tw_kH k0 k1 k2 k3 k4) U ∧ va_D (fun _ => True) (tw_wH h0 a0 a1 a2 a3 k0 k1 k2 k3 th tm pr ag ck nx ao k4 ou) ∧ tw_Z U U.heap)) (va_Qi (S := Unit) (fun r _ => r = 1) (fun _ tz => va_P (dC, dI) tw_cl (tw_wH h0 a0 a1 a2 a3 k0 k1 k2 k3 th tm pr ag ck nx ao k4 ou) tz.heap ∧ va_D (va_A (tw_wH h0 a0 a1 a2 a3 k0 k1 k2 k3 th tm pr ag ck nx ao k4 ou) sz) (tw_wH h0 a0 a1 a2 a3 k0 k1 k2 k3 th tm pr ag ck nx ao k4 ou)) (va_A (tw_wH h0 a0 a1 a2 a3 k0 k1 k2 k3 th tm pr ag ck nx ao k4 ou) sz)) 1 6 (va_A (tw_wH h0 a0 a1 a2 a3 k0 k1 k2 k3 th tm pr ag ck nx ao k4 ou) sz) := by
  refine va_MetW (hh := [(0, 8, 11, 13)]) (cc := bL_count) (maxL := 4) (ret := some .int) (by decide) rfl ?_
  intro p e s m args below meth c s₁ B hml hv
  obtain ⟨rfl, hsz, hP, hK, hD0, hZ⟩ := hv
  have hx := B.exec
  have hb := B.bytes
  have hr := B.returns
  have hts := atoms_spec (ws := Cond.codeWith yL_count bL_count 4 (some .int) [(0, 8, 11, 13)] :: tw_T) B.pre
  have hT := fun (w : Cond) (h : w ∈ tw_T) => hts w (List.mem_cons_of_mem _ h)
  have hown : s.vm.findClass RL = some m.cls := findClass_of_methodNamed B.named
  have hlocks := B.notSynchronized
  have hl := lv_entry ([.ref h0, .int k, .ref ao]) (n := 4) (Nat.le_of_ble_eq_true rfl)
  rw [lg_entry_eq]
  generalize (lg_sl ([.ref h0, .int k, .ref ao]) ++ List.replicate (4 - (lg_sl ([.ref h0, .int k, .ref ao])).length) Slot.unset).toArray = ls at hl ⊢
  have hl : lv_has ls 4 [(0, .ref h0), (1, .int k), (2, .ref ao)] := hl
  subst hsz
  have hD := hD0.self (sz := s.heap.size)
  generalize hAe : va_A (tw_wH h0 a0 a1 a2 a3 k0 k1 k2 k3 th tm pr ag ck nx ao k4 ou) s.heap.size = A at hD ⊢
  have hA : ∀ q : Nat, s.heap.size ≤ q → A q := fun q h => by rw [← hAe]; exact Or.inr h
  have hS : va_S A s.heap s.heap [] := va_S.rf
  have hPc := hP.sub (ws' := tw_wX h0 a0 a1 a2 a3 k0 k1 k2 k3 th tm pr ag ck nx) [0, 1, 2, 3, 4] rfl
  have hDc := hD.sub (ws' := tw_wX h0 a0 a1 a2 a3 k0 k1 k2 k3 th tm pr ag ck nx) [0, 1, 2, 3, 4] (by decide) rfl
  have hKc := hK.sub (tys' := tw_k k0 k1 k2 k3) [0, 1, 2, 3] rfl
  have hFc := va_free (wc := tw_wX h0 a0 a1 a2 a3 k0 k1 k2 k3 th tm pr ag ck nx) hD hS hA [0, 1, 2, 3, 4] rfl
  have hTab := xt_tableOf (xt_table B (hts _ List.mem_cons_self))
  refine lv_aload_n hx hb dL_count_0 rfl (lv_at hl 2 rfl) ?_
  refine lv_iconst (v := 0) hx hb dL_count_1 (by decide) ?_
  refine lv_aload_n hx hb dL_count_2 rfl (lv_at hl 0 rfl) ?_
  refine lv_iload_n hx hb dL_count_3 rfl (lv_at hl 1 rfl) ?_
  refine xt_call (xt_runV (C := RX) (b := h0) (As := [.int k]) (rest := [.int 0, .ref ao]) ⟨hx, hb, hml, hown, hT⟩ (eX_count l hfl dC dI h0 a0 a1 a2 a3 k0 k1 k2 k3 th tm pr ag ck nx k hbad) (cwV 1 hT (tw_gV tt_202 tt_203 tt_204 tt_1 tt_205) rfl rfl rfl ⟨rfl, by decide +kernel⟩ ⟨Nat.le_of_ble_eq_true rfl, Nat.le_of_ble_eq_true rfl⟩) ⟨fun a U g mk q => ⟨q.1, ⟨q.2.1.1, va_K.moved (u := U) (U := U.calling g mk a) (Vm.Alike.refl U.vm) q.2.1.2⟩, q.2.2.call⟩, va_recv (q0 := 0) (ci := 0) hKc hPc rfl rfl, fun U hU hW => ⟨rfl, ⟨by rw [hU]; exact hPc, va_K.moved hW.alike hKc⟩, hZ.at hU hW⟩⟩ rfl rfl hl.1 rfl (lv_room (Nat.le_of_ble_eq_true rfl)) dL_count_4 ⟨Nat.le_of_ble_eq_true rfl, Nat.le_of_ble_eq_true rfl⟩) (fun v st₀ t H1 L _ _ _ _ _ hq => ?_) (fun q9 st₀ t8 H1 L e1 e2 e3 e4 hL hq => ?_)
  · obtain ⟨q2, hq1, -⟩ := hq
    cases hq1
  · obtain ⟨q2, hq1, ⟨ce, hce, hcv, hcc⟩, hz, hk⟩ := hq
    cases hq1
    rw [e1] at hz hk
    rw [e3] at hz hk hce
    rw [e2.findClass] at hcc
    have hP : va_P (dC, dI) tw_cl (tw_wH h0 a0 a1 a2 a3 k0 k1 k2 k3 th tm pr ag ck nx ao k4 ou) H1 := hP.kept (fun k x hx9 => hk x.1 ((hP k x hx9).lt))
    have hS : va_S A s.heap H1 ([] ++ L) := ⟨hz, fun q h1 _ => hk q h1, fun z hz9 => (hL z (by simpa using hz9)).elim⟩
    refine xt_catch1 hown ⟨0, 8, 11, 13⟩ [] (hTab.trans rfl) (by decide) (by decide) (hT _ tt_50) (va_Nw.use rfl hZ.2.2.1) hce hcv hcc ?_
    refine W.eq (g2 := F0 m 11 ls [.ref q9]) rfl ?_
    refine lv_astore_n hx hb dL_count_11 rfl hl (by decide) rfl (fun ls hl => ?_)
    have hl : lv_has ls 4 [(3, .ref q9), (0, .ref h0), (1, .int k), (2, .ref ao)] := hl
    refine lv_iconst (v := 1) hx hb dL_count_12 (by decide) ?_
    exact W.iret hx hb hr (fun t ht hW => ⟨⟨_, (), rfl, rfl, by rw [ht]; exact hP, hD⟩, hS.F ht⟩) hS.2.2 dL_count_13
end
section
/-! The law's cases: class and reference hold the same picture, answer alike, and hold the same picture again. Rows laid by our own program (wip/gen/gl.py). -/
abbrev tw_wL (xh xa0 xa1 xa2 xa3 : Nat) (kx0 kx1 kx2 kx3 : ClassId) (mh ma0 ma1 ma2 ma3 : Nat) (km0 km1 km2 km3 : ClassId) (ao : Nat) (k4 : ClassId) (fl : Int32) (th : Nat → Int32) (tm : Nat → Int64) (pr ag : Nat → Int32) (ck : Int64) (nx : Int32) (ou : Nat → Int64) : va_W := [(xh, .inr (0, [.ref xa0, .ref xa1, .ref xa2, .ref xa3, .long ck, .int nx])), (xa0, .inl (kx0, 100, .inl th)), (xa1, .inl (kx1, 100, .inr (.inl tm))), (xa2, .inl (kx2, 100, .inl pr)), (xa3, .inl (kx3, 100, .inl ag)), (mh, .inr (1, [.int fl, .ref ma0, .ref ma1, .ref ma2, .ref ma3, .int nx, .long ck])), (ma0, .inl (km0, 100, .inl th)), (ma1, .inl (km1, 100, .inr (.inl tm))), (ma2, .inl (km2, 100, .inl pr)), (ma3, .inl (km3, 100, .inl ag)), (ao, .inl (k4, 1, .inr (.inl ou)))]
abbrev tw_kL (kx0 kx1 kx2 kx3 km0 km1 km2 km3 k4 : ClassId) : List (ClassId × FieldType) := [(kx0, .boolean), (kx1, .long), (kx2, .int), (kx3, .int), (km0, .boolean), (km1, .long), (km2, .int), (km3, .int), (k4, .long)]
abbrev tw_AL (s : State) : Nat → Prop := fun q => s.heap.size ≤ q
def tw_Inv (tm : Nat → Int64) (ck : Int64) : Prop := (∀ k : Nat, 0 ≤ tm k ∧ tm k ≤ 70368744177664) ∧ 0 ≤ ck ∧ ck ≤ 70368744177664
theorem tw_Inv.up {tm : Nat → Int64} {ck : Int64} (h : tw_Inv tm ck) (j : Nat) {t : Int64} (h0 : 0 ≤ t) (h1 : t ≤ 70368744177664) : tw_Inv (vp_updL tm j t) ck := by
  refine ⟨fun k => ?_, h.2⟩
  unfold vp_updL
  split
  · exact ⟨h0, h1⟩
  · exact h.1 k
theorem tw_Inv.least {th : Nat → Int32} {tm : Nat → Int64} {ck : Int64} (h : tw_Inv tm ck) (hf : ¬ tw_least th tm ck 100 = -1) : tw_Inv tm (tw_least th tm ck 100) := by
  rcases tw_least_in (th := th) (ck := ck) (fun k => (h.1 k).1) 100 with h1 | ⟨h1, k, h2⟩
  · exact absurd h1 hf
  · exact ⟨h.1, h1, by rw [h2]; exact (h.1 k).2⟩
theorem tw_sin1 {i L : Nat} (h : i + 5 ≤ L) (hL : L ≤ 2560) : vp_in (nI i + 1) L := by
  have e : nI i + 1 = nI (i + 1) := by
    rw [show (1 : Int32) = nI 1 from rfl, nI_add]
  rw [e]
  exact vp_in_nI (by omega) (by omega)
theorem tw_sin2 {i L : Nat} (h : i + 5 ≤ L) (hL : L ≤ 2560) : vp_in (nI i + 2) L := by
  have e : nI i + 2 = nI (i + 2) := by
    rw [show (2 : Int32) = nI 2 from rfl, nI_add]
  rw [e]
  exact vp_in_nI (by omega) (by omega)
theorem tw_sin3 {i L : Nat} (h : i + 5 ≤ L) (hL : L ≤ 2560) : vp_in (nI i + 3) L := by
  have e : nI i + 3 = nI (i + 3) := by
    rw [show (3 : Int32) = nI 3 from rfl, nI_add]
  rw [e]
  exact vp_in_nI (by omega) (by omega)
theorem tw_sin4 {i L : Nat} (h : i + 5 ≤ L) (hL : L ≤ 2560) : vp_in (nI i + 4) L := by
  have e : nI i + 4 = nI (i + 4) := by
    rw [show (4 : Int32) = nI 4 from rfl, nI_add]
  rw [e]
  exact vp_in_nI (by omega) (by omega)
theorem tw_nat {x : Int64} (h0 : 0 ≤ x) (h1 : x ≤ 70368744177664) : ∃ k : Nat, k ≤ 70368744177664 ∧ x = lN k := by
  obtain ⟨k, hk, rfl⟩ := pk_lOf (Int64.not_lt.mpr h0)
  refine ⟨k, ?_, rfl⟩
  rw [show (70368744177664 : Int64) = lN 70368744177664 from rfl] at h1
  exact (pk_lLE hk (by decide)).mp h1
theorem tw_go {ck n : Int64} (h0 : 0 ≤ ck) (h1 : ck ≤ 70368744177664) (h2 : 0 ≤ n) (h3 : n ≤ 17592186044416) : (n ≤ 70368744177664 - ck ↔ ck + n ≤ 70368744177664) ∧ 0 ≤ ck + n := by
  obtain ⟨a, ha, rfl⟩ := tw_nat h0 h1
  obtain ⟨k, hk, rfl⟩ := tw_nat h2 (Int64.le_trans h3 (by decide))
  rw [show (70368744177664 : Int64) = lN 70368744177664 from rfl, lN_sub ha, lN_add, pk_lLE (by omega) (by omega), pk_lLE (by omega) (by omega)]
  refine ⟨by omega, ?_⟩
  rw [show (0 : Int64) = lN 0 from rfl, pk_lLE (by omega) (by omega)]
  omega
section LLset
variable {p : Program} {l : Launch} {e : Env} {s : State} {m : MethodId} {below : List Frame} {meth : Method} {c : Code} {H : Heap} {locs : List Loc} {cells slots : Nat} {Q : State → Prop} {ls : Array Slot} {b L i : Nat} {xs : Nat → Int32}
variable {dC : Nat → ClassId} {dI : Nat → Nat → Nat} {xh xa0 xa1 xa2 xa3 : Nat} {kx0 kx1 kx2 kx3 : ClassId} {mh ma0 ma1 ma2 ma3 : Nat} {km0 km1 km2 km3 : ClassId} {ao : Nat} {k4 : ClassId} {fl : Int32} {th : Nat → Int32} {tm : Nat → Int64} {pr ag : Nat → Int32} {ck : Int64} {nx : Int32} {ou : Nat → Int64}
set_option maxHeartbeats 4000000 in
set_option maxRecDepth 100000 in
theorem ll_set (hx : p.tables.exec = Jvm.exec) (hb : c.code = bL_law) (hml : c.maxLocals = 8) (hT : ∀ w ∈ tw_T, w.before #[Value.ref b] s = true) (hown : s.vm.findClass RL = some m.cls) (hfl : l.flags = pinnedFlags ++ [noTraceFlag]) (hX : va_X b L xs s s.heap) (hbl : b < s.heap.size) (hZ : tw_Z s s.heap) (hNc : va_Nc tw_nse tw_iae s) (hL : L ≤ 2560) (hi : i + 5 ≤ L) (hc : cells + 1 ≤ 1044 ∧ slots + 6 ≤ 9060) (hI : tw_Inv tm ck) (hP : va_P (dC, dI) tw_cl (tw_wL xh xa0 xa1 xa2 xa3 kx0 kx1 kx2 kx3 mh ma0 ma1 ma2 ma3 km0 km1 km2 km3 ao k4 fl th tm pr ag ck nx ou) H) (hD : va_D (tw_AL s) (tw_wL xh xa0 xa1 xa2 xa3 kx0 kx1 kx2 kx3 mh ma0 ma1 ma2 ma3 km0 km1 km2 km3 ao k4 fl th tm pr ag ck nx ou)) (hK : va_K (dC, dI) tw_cl (tw_kL kx0 kx1 kx2 kx3 km0 km1 km2 km3 k4) s) (hS : va_S (tw_AL s) s.heap H locs) (hl : lv_has ls 8 [(4, .int (nI i)), (0, .ref b), (1, .ref xh), (2, .ref mh), (3, .ref ao)]) {j1 j2 j3 j4 : Int32} (e1 : xs (nI i + 1).toNatClampNeg = j1) (e2 : xs (nI i + 2).toNatClampNeg = j2) (e3 : xs (nI i + 3).toNatClampNeg = j3) (e4 : xs (nI i + 4).toNatClampNeg = j4) (hj : vp_in j1 100) (ht0 : 0 ≤ (j2.toInt64 <<< ((32 : Int32).toInt64 &&& 63)) ||| (j3.toInt64 &&& 4294967295)) (ht1 : (j2.toInt64 <<< ((32 : Int32).toInt64 &&& 63)) ||| (j3.toInt64 &&& 4294967295) ≤ 70368744177664) (kk : ∀ (fl' : Int32) (th' : Nat → Int32) (tm' : Nat → Int64) (pr' ag' : Nat → Int32) (ck' : Int64) (nx' : Int32) (ou' : Nat → Int64) (H' : Heap) (locs' : List Loc) (ls' : Array Slot), tw_Inv tm' ck' → va_P (dC, dI) tw_cl (tw_wL xh xa0 xa1 xa2 xa3 kx0 kx1 kx2 kx3 mh ma0 ma1 ma2 ma3 km0 km1 km2 km3 ao k4 fl' (th') (tm') (pr') (ag') (ck') (nx') (ou')) H' → va_D (tw_AL s) (tw_wL xh xa0 xa1 xa2 xa3 kx0 kx1 kx2 kx3 mh ma0 ma1 ma2 ma3 km0 km1 km2 km3 ao k4 (fl') (th') (tm') (pr') (ag') (ck') (nx') (ou')) → va_S (tw_AL s) s.heap H' locs' → lv_has ls' 8 [(4, .int (nI i)), (0, .ref b), (1, .ref xh), (2, .ref mh), (3, .ref ao)] → W p l e room_1 s m #[Value.ref b] below meth c H' locs' (cells + 1) (slots + 6) Q (F0 m 563 ls' [])) : W p l e room_1 s m #[Value.ref b] below meth c H locs cells slots Q (F0 m 84 ls []) := by
  have hA : ∀ q : Nat, s.heap.size ≤ q → tw_AL s q := fun q h => h
  have hbA : ¬ tw_AL s b := Nat.not_le.mpr hbl
  refine lv_aload_n hx hb dL_law_84 rfl (lv_at hl 2 rfl) ?_
  refine lv_aload_n hx hb dL_law_85 rfl (lv_at hl 1 rfl) ?_
  refine lv_iload hx hb dL_law_86 (lv_at hl 0 rfl) ?_
  refine lv_iconst (v := 1) hx hb dL_law_88 (by decide) ?_
  refine lv_iadd hx hb dL_law_89 ?_
  refine va_sld hx hb hX hbl hbA hS (tw_sin1 hi hL) dL_law_90 ?_
  rw [e1]
  refine lv_aload_n hx hb dL_law_91 rfl (lv_at hl 1 rfl) ?_
  refine lv_iload hx hb dL_law_92 (lv_at hl 0 rfl) ?_
  refine lv_iconst (v := 2) hx hb dL_law_94 (by decide) ?_
  refine lv_iadd hx hb dL_law_95 ?_
  refine va_sld hx hb hX hbl hbA hS (tw_sin2 hi hL) dL_law_96 ?_
  rw [e2]
  refine lv_i2l hx hb dL_law_97 rfl ?_
  refine lv_bipush (v := 32) hx hb dL_law_98 (by decide) ?_
  refine lv_lshl hx hb dL_law_100 rfl ?_
  refine lv_aload_n hx hb dL_law_101 rfl (lv_at hl 1 rfl) ?_
  refine lv_iload hx hb dL_law_102 (lv_at hl 0 rfl) ?_
  refine lv_iconst (v := 3) hx hb dL_law_104 (by decide) ?_
  refine lv_iadd hx hb dL_law_105 ?_
  refine va_sld hx hb hX hbl hbA hS (tw_sin3 hi hL) dL_law_106 ?_
  rw [e3]
  refine lv_i2l hx hb dL_law_107 rfl ?_
  refine lv_ldc2 (v := 4294967295) hx hb hown (hT _ tt_292) dL_law_108 ?_
  refine lv_land hx hb dL_law_111 ?_
  refine lv_lor hx hb dL_law_112 ?_
  refine lv_aload_n hx hb dL_law_113 rfl (lv_at hl 1 rfl) ?_
  refine lv_iload hx hb dL_law_114 (lv_at hl 0 rfl) ?_
  refine lv_iconst (v := 4) hx hb dL_law_116 (by decide) ?_
  refine lv_iadd hx hb dL_law_117 ?_
  refine va_sld hx hb hX hbl hbA hS (tw_sin4 hi hL) dL_law_118 ?_
  rw [e4]
  refine lv_aload_n hx hb dL_law_119 rfl (lv_at hl 4 rfl) ?_
  have hPc := hP.sub (ws' := (tw_wH xh xa0 xa1 xa2 xa3 kx0 kx1 kx2 kx3 th tm pr ag ck nx ao k4 ou)) [0, 1, 2, 3, 4, 10] rfl
  have hDc := hD.sub (ws' := (tw_wH xh xa0 xa1 xa2 xa3 kx0 kx1 kx2 kx3 th tm pr ag ck nx ao k4 ou)) [0, 1, 2, 3, 4, 10] (by decide) rfl
  have hKc := hK.sub (tys' := tw_kH kx0 kx1 kx2 kx3 k4) [0, 1, 2, 3, 8] rfl
  have hFc := va_free (wc := (tw_wH xh xa0 xa1 xa2 xa3 kx0 kx1 kx2 kx3 th tm pr ag ck nx ao k4 ou)) hD hS hA [0, 1, 2, 3, 4, 10] rfl
  refine va_calli (xt_runSW (n := 5) (As := [.ref xh, .int j1, .long ((j2.toInt64 <<< ((32 : Int32).toInt64 &&& 63)) ||| (j3.toInt64 &&& 4294967295)), .int j4, .ref ao]) (rest := []) ⟨hx, hb, hml, hown, hT⟩ (cL_set l dC dI xh xa0 xa1 xa2 xa3 kx0 kx1 kx2 kx3 th tm pr ag ck nx ao k4 ou H.size j1 hj _ ht0 ht1 j4) rfl (tw_gS tt_47 tt_48 tt_0 tt_49) rfl rfl ⟨rfl, by decide +kernel⟩ ⟨Nat.le_of_ble_eq_true rfl, Nat.le_of_ble_eq_true rfl⟩ ⟨fun a U g mk q => by obtain ⟨q0, q1, qP, qK, qD⟩ := q; exact ⟨q0, q1, qP, va_K.moved (u := U) (U := U.calling g mk a) (Vm.Alike.refl U.vm) qK, qD⟩, fun U hU hW => ⟨rfl, by rw [hU], by rw [hU]; exact hPc, va_K.moved hW.alike hKc, hDc.weaken (fun _ _ _ _ => trivial)⟩⟩ rfl rfl hl.1 rfl (lv_room (Nat.le_of_ble_eq_true rfl)) dL_law_120 ⟨Nat.le_trans (Nat.le_succ _) hc.1, Nat.le_trans (Nat.le_add_right _ 6) hc.2⟩) hS (fun q _ h => hFc q h) hFc (fun r9 u9 t9 H1 locs ht9 hvm9 hw9 hB9 hz9 hk9 hS => ?_)
  obtain ⟨hP1, hD1⟩ := hB9
  rw [ht9] at hP1
  have hw9 : r9 = 0 := hw9
  subst r9
  obtain ⟨hP, hD⟩ := va_join (wr := (tw_wM mh ma0 ma1 ma2 ma3 km0 km1 km2 km3 fl th tm pr ag ck nx)) (w1 := (tw_wH xh xa0 xa1 xa2 xa3 kx0 kx1 kx2 kx3 (upd th j1.toNatClampNeg (vp_nar .boolean 1)) (vp_updL tm j1.toNatClampNeg ((j2.toInt64 <<< ((32 : Int32).toInt64 &&& 63)) ||| (j3.toInt64 &&& 4294967295))) (upd pr j1.toNatClampNeg j4) (upd ag j1.toNatClampNeg nx) ck (nx + 1) ao k4 (vp_updL ou (0 : Int32).toNatClampNeg ((upd ag j1.toNatClampNeg nx j1.toNatClampNeg).toInt64)))) hP hD [0, 1, 2, 3, 4, 10] [5, 6, 7, 8, 9] rfl rfl (by decide) (by decide) hk9 hFc hP1 hD1
  generalize H1 = H at hP hS ⊢
  have hP := hP.sub (ws' := [(xh, .inr (0, [.ref xa0, .ref xa1, .ref xa2, .ref xa3, .long ck, .int (nx + 1)])), (xa0, .inl (kx0, 100, .inl (upd th j1.toNatClampNeg (vp_nar .boolean 1)))), (xa1, .inl (kx1, 100, .inr (.inl (vp_updL tm j1.toNatClampNeg ((j2.toInt64 <<< ((32 : Int32).toInt64 &&& 63)) ||| (j3.toInt64 &&& 4294967295)))))), (xa2, .inl (kx2, 100, .inl (upd pr j1.toNatClampNeg j4))), (xa3, .inl (kx3, 100, .inl (upd ag j1.toNatClampNeg nx))), (mh, .inr (1, [.int fl, .ref ma0, .ref ma1, .ref ma2, .ref ma3, .int nx, .long ck])), (ma0, .inl (km0, 100, .inl th)), (ma1, .inl (km1, 100, .inr (.inl tm))), (ma2, .inl (km2, 100, .inl pr)), (ma3, .inl (km3, 100, .inl ag)), (ao, .inl (k4, 1, .inr (.inl (vp_updL ou (0 : Int32).toNatClampNeg ((upd ag j1.toNatClampNeg nx j1.toNatClampNeg).toInt64)))))]) [5, 6, 7, 8, 9, 0, 1, 2, 3, 4, 10] rfl
  have hD := hD.sub (ws' := [(xh, .inr (0, [.ref xa0, .ref xa1, .ref xa2, .ref xa3, .long ck, .int (nx + 1)])), (xa0, .inl (kx0, 100, .inl (upd th j1.toNatClampNeg (vp_nar .boolean 1)))), (xa1, .inl (kx1, 100, .inr (.inl (vp_updL tm j1.toNatClampNeg ((j2.toInt64 <<< ((32 : Int32).toInt64 &&& 63)) ||| (j3.toInt64 &&& 4294967295)))))), (xa2, .inl (kx2, 100, .inl (upd pr j1.toNatClampNeg j4))), (xa3, .inl (kx3, 100, .inl (upd ag j1.toNatClampNeg nx))), (mh, .inr (1, [.int fl, .ref ma0, .ref ma1, .ref ma2, .ref ma3, .int nx, .long ck])), (ma0, .inl (km0, 100, .inl th)), (ma1, .inl (km1, 100, .inr (.inl tm))), (ma2, .inl (km2, 100, .inl pr)), (ma3, .inl (km3, 100, .inl ag)), (ao, .inl (k4, 1, .inr (.inl (vp_updL ou (0 : Int32).toNatClampNeg ((upd ag j1.toNatClampNeg nx j1.toNatClampNeg).toInt64)))))]) [5, 6, 7, 8, 9, 0, 1, 2, 3, 4, 10] (by decide) rfl
  refine lv_istore hx hb dL_law_123 hl (by decide) rfl (fun ls hl => ?_)
  have hl : lv_has ls 8 [(5, .int 0), (4, .int (nI i)), (0, .ref b), (1, .ref xh), (2, .ref mh), (3, .ref ao)] := hl
  refine lv_aload_n hx hb dL_law_125 rfl (lv_at hl 4 rfl) ?_
  refine lv_aload_n hx hb dL_law_126 rfl (lv_at hl 2 rfl) ?_
  refine lv_iload hx hb dL_law_127 (lv_at hl 1 rfl) ?_
  refine lv_iconst (v := 1) hx hb dL_law_129 (by decide) ?_
  refine lv_iadd hx hb dL_law_130 ?_
  refine va_sld hx hb hX hbl hbA hS (tw_sin1 hi hL) dL_law_131 ?_
  rw [e1]
  refine lv_aload_n hx hb dL_law_132 rfl (lv_at hl 2 rfl) ?_
  refine lv_iload hx hb dL_law_133 (lv_at hl 1 rfl) ?_
  refine lv_iconst (v := 2) hx hb dL_law_135 (by decide) ?_
  refine lv_iadd hx hb dL_law_136 ?_
  refine va_sld hx hb hX hbl hbA hS (tw_sin2 hi hL) dL_law_137 ?_
  rw [e2]
  refine lv_i2l hx hb dL_law_138 rfl ?_
  refine lv_bipush (v := 32) hx hb dL_law_139 (by decide) ?_
  refine lv_lshl hx hb dL_law_141 rfl ?_
  refine lv_aload_n hx hb dL_law_142 rfl (lv_at hl 2 rfl) ?_
  refine lv_iload hx hb dL_law_143 (lv_at hl 1 rfl) ?_
  refine lv_iconst (v := 3) hx hb dL_law_145 (by decide) ?_
  refine lv_iadd hx hb dL_law_146 ?_
  refine va_sld hx hb hX hbl hbA hS (tw_sin3 hi hL) dL_law_147 ?_
  rw [e3]
  refine lv_i2l hx hb dL_law_148 rfl ?_
  refine lv_ldc2 (v := 4294967295) hx hb hown (hT _ tt_292) dL_law_149 ?_
  refine lv_land hx hb dL_law_152 ?_
  refine lv_lor hx hb dL_law_153 ?_
  refine lv_aload_n hx hb dL_law_154 rfl (lv_at hl 2 rfl) ?_
  refine lv_iload hx hb dL_law_155 (lv_at hl 1 rfl) ?_
  refine lv_iconst (v := 4) hx hb dL_law_157 (by decide) ?_
  refine lv_iadd hx hb dL_law_158 ?_
  refine va_sld hx hb hX hbl hbA hS (tw_sin4 hi hL) dL_law_159 ?_
  rw [e4]
  have hPc := hP.sub (ws' := (tw_wM mh ma0 ma1 ma2 ma3 km0 km1 km2 km3 fl th tm pr ag ck nx)) [5, 6, 7, 8, 9] rfl
  have hDc := hD.sub (ws' := (tw_wM mh ma0 ma1 ma2 ma3 km0 km1 km2 km3 fl th tm pr ag ck nx)) [5, 6, 7, 8, 9] (by decide) rfl
  have hKc := hK.sub (tys' := tw_k km0 km1 km2 km3) [4, 5, 6, 7] rfl
  have hFc := va_free (wc := (tw_wM mh ma0 ma1 ma2 ma3 km0 km1 km2 km3 fl th tm pr ag ck nx)) hD hS hA [5, 6, 7, 8, 9] rfl
  refine va_calli (va_runV (C := RM) (b := mh) (As := [.int j1, .long ((j2.toInt64 <<< ((32 : Int32).toInt64 &&& 63)) ||| (j3.toInt64 &&& 4294967295)), .int j4]) (rest := []) ⟨hx, hb, hml, hown, hT⟩ (cM_set l dC dI mh ma0 ma1 ma2 ma3 km0 km1 km2 km3 fl th tm pr ag ck nx H.size j1 hj _ ht0 ht1 j4) (cwV 3 hT (tw_gV tt_243 tt_244 tt_245 tt_2 tt_246) rfl rfl rfl ⟨rfl, by decide +kernel⟩ ⟨Nat.le_of_ble_eq_true rfl, Nat.le_of_ble_eq_true rfl⟩) ⟨fun a U g mk q => by obtain ⟨q0, q1, qP, qK, qD⟩ := q; exact ⟨q0, q1, qP, va_K.moved (u := U) (U := U.calling g mk a) (Vm.Alike.refl U.vm) qK, qD⟩, va_recv (q0 := 0) (ci := 1) hKc hPc rfl rfl, fun U hU hW => ⟨rfl, by rw [hU], by rw [hU]; exact hPc, va_K.moved hW.alike hKc, hDc.weaken (fun _ _ _ _ => trivial)⟩⟩ rfl rfl hl.1 rfl (lv_room (Nat.le_of_ble_eq_true rfl)) dL_law_160 ⟨Nat.le_trans (Nat.le_succ _) hc.1, Nat.le_trans (Nat.le_add_right _ 6) hc.2⟩) hS (fun q _ h => hFc q h) hFc (fun r9 u9 t9 H1 locs ht9 hvm9 hw9 hB9 hz9 hk9 hS => ?_)
  obtain ⟨hP1, hD1⟩ := hB9
  rw [ht9] at hP1
  have hw9 : r9 = upd ag j1.toNatClampNeg nx j1.toNatClampNeg := hw9
  subst r9
  obtain ⟨hP, hD⟩ := va_join (wr := [(xh, .inr (0, [.ref xa0, .ref xa1, .ref xa2, .ref xa3, .long ck, .int (nx + 1)])), (xa0, .inl (kx0, 100, .inl (upd th j1.toNatClampNeg (vp_nar .boolean 1)))), (xa1, .inl (kx1, 100, .inr (.inl (vp_updL tm j1.toNatClampNeg ((j2.toInt64 <<< ((32 : Int32).toInt64 &&& 63)) ||| (j3.toInt64 &&& 4294967295)))))), (xa2, .inl (kx2, 100, .inl (upd pr j1.toNatClampNeg j4))), (xa3, .inl (kx3, 100, .inl (upd ag j1.toNatClampNeg nx))), (ao, .inl (k4, 1, .inr (.inl (vp_updL ou (0 : Int32).toNatClampNeg ((upd ag j1.toNatClampNeg nx j1.toNatClampNeg).toInt64)))))]) (w1 := (tw_wM mh ma0 ma1 ma2 ma3 km0 km1 km2 km3 0 (upd th j1.toNatClampNeg (vp_nar .boolean 1)) (vp_updL tm j1.toNatClampNeg ((j2.toInt64 <<< ((32 : Int32).toInt64 &&& 63)) ||| (j3.toInt64 &&& 4294967295))) (upd pr j1.toNatClampNeg j4) (upd ag j1.toNatClampNeg nx) ck (nx + 1))) hP hD [5, 6, 7, 8, 9] [0, 1, 2, 3, 4, 10] rfl rfl (by decide) (by decide) hk9 hFc hP1 hD1
  generalize H1 = H at hP hS ⊢
  have hP := hP.sub (ws' := [(xh, .inr (0, [.ref xa0, .ref xa1, .ref xa2, .ref xa3, .long ck, .int (nx + 1)])), (xa0, .inl (kx0, 100, .inl (upd th j1.toNatClampNeg (vp_nar .boolean 1)))), (xa1, .inl (kx1, 100, .inr (.inl (vp_updL tm j1.toNatClampNeg ((j2.toInt64 <<< ((32 : Int32).toInt64 &&& 63)) ||| (j3.toInt64 &&& 4294967295)))))), (xa2, .inl (kx2, 100, .inl (upd pr j1.toNatClampNeg j4))), (xa3, .inl (kx3, 100, .inl (upd ag j1.toNatClampNeg nx))), (mh, .inr (1, [.int 0, .ref ma0, .ref ma1, .ref ma2, .ref ma3, .int (nx + 1), .long ck])), (ma0, .inl (km0, 100, .inl (upd th j1.toNatClampNeg (vp_nar .boolean 1)))), (ma1, .inl (km1, 100, .inr (.inl (vp_updL tm j1.toNatClampNeg ((j2.toInt64 <<< ((32 : Int32).toInt64 &&& 63)) ||| (j3.toInt64 &&& 4294967295)))))), (ma2, .inl (km2, 100, .inl (upd pr j1.toNatClampNeg j4))), (ma3, .inl (km3, 100, .inl (upd ag j1.toNatClampNeg nx))), (ao, .inl (k4, 1, .inr (.inl (vp_updL ou (0 : Int32).toNatClampNeg ((upd ag j1.toNatClampNeg nx j1.toNatClampNeg).toInt64)))))]) [0, 1, 2, 3, 4, 6, 7, 8, 9, 10, 5] rfl
  have hD := hD.sub (ws' := [(xh, .inr (0, [.ref xa0, .ref xa1, .ref xa2, .ref xa3, .long ck, .int (nx + 1)])), (xa0, .inl (kx0, 100, .inl (upd th j1.toNatClampNeg (vp_nar .boolean 1)))), (xa1, .inl (kx1, 100, .inr (.inl (vp_updL tm j1.toNatClampNeg ((j2.toInt64 <<< ((32 : Int32).toInt64 &&& 63)) ||| (j3.toInt64 &&& 4294967295)))))), (xa2, .inl (kx2, 100, .inl (upd pr j1.toNatClampNeg j4))), (xa3, .inl (kx3, 100, .inl (upd ag j1.toNatClampNeg nx))), (mh, .inr (1, [.int 0, .ref ma0, .ref ma1, .ref ma2, .ref ma3, .int (nx + 1), .long ck])), (ma0, .inl (km0, 100, .inl (upd th j1.toNatClampNeg (vp_nar .boolean 1)))), (ma1, .inl (km1, 100, .inr (.inl (vp_updL tm j1.toNatClampNeg ((j2.toInt64 <<< ((32 : Int32).toInt64 &&& 63)) ||| (j3.toInt64 &&& 4294967295)))))), (ma2, .inl (km2, 100, .inl (upd pr j1.toNatClampNeg j4))), (ma3, .inl (km3, 100, .inl (upd ag j1.toNatClampNeg nx))), (ao, .inl (k4, 1, .inr (.inl (vp_updL ou (0 : Int32).toNatClampNeg ((upd ag j1.toNatClampNeg nx j1.toNatClampNeg).toInt64)))))]) [0, 1, 2, 3, 4, 6, 7, 8, 9, 10, 5] (by decide) rfl
  refine lv_istore hx hb dL_law_163 hl (by decide) rfl (fun ls hl => ?_)
  have hl : lv_has ls 8 [(6, .int (upd ag j1.toNatClampNeg nx j1.toNatClampNeg)), (5, .int 0), (4, .int (nI i)), (0, .ref b), (1, .ref xh), (2, .ref mh), (3, .ref ao)] := hl
  refine lv_aload_n hx hb dL_law_165 rfl (lv_at hl 5 rfl) ?_
  have hPc := hP.sub (ws' := (tw_wM mh ma0 ma1 ma2 ma3 km0 km1 km2 km3 0 (upd th j1.toNatClampNeg (vp_nar .boolean 1)) (vp_updL tm j1.toNatClampNeg ((j2.toInt64 <<< ((32 : Int32).toInt64 &&& 63)) ||| (j3.toInt64 &&& 4294967295))) (upd pr j1.toNatClampNeg j4) (upd ag j1.toNatClampNeg nx) ck (nx + 1))) [5, 6, 7, 8, 9] rfl
  have hKc := hK.sub (tys' := tw_k km0 km1 km2 km3) [4, 5, 6, 7] rfl
  refine vp_callSi (W.runV (C := RM) (b := mh) (As := []) (rest := []) ⟨hx, hb, hml, hown, hT⟩ (cM_thrown l dC dI mh ma0 ma1 ma2 ma3 km0 km1 km2 km3 0 (upd th j1.toNatClampNeg (vp_nar .boolean 1)) (vp_updL tm j1.toNatClampNeg ((j2.toInt64 <<< ((32 : Int32).toInt64 &&& 63)) ||| (j3.toInt64 &&& 4294967295))) (upd pr j1.toNatClampNeg j4) (upd ag j1.toNatClampNeg nx) ck (nx + 1)) (cwV 0 hT (tw_gV tt_239 tt_240 tt_241 tt_2 tt_242) rfl rfl rfl ⟨rfl, by decide +kernel⟩ ⟨Nat.le_of_ble_eq_true rfl, Nat.le_of_ble_eq_true rfl⟩) ⟨fun a U g mk q => ⟨q.1, q.2.1, va_K.moved (u := U) (U := U.calling g mk a) (Vm.Alike.refl U.vm) q.2.2⟩, va_recv (q0 := 0) (ci := 1) hKc hPc rfl rfl, fun U hU hW => ⟨rfl, by rw [hU]; exact hPc, va_K.moved hW.alike hKc⟩⟩ rfl rfl hl.1 rfl (lv_room (Nat.le_of_ble_eq_true rfl)) dL_law_166 ⟨Nat.le_trans (Nat.le_succ _) hc.1, Nat.le_trans (Nat.le_add_right _ 6) hc.2⟩) (fun r8 h8 => ?_)
  subst r8
  refine lv_iload hx hb dL_law_169 (lv_at hl 1 rfl) ?_
  refine lv_icmp_eq (tgt := 176) hx hb dL_law_171 (by decide) (fun hc1 => ?_) (fun hc1 => absurd (rfl : (0 : Int32) = 0) hc1)
  refine lv_iload hx hb dL_law_176 (lv_at hl 1 rfl) ?_
  refine lv_if_ne (tgt := 193) hx hb dL_law_178 (by decide) (fun hc2 => absurd rfl hc2) (fun hc2 => ?_)
  refine lv_aload_n hx hb dL_law_181 rfl (lv_at hl 6 rfl) ?_
  refine lv_iconst (v := 0) hx hb dL_law_182 (by decide) ?_
  refine va_lald hx hb hK hP 10 8 rfl rfl (by unfold vp_in; decide) dL_law_183 ?_
  refine lv_iload hx hb dL_law_184 (lv_at hl 0 rfl) ?_
  refine lv_i2l hx hb dL_law_186 rfl ?_
  refine W.lcmp hx hb dL_law_187 ?_
  refine lv_if_eq (tgt := 193) hx hb dL_law_188 (by decide) (fun hc3 => ?_) (fun hc3 => absurd ((lg_cmp_eq _ _).mpr pk_uLs) hc3)
  refine lv_goto (tgt := 563) hx hb dL_law_193 (by decide) ?_
  refine W.widen (k := cells + 1) (n := slots + 6) (Nat.le_succ _) (Nat.le_add_right _ 6) ?_
  exact kk 0 (upd th j1.toNatClampNeg (vp_nar .boolean 1)) (vp_updL tm j1.toNatClampNeg ((j2.toInt64 <<< ((32 : Int32).toInt64 &&& 63)) ||| (j3.toInt64 &&& 4294967295))) (upd pr j1.toNatClampNeg j4) (upd ag j1.toNatClampNeg nx) ck (nx + 1) (vp_updL ou (0 : Int32).toNatClampNeg ((upd ag j1.toNatClampNeg nx j1.toNatClampNeg).toInt64)) H _ ls (hI.up _ ht0 ht1) hP hD hS (lv_sub hl [2, 3, 4, 5, 6] rfl)
end LLset
section LLsetB
variable {p : Program} {l : Launch} {e : Env} {s : State} {m : MethodId} {below : List Frame} {meth : Method} {c : Code} {H : Heap} {locs : List Loc} {cells slots : Nat} {Q : State → Prop} {ls : Array Slot} {b L i : Nat} {xs : Nat → Int32}
variable {dC : Nat → ClassId} {dI : Nat → Nat → Nat} {xh xa0 xa1 xa2 xa3 : Nat} {kx0 kx1 kx2 kx3 : ClassId} {mh ma0 ma1 ma2 ma3 : Nat} {km0 km1 km2 km3 : ClassId} {ao : Nat} {k4 : ClassId} {fl : Int32} {th : Nat → Int32} {tm : Nat → Int64} {pr ag : Nat → Int32} {ck : Int64} {nx : Int32} {ou : Nat → Int64}
set_option maxHeartbeats 4000000 in
set_option maxRecDepth 100000 in
theorem ll_setB (hx : p.tables.exec = Jvm.exec) (hb : c.code = bL_law) (hml : c.maxLocals = 8) (hT : ∀ w ∈ tw_T, w.before #[Value.ref b] s = true) (hown : s.vm.findClass RL = some m.cls) (hfl : l.flags = pinnedFlags ++ [noTraceFlag]) (hX : va_X b L xs s s.heap) (hbl : b < s.heap.size) (hZ : tw_Z s s.heap) (hNc : va_Nc tw_nse tw_iae s) (hL : L ≤ 2560) (hi : i + 5 ≤ L) (hc : cells + 1 ≤ 1044 ∧ slots + 6 ≤ 9060) (hI : tw_Inv tm ck) (hP : va_P (dC, dI) tw_cl (tw_wL xh xa0 xa1 xa2 xa3 kx0 kx1 kx2 kx3 mh ma0 ma1 ma2 ma3 km0 km1 km2 km3 ao k4 fl th tm pr ag ck nx ou) H) (hD : va_D (tw_AL s) (tw_wL xh xa0 xa1 xa2 xa3 kx0 kx1 kx2 kx3 mh ma0 ma1 ma2 ma3 km0 km1 km2 km3 ao k4 fl th tm pr ag ck nx ou)) (hK : va_K (dC, dI) tw_cl (tw_kL kx0 kx1 kx2 kx3 km0 km1 km2 km3 k4) s) (hS : va_S (tw_AL s) s.heap H locs) (hl : lv_has ls 8 [(4, .int (nI i)), (0, .ref b), (1, .ref xh), (2, .ref mh), (3, .ref ao)]) {j1 j2 j3 j4 : Int32} (e1 : xs (nI i + 1).toNatClampNeg = j1) (e2 : xs (nI i + 2).toNatClampNeg = j2) (e3 : xs (nI i + 3).toNatClampNeg = j3) (e4 : xs (nI i + 4).toNatClampNeg = j4) (hbad : ¬ (vp_in j1 100 ∧ 0 ≤ (j2.toInt64 <<< ((32 : Int32).toInt64 &&& 63)) ||| (j3.toInt64 &&& 4294967295) ∧ (j2.toInt64 <<< ((32 : Int32).toInt64 &&& 63)) ||| (j3.toInt64 &&& 4294967295) ≤ 70368744177664)) (kk : ∀ (fl' : Int32) (th' : Nat → Int32) (tm' : Nat → Int64) (pr' ag' : Nat → Int32) (ck' : Int64) (nx' : Int32) (ou' : Nat → Int64) (H' : Heap) (locs' : List Loc) (ls' : Array Slot), tw_Inv tm' ck' → va_P (dC, dI) tw_cl (tw_wL xh xa0 xa1 xa2 xa3 kx0 kx1 kx2 kx3 mh ma0 ma1 ma2 ma3 km0 km1 km2 km3 ao k4 fl' (th') (tm') (pr') (ag') (ck') (nx') (ou')) H' → va_D (tw_AL s) (tw_wL xh xa0 xa1 xa2 xa3 kx0 kx1 kx2 kx3 mh ma0 ma1 ma2 ma3 km0 km1 km2 km3 ao k4 (fl') (th') (tm') (pr') (ag') (ck') (nx') (ou')) → va_S (tw_AL s) s.heap H' locs' → lv_has ls' 8 [(4, .int (nI i)), (0, .ref b), (1, .ref xh), (2, .ref mh), (3, .ref ao)] → W p l e room_1 s m #[Value.ref b] below meth c H' locs' (cells + 1) (slots + 6) Q (F0 m 563 ls' [])) : W p l e room_1 s m #[Value.ref b] below meth c H locs cells slots Q (F0 m 84 ls []) := by
  have hA : ∀ q : Nat, s.heap.size ≤ q → tw_AL s q := fun q h => h
  have hbA : ¬ tw_AL s b := Nat.not_le.mpr hbl
  refine lv_aload_n hx hb dL_law_84 rfl (lv_at hl 2 rfl) ?_
  refine lv_aload_n hx hb dL_law_85 rfl (lv_at hl 1 rfl) ?_
  refine lv_iload hx hb dL_law_86 (lv_at hl 0 rfl) ?_
  refine lv_iconst (v := 1) hx hb dL_law_88 (by decide) ?_
  refine lv_iadd hx hb dL_law_89 ?_
  refine va_sld hx hb hX hbl hbA hS (tw_sin1 hi hL) dL_law_90 ?_
  rw [e1]
  refine lv_aload_n hx hb dL_law_91 rfl (lv_at hl 1 rfl) ?_
  refine lv_iload hx hb dL_law_92 (lv_at hl 0 rfl) ?_
  refine lv_iconst (v := 2) hx hb dL_law_94 (by decide) ?_
  refine lv_iadd hx hb dL_law_95 ?_
  refine va_sld hx hb hX hbl hbA hS (tw_sin2 hi hL) dL_law_96 ?_
  rw [e2]
  refine lv_i2l hx hb dL_law_97 rfl ?_
  refine lv_bipush (v := 32) hx hb dL_law_98 (by decide) ?_
  refine lv_lshl hx hb dL_law_100 rfl ?_
  refine lv_aload_n hx hb dL_law_101 rfl (lv_at hl 1 rfl) ?_
  refine lv_iload hx hb dL_law_102 (lv_at hl 0 rfl) ?_
  refine lv_iconst (v := 3) hx hb dL_law_104 (by decide) ?_
  refine lv_iadd hx hb dL_law_105 ?_
  refine va_sld hx hb hX hbl hbA hS (tw_sin3 hi hL) dL_law_106 ?_
  rw [e3]
  refine lv_i2l hx hb dL_law_107 rfl ?_
  refine lv_ldc2 (v := 4294967295) hx hb hown (hT _ tt_292) dL_law_108 ?_
  refine lv_land hx hb dL_law_111 ?_
  refine lv_lor hx hb dL_law_112 ?_
  refine lv_aload_n hx hb dL_law_113 rfl (lv_at hl 1 rfl) ?_
  refine lv_iload hx hb dL_law_114 (lv_at hl 0 rfl) ?_
  refine lv_iconst (v := 4) hx hb dL_law_116 (by decide) ?_
  refine lv_iadd hx hb dL_law_117 ?_
  refine va_sld hx hb hX hbl hbA hS (tw_sin4 hi hL) dL_law_118 ?_
  rw [e4]
  refine lv_aload_n hx hb dL_law_119 rfl (lv_at hl 4 rfl) ?_
  have hPc := hP.sub (ws' := (tw_wH xh xa0 xa1 xa2 xa3 kx0 kx1 kx2 kx3 th tm pr ag ck nx ao k4 ou)) [0, 1, 2, 3, 4, 10] rfl
  have hDc := hD.sub (ws' := (tw_wH xh xa0 xa1 xa2 xa3 kx0 kx1 kx2 kx3 th tm pr ag ck nx ao k4 ou)) [0, 1, 2, 3, 4, 10] (by decide) rfl
  have hKc := hK.sub (tys' := tw_kH kx0 kx1 kx2 kx3 k4) [0, 1, 2, 3, 8] rfl
  have hFc := va_free (wc := (tw_wH xh xa0 xa1 xa2 xa3 kx0 kx1 kx2 kx3 th tm pr ag ck nx ao k4 ou)) hD hS hA [0, 1, 2, 3, 4, 10] rfl
  have hZH : ∀ U : State, U.heap = H → s.WarmedH U.vm → tw_Z U U.heap := fun U hU hW => by rw [hU]; exact hZ.move hW (fun a ha => hS.2.1 a ha (Nat.not_le.mpr ha))
  refine va_calli (xt_runSW (n := 5) (As := [.ref xh, .int j1, .long ((j2.toInt64 <<< ((32 : Int32).toInt64 &&& 63)) ||| (j3.toInt64 &&& 4294967295)), .int j4, .ref ao]) (rest := []) ⟨hx, hb, hml, hown, hT⟩ (cL_setB l hfl dC dI xh xa0 xa1 xa2 xa3 kx0 kx1 kx2 kx3 th tm pr ag ck nx ao k4 ou H.size j1 _ j4 hbad) rfl (tw_gS tt_47 tt_48 tt_0 tt_49) rfl rfl ⟨rfl, by decide +kernel⟩ ⟨Nat.le_of_ble_eq_true rfl, Nat.le_of_ble_eq_true rfl⟩ ⟨fun a U g mk q => by obtain ⟨q0, q1, qP, qK, qD, qZ⟩ := q; exact ⟨q0, q1, qP, va_K.moved (u := U) (U := U.calling g mk a) (Vm.Alike.refl U.vm) qK, qD, qZ.call⟩, fun U hU hW => ⟨rfl, by rw [hU], by rw [hU]; exact hPc, va_K.moved hW.alike hKc, hDc.weaken (fun _ _ _ _ => trivial), hZH U hU hW⟩⟩ rfl rfl hl.1 rfl (lv_room (Nat.le_of_ble_eq_true rfl)) dL_law_120 hc) hS (fun q _ h => hFc q h) hFc (fun r9 u9 t9 H1 locs ht9 hvm9 hw9 hB9 hz9 hk9 hS => ?_)
  obtain ⟨hP1, hD1⟩ := hB9
  rw [ht9] at hP1
  have hw9 : r9 = 1 := hw9
  subst r9
  obtain ⟨hP, hD⟩ := va_join (wr := (tw_wM mh ma0 ma1 ma2 ma3 km0 km1 km2 km3 fl th tm pr ag ck nx)) (w1 := (tw_wH xh xa0 xa1 xa2 xa3 kx0 kx1 kx2 kx3 th tm pr ag ck nx ao k4 ou)) hP hD [0, 1, 2, 3, 4, 10] [5, 6, 7, 8, 9] rfl rfl (by decide) (by decide) hk9 hFc hP1 hD1
  generalize H1 = H at hP hS ⊢
  have hP := hP.sub (ws' := [(xh, .inr (0, [.ref xa0, .ref xa1, .ref xa2, .ref xa3, .long ck, .int nx])), (xa0, .inl (kx0, 100, .inl th)), (xa1, .inl (kx1, 100, .inr (.inl tm))), (xa2, .inl (kx2, 100, .inl pr)), (xa3, .inl (kx3, 100, .inl ag)), (mh, .inr (1, [.int fl, .ref ma0, .ref ma1, .ref ma2, .ref ma3, .int nx, .long ck])), (ma0, .inl (km0, 100, .inl th)), (ma1, .inl (km1, 100, .inr (.inl tm))), (ma2, .inl (km2, 100, .inl pr)), (ma3, .inl (km3, 100, .inl ag)), (ao, .inl (k4, 1, .inr (.inl ou)))]) [5, 6, 7, 8, 9, 0, 1, 2, 3, 4, 10] rfl
  have hD := hD.sub (ws' := [(xh, .inr (0, [.ref xa0, .ref xa1, .ref xa2, .ref xa3, .long ck, .int nx])), (xa0, .inl (kx0, 100, .inl th)), (xa1, .inl (kx1, 100, .inr (.inl tm))), (xa2, .inl (kx2, 100, .inl pr)), (xa3, .inl (kx3, 100, .inl ag)), (mh, .inr (1, [.int fl, .ref ma0, .ref ma1, .ref ma2, .ref ma3, .int nx, .long ck])), (ma0, .inl (km0, 100, .inl th)), (ma1, .inl (km1, 100, .inr (.inl tm))), (ma2, .inl (km2, 100, .inl pr)), (ma3, .inl (km3, 100, .inl ag)), (ao, .inl (k4, 1, .inr (.inl ou)))]) [5, 6, 7, 8, 9, 0, 1, 2, 3, 4, 10] (by decide) rfl
  refine lv_istore hx hb dL_law_123 hl (by decide) rfl (fun ls hl => ?_)
  have hl : lv_has ls 8 [(5, .int 1), (4, .int (nI i)), (0, .ref b), (1, .ref xh), (2, .ref mh), (3, .ref ao)] := hl
  refine lv_aload_n hx hb dL_law_125 rfl (lv_at hl 4 rfl) ?_
  refine lv_aload_n hx hb dL_law_126 rfl (lv_at hl 2 rfl) ?_
  refine lv_iload hx hb dL_law_127 (lv_at hl 1 rfl) ?_
  refine lv_iconst (v := 1) hx hb dL_law_129 (by decide) ?_
  refine lv_iadd hx hb dL_law_130 ?_
  refine va_sld hx hb hX hbl hbA hS (tw_sin1 hi hL) dL_law_131 ?_
  rw [e1]
  refine lv_aload_n hx hb dL_law_132 rfl (lv_at hl 2 rfl) ?_
  refine lv_iload hx hb dL_law_133 (lv_at hl 1 rfl) ?_
  refine lv_iconst (v := 2) hx hb dL_law_135 (by decide) ?_
  refine lv_iadd hx hb dL_law_136 ?_
  refine va_sld hx hb hX hbl hbA hS (tw_sin2 hi hL) dL_law_137 ?_
  rw [e2]
  refine lv_i2l hx hb dL_law_138 rfl ?_
  refine lv_bipush (v := 32) hx hb dL_law_139 (by decide) ?_
  refine lv_lshl hx hb dL_law_141 rfl ?_
  refine lv_aload_n hx hb dL_law_142 rfl (lv_at hl 2 rfl) ?_
  refine lv_iload hx hb dL_law_143 (lv_at hl 1 rfl) ?_
  refine lv_iconst (v := 3) hx hb dL_law_145 (by decide) ?_
  refine lv_iadd hx hb dL_law_146 ?_
  refine va_sld hx hb hX hbl hbA hS (tw_sin3 hi hL) dL_law_147 ?_
  rw [e3]
  refine lv_i2l hx hb dL_law_148 rfl ?_
  refine lv_ldc2 (v := 4294967295) hx hb hown (hT _ tt_292) dL_law_149 ?_
  refine lv_land hx hb dL_law_152 ?_
  refine lv_lor hx hb dL_law_153 ?_
  refine lv_aload_n hx hb dL_law_154 rfl (lv_at hl 2 rfl) ?_
  refine lv_iload hx hb dL_law_155 (lv_at hl 1 rfl) ?_
  refine lv_iconst (v := 4) hx hb dL_law_157 (by decide) ?_
  refine lv_iadd hx hb dL_law_158 ?_
  refine va_sld hx hb hX hbl hbA hS (tw_sin4 hi hL) dL_law_159 ?_
  rw [e4]
  have hPc := hP.sub (ws' := (tw_wM mh ma0 ma1 ma2 ma3 km0 km1 km2 km3 fl th tm pr ag ck nx)) [5, 6, 7, 8, 9] rfl
  have hDc := hD.sub (ws' := (tw_wM mh ma0 ma1 ma2 ma3 km0 km1 km2 km3 fl th tm pr ag ck nx)) [5, 6, 7, 8, 9] (by decide) rfl
  have hKc := hK.sub (tys' := tw_k km0 km1 km2 km3) [4, 5, 6, 7] rfl
  have hFc := va_free (wc := (tw_wM mh ma0 ma1 ma2 ma3 km0 km1 km2 km3 fl th tm pr ag ck nx)) hD hS hA [5, 6, 7, 8, 9] rfl
  refine va_calli (va_runV (C := RM) (b := mh) (As := [.int j1, .long ((j2.toInt64 <<< ((32 : Int32).toInt64 &&& 63)) ||| (j3.toInt64 &&& 4294967295)), .int j4]) (rest := []) ⟨hx, hb, hml, hown, hT⟩ (cM_setB l dC dI mh ma0 ma1 ma2 ma3 km0 km1 km2 km3 fl th tm pr ag ck nx H.size j1 _ j4 hbad) (cwV 3 hT (tw_gV tt_243 tt_244 tt_245 tt_2 tt_246) rfl rfl rfl ⟨rfl, by decide +kernel⟩ ⟨Nat.le_of_ble_eq_true rfl, Nat.le_of_ble_eq_true rfl⟩) ⟨fun a U g mk q => by obtain ⟨q0, q1, qP, qK, qD⟩ := q; exact ⟨q0, q1, qP, va_K.moved (u := U) (U := U.calling g mk a) (Vm.Alike.refl U.vm) qK, qD⟩, va_recv (q0 := 0) (ci := 1) hKc hPc rfl rfl, fun U hU hW => ⟨rfl, by rw [hU], by rw [hU]; exact hPc, va_K.moved hW.alike hKc, hDc.weaken (fun _ _ _ _ => trivial)⟩⟩ rfl rfl hl.1 rfl (lv_room (Nat.le_of_ble_eq_true rfl)) dL_law_160 hc) hS (fun q _ h => hFc q h) hFc (fun r9 u9 t9 H1 locs ht9 hvm9 hw9 hB9 hz9 hk9 hS => ?_)
  obtain ⟨hP1, hD1⟩ := hB9
  rw [ht9] at hP1
  have hw9 : r9 = 0 := hw9
  subst r9
  obtain ⟨hP, hD⟩ := va_join (wr := [(xh, .inr (0, [.ref xa0, .ref xa1, .ref xa2, .ref xa3, .long ck, .int nx])), (xa0, .inl (kx0, 100, .inl th)), (xa1, .inl (kx1, 100, .inr (.inl tm))), (xa2, .inl (kx2, 100, .inl pr)), (xa3, .inl (kx3, 100, .inl ag)), (ao, .inl (k4, 1, .inr (.inl ou)))]) (w1 := (tw_wM mh ma0 ma1 ma2 ma3 km0 km1 km2 km3 1 th tm pr ag ck nx)) hP hD [5, 6, 7, 8, 9] [0, 1, 2, 3, 4, 10] rfl rfl (by decide) (by decide) hk9 hFc hP1 hD1
  generalize H1 = H at hP hS ⊢
  have hP := hP.sub (ws' := [(xh, .inr (0, [.ref xa0, .ref xa1, .ref xa2, .ref xa3, .long ck, .int nx])), (xa0, .inl (kx0, 100, .inl th)), (xa1, .inl (kx1, 100, .inr (.inl tm))), (xa2, .inl (kx2, 100, .inl pr)), (xa3, .inl (kx3, 100, .inl ag)), (mh, .inr (1, [.int 1, .ref ma0, .ref ma1, .ref ma2, .ref ma3, .int nx, .long ck])), (ma0, .inl (km0, 100, .inl th)), (ma1, .inl (km1, 100, .inr (.inl tm))), (ma2, .inl (km2, 100, .inl pr)), (ma3, .inl (km3, 100, .inl ag)), (ao, .inl (k4, 1, .inr (.inl ou)))]) [0, 1, 2, 3, 4, 6, 7, 8, 9, 10, 5] rfl
  have hD := hD.sub (ws' := [(xh, .inr (0, [.ref xa0, .ref xa1, .ref xa2, .ref xa3, .long ck, .int nx])), (xa0, .inl (kx0, 100, .inl th)), (xa1, .inl (kx1, 100, .inr (.inl tm))), (xa2, .inl (kx2, 100, .inl pr)), (xa3, .inl (kx3, 100, .inl ag)), (mh, .inr (1, [.int 1, .ref ma0, .ref ma1, .ref ma2, .ref ma3, .int nx, .long ck])), (ma0, .inl (km0, 100, .inl th)), (ma1, .inl (km1, 100, .inr (.inl tm))), (ma2, .inl (km2, 100, .inl pr)), (ma3, .inl (km3, 100, .inl ag)), (ao, .inl (k4, 1, .inr (.inl ou)))]) [0, 1, 2, 3, 4, 6, 7, 8, 9, 10, 5] (by decide) rfl
  refine lv_istore hx hb dL_law_163 hl (by decide) rfl (fun ls hl => ?_)
  have hl : lv_has ls 8 [(6, .int 0), (5, .int 1), (4, .int (nI i)), (0, .ref b), (1, .ref xh), (2, .ref mh), (3, .ref ao)] := hl
  refine lv_aload_n hx hb dL_law_165 rfl (lv_at hl 5 rfl) ?_
  have hPc := hP.sub (ws' := (tw_wM mh ma0 ma1 ma2 ma3 km0 km1 km2 km3 1 th tm pr ag ck nx)) [5, 6, 7, 8, 9] rfl
  have hKc := hK.sub (tys' := tw_k km0 km1 km2 km3) [4, 5, 6, 7] rfl
  refine vp_callSi (W.runV (C := RM) (b := mh) (As := []) (rest := []) ⟨hx, hb, hml, hown, hT⟩ (cM_thrown l dC dI mh ma0 ma1 ma2 ma3 km0 km1 km2 km3 1 th tm pr ag ck nx) (cwV 0 hT (tw_gV tt_239 tt_240 tt_241 tt_2 tt_242) rfl rfl rfl ⟨rfl, by decide +kernel⟩ ⟨Nat.le_of_ble_eq_true rfl, Nat.le_of_ble_eq_true rfl⟩) ⟨fun a U g mk q => ⟨q.1, q.2.1, va_K.moved (u := U) (U := U.calling g mk a) (Vm.Alike.refl U.vm) q.2.2⟩, va_recv (q0 := 0) (ci := 1) hKc hPc rfl rfl, fun U hU hW => ⟨rfl, by rw [hU]; exact hPc, va_K.moved hW.alike hKc⟩⟩ rfl rfl hl.1 rfl (lv_room (Nat.le_of_ble_eq_true rfl)) dL_law_166 hc) (fun r8 h8 => ?_)
  subst r8
  refine lv_iload hx hb dL_law_169 (lv_at hl 1 rfl) ?_
  refine lv_icmp_eq (tgt := 176) hx hb dL_law_171 (by decide) (fun hc1 => ?_) (fun hc1 => absurd (rfl : (1 : Int32) = 1) hc1)
  refine lv_iload hx hb dL_law_176 (lv_at hl 1 rfl) ?_
  refine lv_if_ne (tgt := 193) hx hb dL_law_178 (by decide) (fun hc2 => ?_) (fun hc2 => absurd hc2 (by decide))
  refine lv_goto (tgt := 563) hx hb dL_law_193 (by decide) ?_
  exact kk 1 th tm pr ag ck nx ou H _ ls hI hP hD hS (lv_sub hl [2, 3, 4, 5, 6] rfl)
end LLsetB
section LLdrop
variable {p : Program} {l : Launch} {e : Env} {s : State} {m : MethodId} {below : List Frame} {meth : Method} {c : Code} {H : Heap} {locs : List Loc} {cells slots : Nat} {Q : State → Prop} {ls : Array Slot} {b L i : Nat} {xs : Nat → Int32}
variable {dC : Nat → ClassId} {dI : Nat → Nat → Nat} {xh xa0 xa1 xa2 xa3 : Nat} {kx0 kx1 kx2 kx3 : ClassId} {mh ma0 ma1 ma2 ma3 : Nat} {km0 km1 km2 km3 : ClassId} {ao : Nat} {k4 : ClassId} {fl : Int32} {th : Nat → Int32} {tm : Nat → Int64} {pr ag : Nat → Int32} {ck : Int64} {nx : Int32} {ou : Nat → Int64}
set_option maxHeartbeats 4000000 in
set_option maxRecDepth 100000 in
theorem ll_drop (hx : p.tables.exec = Jvm.exec) (hb : c.code = bL_law) (hml : c.maxLocals = 8) (hT : ∀ w ∈ tw_T, w.before #[Value.ref b] s = true) (hown : s.vm.findClass RL = some m.cls) (hfl : l.flags = pinnedFlags ++ [noTraceFlag]) (hX : va_X b L xs s s.heap) (hbl : b < s.heap.size) (hZ : tw_Z s s.heap) (hNc : va_Nc tw_nse tw_iae s) (hL : L ≤ 2560) (hi : i + 5 ≤ L) (hc : cells + 1 ≤ 1044 ∧ slots + 6 ≤ 9060) (hI : tw_Inv tm ck) (hP : va_P (dC, dI) tw_cl (tw_wL xh xa0 xa1 xa2 xa3 kx0 kx1 kx2 kx3 mh ma0 ma1 ma2 ma3 km0 km1 km2 km3 ao k4 fl th tm pr ag ck nx ou) H) (hD : va_D (tw_AL s) (tw_wL xh xa0 xa1 xa2 xa3 kx0 kx1 kx2 kx3 mh ma0 ma1 ma2 ma3 km0 km1 km2 km3 ao k4 fl th tm pr ag ck nx ou)) (hK : va_K (dC, dI) tw_cl (tw_kL kx0 kx1 kx2 kx3 km0 km1 km2 km3 k4) s) (hS : va_S (tw_AL s) s.heap H locs) (hl : lv_has ls 8 [(4, .int (nI i)), (0, .ref b), (1, .ref xh), (2, .ref mh), (3, .ref ao)]) {j1 : Int32} (e1 : xs (nI i + 1).toNatClampNeg = j1) (hj : vp_in j1 100) (ht : ¬ th j1.toNatClampNeg = 0) (kk : ∀ (fl' : Int32) (th' : Nat → Int32) (tm' : Nat → Int64) (pr' ag' : Nat → Int32) (ck' : Int64) (nx' : Int32) (ou' : Nat → Int64) (H' : Heap) (locs' : List Loc) (ls' : Array Slot), tw_Inv tm' ck' → va_P (dC, dI) tw_cl (tw_wL xh xa0 xa1 xa2 xa3 kx0 kx1 kx2 kx3 mh ma0 ma1 ma2 ma3 km0 km1 km2 km3 ao k4 fl' (th') (tm') (pr') (ag') (ck') (nx') (ou')) H' → va_D (tw_AL s) (tw_wL xh xa0 xa1 xa2 xa3 kx0 kx1 kx2 kx3 mh ma0 ma1 ma2 ma3 km0 km1 km2 km3 ao k4 (fl') (th') (tm') (pr') (ag') (ck') (nx') (ou')) → va_S (tw_AL s) s.heap H' locs' → lv_has ls' 8 [(4, .int (nI i)), (0, .ref b), (1, .ref xh), (2, .ref mh), (3, .ref ao)] → W p l e room_1 s m #[Value.ref b] below meth c H' locs' (cells + 1) (slots + 6) Q (F0 m 563 ls' [])) : W p l e room_1 s m #[Value.ref b] below meth c H locs cells slots Q (F0 m 196 ls []) := by
  have hA : ∀ q : Nat, s.heap.size ≤ q → tw_AL s q := fun q h => h
  have hbA : ¬ tw_AL s b := Nat.not_le.mpr hbl
  refine lv_aload_n hx hb dL_law_196 rfl (lv_at hl 2 rfl) ?_
  refine lv_aload_n hx hb dL_law_197 rfl (lv_at hl 1 rfl) ?_
  refine lv_iload hx hb dL_law_198 (lv_at hl 0 rfl) ?_
  refine lv_iconst (v := 1) hx hb dL_law_200 (by decide) ?_
  refine lv_iadd hx hb dL_law_201 ?_
  refine va_sld hx hb hX hbl hbA hS (tw_sin1 hi hL) dL_law_202 ?_
  rw [e1]
  refine lv_aload_n hx hb dL_law_203 rfl (lv_at hl 4 rfl) ?_
  have hPc := hP.sub (ws' := (tw_wH xh xa0 xa1 xa2 xa3 kx0 kx1 kx2 kx3 th tm pr ag ck nx ao k4 ou)) [0, 1, 2, 3, 4, 10] rfl
  have hDc := hD.sub (ws' := (tw_wH xh xa0 xa1 xa2 xa3 kx0 kx1 kx2 kx3 th tm pr ag ck nx ao k4 ou)) [0, 1, 2, 3, 4, 10] (by decide) rfl
  have hKc := hK.sub (tys' := tw_kH kx0 kx1 kx2 kx3 k4) [0, 1, 2, 3, 8] rfl
  have hFc := va_free (wc := (tw_wH xh xa0 xa1 xa2 xa3 kx0 kx1 kx2 kx3 th tm pr ag ck nx ao k4 ou)) hD hS hA [0, 1, 2, 3, 4, 10] rfl
  refine va_calli (xt_runSW (n := 3) (As := [.ref xh, .int j1, .ref ao]) (rest := []) ⟨hx, hb, hml, hown, hT⟩ (cL_drop l dC dI xh xa0 xa1 xa2 xa3 kx0 kx1 kx2 kx3 th tm pr ag ck nx ao k4 ou H.size j1 hj ht) rfl (tw_gS tt_127 tt_128 tt_0 tt_129) rfl rfl ⟨rfl, by decide +kernel⟩ ⟨Nat.le_of_ble_eq_true rfl, Nat.le_of_ble_eq_true rfl⟩ ⟨fun a U g mk q => by obtain ⟨q0, q1, qP, qK, qD⟩ := q; exact ⟨q0, q1, qP, va_K.moved (u := U) (U := U.calling g mk a) (Vm.Alike.refl U.vm) qK, qD⟩, fun U hU hW => ⟨rfl, by rw [hU], by rw [hU]; exact hPc, va_K.moved hW.alike hKc, hDc.weaken (fun _ _ _ _ => trivial)⟩⟩ rfl rfl hl.1 rfl (lv_room (Nat.le_of_ble_eq_true rfl)) dL_law_204 ⟨Nat.le_trans (Nat.le_succ _) hc.1, Nat.le_trans (Nat.le_add_right _ 6) hc.2⟩) hS (fun q _ h => hFc q h) hFc (fun r9 u9 t9 H1 locs ht9 hvm9 hw9 hB9 hz9 hk9 hS => ?_)
  obtain ⟨hP1, hD1⟩ := hB9
  rw [ht9] at hP1
  have hw9 : r9 = 0 := hw9
  subst r9
  obtain ⟨hP, hD⟩ := va_join (wr := (tw_wM mh ma0 ma1 ma2 ma3 km0 km1 km2 km3 fl th tm pr ag ck nx)) (w1 := (tw_wH xh xa0 xa1 xa2 xa3 kx0 kx1 kx2 kx3 (upd th j1.toNatClampNeg (vp_nar .boolean 0)) tm pr ag ck nx ao k4 (vp_updL ou (0 : Int32).toNatClampNeg (tm j1.toNatClampNeg)))) hP hD [0, 1, 2, 3, 4, 10] [5, 6, 7, 8, 9] rfl rfl (by decide) (by decide) hk9 hFc hP1 hD1
  generalize H1 = H at hP hS ⊢
  have hP := hP.sub (ws' := [(xh, .inr (0, [.ref xa0, .ref xa1, .ref xa2, .ref xa3, .long ck, .int nx])), (xa0, .inl (kx0, 100, .inl (upd th j1.toNatClampNeg (vp_nar .boolean 0)))), (xa1, .inl (kx1, 100, .inr (.inl tm))), (xa2, .inl (kx2, 100, .inl pr)), (xa3, .inl (kx3, 100, .inl ag)), (mh, .inr (1, [.int fl, .ref ma0, .ref ma1, .ref ma2, .ref ma3, .int nx, .long ck])), (ma0, .inl (km0, 100, .inl th)), (ma1, .inl (km1, 100, .inr (.inl tm))), (ma2, .inl (km2, 100, .inl pr)), (ma3, .inl (km3, 100, .inl ag)), (ao, .inl (k4, 1, .inr (.inl (vp_updL ou (0 : Int32).toNatClampNeg (tm j1.toNatClampNeg)))))]) [5, 6, 7, 8, 9, 0, 1, 2, 3, 4, 10] rfl
  have hD := hD.sub (ws' := [(xh, .inr (0, [.ref xa0, .ref xa1, .ref xa2, .ref xa3, .long ck, .int nx])), (xa0, .inl (kx0, 100, .inl (upd th j1.toNatClampNeg (vp_nar .boolean 0)))), (xa1, .inl (kx1, 100, .inr (.inl tm))), (xa2, .inl (kx2, 100, .inl pr)), (xa3, .inl (kx3, 100, .inl ag)), (mh, .inr (1, [.int fl, .ref ma0, .ref ma1, .ref ma2, .ref ma3, .int nx, .long ck])), (ma0, .inl (km0, 100, .inl th)), (ma1, .inl (km1, 100, .inr (.inl tm))), (ma2, .inl (km2, 100, .inl pr)), (ma3, .inl (km3, 100, .inl ag)), (ao, .inl (k4, 1, .inr (.inl (vp_updL ou (0 : Int32).toNatClampNeg (tm j1.toNatClampNeg)))))]) [5, 6, 7, 8, 9, 0, 1, 2, 3, 4, 10] (by decide) rfl
  refine lv_istore hx hb dL_law_207 hl (by decide) rfl (fun ls hl => ?_)
  have hl : lv_has ls 8 [(5, .int 0), (4, .int (nI i)), (0, .ref b), (1, .ref xh), (2, .ref mh), (3, .ref ao)] := hl
  refine lv_aload_n hx hb dL_law_209 rfl (lv_at hl 4 rfl) ?_
  refine lv_aload_n hx hb dL_law_210 rfl (lv_at hl 2 rfl) ?_
  refine lv_iload hx hb dL_law_211 (lv_at hl 1 rfl) ?_
  refine lv_iconst (v := 1) hx hb dL_law_213 (by decide) ?_
  refine lv_iadd hx hb dL_law_214 ?_
  refine va_sld hx hb hX hbl hbA hS (tw_sin1 hi hL) dL_law_215 ?_
  rw [e1]
  have hPc := hP.sub (ws' := (tw_wM mh ma0 ma1 ma2 ma3 km0 km1 km2 km3 fl th tm pr ag ck nx)) [5, 6, 7, 8, 9] rfl
  have hDc := hD.sub (ws' := (tw_wM mh ma0 ma1 ma2 ma3 km0 km1 km2 km3 fl th tm pr ag ck nx)) [5, 6, 7, 8, 9] (by decide) rfl
  have hKc := hK.sub (tys' := tw_k km0 km1 km2 km3) [4, 5, 6, 7] rfl
  have hFc := va_free (wc := (tw_wM mh ma0 ma1 ma2 ma3 km0 km1 km2 km3 fl th tm pr ag ck nx)) hD hS hA [5, 6, 7, 8, 9] rfl
  refine va_calll (va_runV (C := RM) (b := mh) (As := [.int j1]) (rest := []) ⟨hx, hb, hml, hown, hT⟩ (cM_drop l dC dI mh ma0 ma1 ma2 ma3 km0 km1 km2 km3 fl th tm pr ag ck nx H.size j1 hj ht) (cwV 1 hT (tw_gV tt_252 tt_253 tt_254 tt_2 tt_255) rfl rfl rfl ⟨rfl, by decide +kernel⟩ ⟨Nat.le_of_ble_eq_true rfl, Nat.le_of_ble_eq_true rfl⟩) ⟨fun a U g mk q => by obtain ⟨q0, q1, qP, qK, qD⟩ := q; exact ⟨q0, q1, qP, va_K.moved (u := U) (U := U.calling g mk a) (Vm.Alike.refl U.vm) qK, qD⟩, va_recv (q0 := 0) (ci := 1) hKc hPc rfl rfl, fun U hU hW => ⟨rfl, by rw [hU], by rw [hU]; exact hPc, va_K.moved hW.alike hKc, hDc.weaken (fun _ _ _ _ => trivial)⟩⟩ rfl rfl hl.1 rfl (lv_room (Nat.le_of_ble_eq_true rfl)) dL_law_216 ⟨Nat.le_trans (Nat.le_succ _) hc.1, Nat.le_trans (Nat.le_add_right _ 6) hc.2⟩) hS (fun q _ h => hFc q h) hFc (fun r9 u9 t9 H1 locs ht9 hvm9 hw9 hB9 hz9 hk9 hS => ?_)
  obtain ⟨hP1, hD1⟩ := hB9
  rw [ht9] at hP1
  have hw9 : r9 = tm j1.toNatClampNeg := hw9
  subst r9
  obtain ⟨hP, hD⟩ := va_join (wr := [(xh, .inr (0, [.ref xa0, .ref xa1, .ref xa2, .ref xa3, .long ck, .int nx])), (xa0, .inl (kx0, 100, .inl (upd th j1.toNatClampNeg (vp_nar .boolean 0)))), (xa1, .inl (kx1, 100, .inr (.inl tm))), (xa2, .inl (kx2, 100, .inl pr)), (xa3, .inl (kx3, 100, .inl ag)), (ao, .inl (k4, 1, .inr (.inl (vp_updL ou (0 : Int32).toNatClampNeg (tm j1.toNatClampNeg)))))]) (w1 := (tw_wM mh ma0 ma1 ma2 ma3 km0 km1 km2 km3 0 (upd th j1.toNatClampNeg (vp_nar .boolean 0)) tm pr ag ck nx)) hP hD [5, 6, 7, 8, 9] [0, 1, 2, 3, 4, 10] rfl rfl (by decide) (by decide) hk9 hFc hP1 hD1
  generalize H1 = H at hP hS ⊢
  have hP := hP.sub (ws' := [(xh, .inr (0, [.ref xa0, .ref xa1, .ref xa2, .ref xa3, .long ck, .int nx])), (xa0, .inl (kx0, 100, .inl (upd th j1.toNatClampNeg (vp_nar .boolean 0)))), (xa1, .inl (kx1, 100, .inr (.inl tm))), (xa2, .inl (kx2, 100, .inl pr)), (xa3, .inl (kx3, 100, .inl ag)), (mh, .inr (1, [.int 0, .ref ma0, .ref ma1, .ref ma2, .ref ma3, .int nx, .long ck])), (ma0, .inl (km0, 100, .inl (upd th j1.toNatClampNeg (vp_nar .boolean 0)))), (ma1, .inl (km1, 100, .inr (.inl tm))), (ma2, .inl (km2, 100, .inl pr)), (ma3, .inl (km3, 100, .inl ag)), (ao, .inl (k4, 1, .inr (.inl (vp_updL ou (0 : Int32).toNatClampNeg (tm j1.toNatClampNeg)))))]) [0, 1, 2, 3, 4, 6, 7, 8, 9, 10, 5] rfl
  have hD := hD.sub (ws' := [(xh, .inr (0, [.ref xa0, .ref xa1, .ref xa2, .ref xa3, .long ck, .int nx])), (xa0, .inl (kx0, 100, .inl (upd th j1.toNatClampNeg (vp_nar .boolean 0)))), (xa1, .inl (kx1, 100, .inr (.inl tm))), (xa2, .inl (kx2, 100, .inl pr)), (xa3, .inl (kx3, 100, .inl ag)), (mh, .inr (1, [.int 0, .ref ma0, .ref ma1, .ref ma2, .ref ma3, .int nx, .long ck])), (ma0, .inl (km0, 100, .inl (upd th j1.toNatClampNeg (vp_nar .boolean 0)))), (ma1, .inl (km1, 100, .inr (.inl tm))), (ma2, .inl (km2, 100, .inl pr)), (ma3, .inl (km3, 100, .inl ag)), (ao, .inl (k4, 1, .inr (.inl (vp_updL ou (0 : Int32).toNatClampNeg (tm j1.toNatClampNeg)))))]) [0, 1, 2, 3, 4, 6, 7, 8, 9, 10, 5] (by decide) rfl
  refine lv_lstore hx hb dL_law_219 hl (by decide) rfl (fun ls hl => ?_)
  have hl : lv_has ls 8 [(6, .long (tm j1.toNatClampNeg)), (5, .int 0), (4, .int (nI i)), (0, .ref b), (1, .ref xh), (2, .ref mh), (3, .ref ao)] := hl
  refine lv_aload_n hx hb dL_law_221 rfl (lv_at hl 5 rfl) ?_
  have hPc := hP.sub (ws' := (tw_wM mh ma0 ma1 ma2 ma3 km0 km1 km2 km3 0 (upd th j1.toNatClampNeg (vp_nar .boolean 0)) tm pr ag ck nx)) [5, 6, 7, 8, 9] rfl
  have hKc := hK.sub (tys' := tw_k km0 km1 km2 km3) [4, 5, 6, 7] rfl
  refine vp_callSi (W.runV (C := RM) (b := mh) (As := []) (rest := []) ⟨hx, hb, hml, hown, hT⟩ (cM_thrown l dC dI mh ma0 ma1 ma2 ma3 km0 km1 km2 km3 0 (upd th j1.toNatClampNeg (vp_nar .boolean 0)) tm pr ag ck nx) (cwV 0 hT (tw_gV tt_239 tt_240 tt_241 tt_2 tt_242) rfl rfl rfl ⟨rfl, by decide +kernel⟩ ⟨Nat.le_of_ble_eq_true rfl, Nat.le_of_ble_eq_true rfl⟩) ⟨fun a U g mk q => ⟨q.1, q.2.1, va_K.moved (u := U) (U := U.calling g mk a) (Vm.Alike.refl U.vm) q.2.2⟩, va_recv (q0 := 0) (ci := 1) hKc hPc rfl rfl, fun U hU hW => ⟨rfl, by rw [hU]; exact hPc, va_K.moved hW.alike hKc⟩⟩ rfl rfl hl.1 rfl (lv_room (Nat.le_of_ble_eq_true rfl)) dL_law_222 ⟨Nat.le_trans (Nat.le_succ _) hc.1, Nat.le_trans (Nat.le_add_right _ 6) hc.2⟩) (fun r8 h8 => ?_)
  subst r8
  refine lv_iload hx hb dL_law_225 (lv_at hl 1 rfl) ?_
  refine lv_icmp_eq (tgt := 232) hx hb dL_law_227 (by decide) (fun hc1 => ?_) (fun hc1 => absurd (rfl : (0 : Int32) = 0) hc1)
  refine lv_iload hx hb dL_law_232 (lv_at hl 1 rfl) ?_
  refine lv_if_ne (tgt := 248) hx hb dL_law_234 (by decide) (fun hc2 => absurd rfl hc2) (fun hc2 => ?_)
  refine lv_aload_n hx hb dL_law_237 rfl (lv_at hl 6 rfl) ?_
  refine lv_iconst (v := 0) hx hb dL_law_238 (by decide) ?_
  refine va_lald hx hb hK hP 10 8 rfl rfl (by unfold vp_in; decide) dL_law_239 ?_
  refine lv_lload hx hb dL_law_240 (lv_at hl 0 rfl) ?_
  refine W.lcmp hx hb dL_law_242 ?_
  refine lv_if_eq (tgt := 248) hx hb dL_law_243 (by decide) (fun hc3 => ?_) (fun hc3 => absurd ((lg_cmp_eq _ _).mpr pk_uLs) hc3)
  refine lv_goto (tgt := 563) hx hb dL_law_248 (by decide) ?_
  refine W.widen (k := cells + 1) (n := slots + 6) (Nat.le_succ _) (Nat.le_add_right _ 6) ?_
  exact kk 0 (upd th j1.toNatClampNeg (vp_nar .boolean 0)) tm pr ag ck nx (vp_updL ou (0 : Int32).toNatClampNeg (tm j1.toNatClampNeg)) H _ ls hI hP hD hS (lv_sub hl [2, 3, 4, 5, 6] rfl)
end LLdrop
section LLdropA
variable {p : Program} {l : Launch} {e : Env} {s : State} {m : MethodId} {below : List Frame} {meth : Method} {c : Code} {H : Heap} {locs : List Loc} {cells slots : Nat} {Q : State → Prop} {ls : Array Slot} {b L i : Nat} {xs : Nat → Int32}
variable {dC : Nat → ClassId} {dI : Nat → Nat → Nat} {xh xa0 xa1 xa2 xa3 : Nat} {kx0 kx1 kx2 kx3 : ClassId} {mh ma0 ma1 ma2 ma3 : Nat} {km0 km1 km2 km3 : ClassId} {ao : Nat} {k4 : ClassId} {fl : Int32} {th : Nat → Int32} {tm : Nat → Int64} {pr ag : Nat → Int32} {ck : Int64} {nx : Int32} {ou : Nat → Int64}
set_option maxHeartbeats 4000000 in
set_option maxRecDepth 100000 in
theorem ll_dropA (hx : p.tables.exec = Jvm.exec) (hb : c.code = bL_law) (hml : c.maxLocals = 8) (hT : ∀ w ∈ tw_T, w.before #[Value.ref b] s = true) (hown : s.vm.findClass RL = some m.cls) (hfl : l.flags = pinnedFlags ++ [noTraceFlag]) (hX : va_X b L xs s s.heap) (hbl : b < s.heap.size) (hZ : tw_Z s s.heap) (hNc : va_Nc tw_nse tw_iae s) (hL : L ≤ 2560) (hi : i + 5 ≤ L) (hc : cells + 1 ≤ 1044 ∧ slots + 6 ≤ 9060) (hI : tw_Inv tm ck) (hP : va_P (dC, dI) tw_cl (tw_wL xh xa0 xa1 xa2 xa3 kx0 kx1 kx2 kx3 mh ma0 ma1 ma2 ma3 km0 km1 km2 km3 ao k4 fl th tm pr ag ck nx ou) H) (hD : va_D (tw_AL s) (tw_wL xh xa0 xa1 xa2 xa3 kx0 kx1 kx2 kx3 mh ma0 ma1 ma2 ma3 km0 km1 km2 km3 ao k4 fl th tm pr ag ck nx ou)) (hK : va_K (dC, dI) tw_cl (tw_kL kx0 kx1 kx2 kx3 km0 km1 km2 km3 k4) s) (hS : va_S (tw_AL s) s.heap H locs) (hl : lv_has ls 8 [(4, .int (nI i)), (0, .ref b), (1, .ref xh), (2, .ref mh), (3, .ref ao)]) {j1 : Int32} (e1 : xs (nI i + 1).toNatClampNeg = j1) (hj : ¬ vp_in j1 100) (kk : ∀ (fl' : Int32) (th' : Nat → Int32) (tm' : Nat → Int64) (pr' ag' : Nat → Int32) (ck' : Int64) (nx' : Int32) (ou' : Nat → Int64) (H' : Heap) (locs' : List Loc) (ls' : Array Slot), tw_Inv tm' ck' → va_P (dC, dI) tw_cl (tw_wL xh xa0 xa1 xa2 xa3 kx0 kx1 kx2 kx3 mh ma0 ma1 ma2 ma3 km0 km1 km2 km3 ao k4 fl' (th') (tm') (pr') (ag') (ck') (nx') (ou')) H' → va_D (tw_AL s) (tw_wL xh xa0 xa1 xa2 xa3 kx0 kx1 kx2 kx3 mh ma0 ma1 ma2 ma3 km0 km1 km2 km3 ao k4 (fl') (th') (tm') (pr') (ag') (ck') (nx') (ou')) → va_S (tw_AL s) s.heap H' locs' → lv_has ls' 8 [(4, .int (nI i)), (0, .ref b), (1, .ref xh), (2, .ref mh), (3, .ref ao)] → W p l e room_1 s m #[Value.ref b] below meth c H' locs' (cells + 1) (slots + 6) Q (F0 m 563 ls' [])) : W p l e room_1 s m #[Value.ref b] below meth c H locs cells slots Q (F0 m 196 ls []) := by
  have hA : ∀ q : Nat, s.heap.size ≤ q → tw_AL s q := fun q h => h
  have hbA : ¬ tw_AL s b := Nat.not_le.mpr hbl
  refine lv_aload_n hx hb dL_law_196 rfl (lv_at hl 2 rfl) ?_
  refine lv_aload_n hx hb dL_law_197 rfl (lv_at hl 1 rfl) ?_
  refine lv_iload hx hb dL_law_198 (lv_at hl 0 rfl) ?_
  refine lv_iconst (v := 1) hx hb dL_law_200 (by decide) ?_
  refine lv_iadd hx hb dL_law_201 ?_
  refine va_sld hx hb hX hbl hbA hS (tw_sin1 hi hL) dL_law_202 ?_
  rw [e1]
  refine lv_aload_n hx hb dL_law_203 rfl (lv_at hl 4 rfl) ?_
  have hPc := hP.sub (ws' := (tw_wH xh xa0 xa1 xa2 xa3 kx0 kx1 kx2 kx3 th tm pr ag ck nx ao k4 ou)) [0, 1, 2, 3, 4, 10] rfl
  have hDc := hD.sub (ws' := (tw_wH xh xa0 xa1 xa2 xa3 kx0 kx1 kx2 kx3 th tm pr ag ck nx ao k4 ou)) [0, 1, 2, 3, 4, 10] (by decide) rfl
  have hKc := hK.sub (tys' := tw_kH kx0 kx1 kx2 kx3 k4) [0, 1, 2, 3, 8] rfl
  have hFc := va_free (wc := (tw_wH xh xa0 xa1 xa2 xa3 kx0 kx1 kx2 kx3 th tm pr ag ck nx ao k4 ou)) hD hS hA [0, 1, 2, 3, 4, 10] rfl
  have hZH : ∀ U : State, U.heap = H → s.WarmedH U.vm → tw_Z U U.heap := fun U hU hW => by rw [hU]; exact hZ.move hW (fun a ha => hS.2.1 a ha (Nat.not_le.mpr ha))
  refine va_calli (xt_runSW (n := 3) (As := [.ref xh, .int j1, .ref ao]) (rest := []) ⟨hx, hb, hml, hown, hT⟩ (cL_dropA l hfl dC dI xh xa0 xa1 xa2 xa3 kx0 kx1 kx2 kx3 th tm pr ag ck nx ao k4 ou H.size j1 hj) rfl (tw_gS tt_127 tt_128 tt_0 tt_129) rfl rfl ⟨rfl, by decide +kernel⟩ ⟨Nat.le_of_ble_eq_true rfl, Nat.le_of_ble_eq_true rfl⟩ ⟨fun a U g mk q => by obtain ⟨q0, q1, qP, qK, qD, qZ⟩ := q; exact ⟨q0, q1, qP, va_K.moved (u := U) (U := U.calling g mk a) (Vm.Alike.refl U.vm) qK, qD, qZ.call⟩, fun U hU hW => ⟨rfl, by rw [hU], by rw [hU]; exact hPc, va_K.moved hW.alike hKc, hDc.weaken (fun _ _ _ _ => trivial), hZH U hU hW⟩⟩ rfl rfl hl.1 rfl (lv_room (Nat.le_of_ble_eq_true rfl)) dL_law_204 hc) hS (fun q _ h => hFc q h) hFc (fun r9 u9 t9 H1 locs ht9 hvm9 hw9 hB9 hz9 hk9 hS => ?_)
  obtain ⟨hP1, hD1⟩ := hB9
  rw [ht9] at hP1
  have hw9 : r9 = 1 := hw9
  subst r9
  obtain ⟨hP, hD⟩ := va_join (wr := (tw_wM mh ma0 ma1 ma2 ma3 km0 km1 km2 km3 fl th tm pr ag ck nx)) (w1 := (tw_wH xh xa0 xa1 xa2 xa3 kx0 kx1 kx2 kx3 th tm pr ag ck nx ao k4 ou)) hP hD [0, 1, 2, 3, 4, 10] [5, 6, 7, 8, 9] rfl rfl (by decide) (by decide) hk9 hFc hP1 hD1
  generalize H1 = H at hP hS ⊢
  have hP := hP.sub (ws' := [(xh, .inr (0, [.ref xa0, .ref xa1, .ref xa2, .ref xa3, .long ck, .int nx])), (xa0, .inl (kx0, 100, .inl th)), (xa1, .inl (kx1, 100, .inr (.inl tm))), (xa2, .inl (kx2, 100, .inl pr)), (xa3, .inl (kx3, 100, .inl ag)), (mh, .inr (1, [.int fl, .ref ma0, .ref ma1, .ref ma2, .ref ma3, .int nx, .long ck])), (ma0, .inl (km0, 100, .inl th)), (ma1, .inl (km1, 100, .inr (.inl tm))), (ma2, .inl (km2, 100, .inl pr)), (ma3, .inl (km3, 100, .inl ag)), (ao, .inl (k4, 1, .inr (.inl ou)))]) [5, 6, 7, 8, 9, 0, 1, 2, 3, 4, 10] rfl
  have hD := hD.sub (ws' := [(xh, .inr (0, [.ref xa0, .ref xa1, .ref xa2, .ref xa3, .long ck, .int nx])), (xa0, .inl (kx0, 100, .inl th)), (xa1, .inl (kx1, 100, .inr (.inl tm))), (xa2, .inl (kx2, 100, .inl pr)), (xa3, .inl (kx3, 100, .inl ag)), (mh, .inr (1, [.int fl, .ref ma0, .ref ma1, .ref ma2, .ref ma3, .int nx, .long ck])), (ma0, .inl (km0, 100, .inl th)), (ma1, .inl (km1, 100, .inr (.inl tm))), (ma2, .inl (km2, 100, .inl pr)), (ma3, .inl (km3, 100, .inl ag)), (ao, .inl (k4, 1, .inr (.inl ou)))]) [5, 6, 7, 8, 9, 0, 1, 2, 3, 4, 10] (by decide) rfl
  refine lv_istore hx hb dL_law_207 hl (by decide) rfl (fun ls hl => ?_)
  have hl : lv_has ls 8 [(5, .int 1), (4, .int (nI i)), (0, .ref b), (1, .ref xh), (2, .ref mh), (3, .ref ao)] := hl
  refine lv_aload_n hx hb dL_law_209 rfl (lv_at hl 4 rfl) ?_
  refine lv_aload_n hx hb dL_law_210 rfl (lv_at hl 2 rfl) ?_
  refine lv_iload hx hb dL_law_211 (lv_at hl 1 rfl) ?_
  refine lv_iconst (v := 1) hx hb dL_law_213 (by decide) ?_
  refine lv_iadd hx hb dL_law_214 ?_
  refine va_sld hx hb hX hbl hbA hS (tw_sin1 hi hL) dL_law_215 ?_
  rw [e1]
  have hPc := hP.sub (ws' := (tw_wM mh ma0 ma1 ma2 ma3 km0 km1 km2 km3 fl th tm pr ag ck nx)) [5, 6, 7, 8, 9] rfl
  have hDc := hD.sub (ws' := (tw_wM mh ma0 ma1 ma2 ma3 km0 km1 km2 km3 fl th tm pr ag ck nx)) [5, 6, 7, 8, 9] (by decide) rfl
  have hKc := hK.sub (tys' := tw_k km0 km1 km2 km3) [4, 5, 6, 7] rfl
  have hFc := va_free (wc := (tw_wM mh ma0 ma1 ma2 ma3 km0 km1 km2 km3 fl th tm pr ag ck nx)) hD hS hA [5, 6, 7, 8, 9] rfl
  refine va_calll (va_runV (C := RM) (b := mh) (As := [.int j1]) (rest := []) ⟨hx, hb, hml, hown, hT⟩ (cM_dropA l dC dI mh ma0 ma1 ma2 ma3 km0 km1 km2 km3 fl th tm pr ag ck nx H.size j1 hj) (cwV 1 hT (tw_gV tt_252 tt_253 tt_254 tt_2 tt_255) rfl rfl rfl ⟨rfl, by decide +kernel⟩ ⟨Nat.le_of_ble_eq_true rfl, Nat.le_of_ble_eq_true rfl⟩) ⟨fun a U g mk q => by obtain ⟨q0, q1, qP, qK, qD⟩ := q; exact ⟨q0, q1, qP, va_K.moved (u := U) (U := U.calling g mk a) (Vm.Alike.refl U.vm) qK, qD⟩, va_recv (q0 := 0) (ci := 1) hKc hPc rfl rfl, fun U hU hW => ⟨rfl, by rw [hU], by rw [hU]; exact hPc, va_K.moved hW.alike hKc, hDc.weaken (fun _ _ _ _ => trivial)⟩⟩ rfl rfl hl.1 rfl (lv_room (Nat.le_of_ble_eq_true rfl)) dL_law_216 hc) hS (fun q _ h => hFc q h) hFc (fun r9 u9 t9 H1 locs ht9 hvm9 hw9 hB9 hz9 hk9 hS => ?_)
  obtain ⟨hP1, hD1⟩ := hB9
  rw [ht9] at hP1
  have hw9 : r9 = 0 := hw9
  subst r9
  obtain ⟨hP, hD⟩ := va_join (wr := [(xh, .inr (0, [.ref xa0, .ref xa1, .ref xa2, .ref xa3, .long ck, .int nx])), (xa0, .inl (kx0, 100, .inl th)), (xa1, .inl (kx1, 100, .inr (.inl tm))), (xa2, .inl (kx2, 100, .inl pr)), (xa3, .inl (kx3, 100, .inl ag)), (ao, .inl (k4, 1, .inr (.inl ou)))]) (w1 := (tw_wM mh ma0 ma1 ma2 ma3 km0 km1 km2 km3 1 th tm pr ag ck nx)) hP hD [5, 6, 7, 8, 9] [0, 1, 2, 3, 4, 10] rfl rfl (by decide) (by decide) hk9 hFc hP1 hD1
  generalize H1 = H at hP hS ⊢
  have hP := hP.sub (ws' := [(xh, .inr (0, [.ref xa0, .ref xa1, .ref xa2, .ref xa3, .long ck, .int nx])), (xa0, .inl (kx0, 100, .inl th)), (xa1, .inl (kx1, 100, .inr (.inl tm))), (xa2, .inl (kx2, 100, .inl pr)), (xa3, .inl (kx3, 100, .inl ag)), (mh, .inr (1, [.int 1, .ref ma0, .ref ma1, .ref ma2, .ref ma3, .int nx, .long ck])), (ma0, .inl (km0, 100, .inl th)), (ma1, .inl (km1, 100, .inr (.inl tm))), (ma2, .inl (km2, 100, .inl pr)), (ma3, .inl (km3, 100, .inl ag)), (ao, .inl (k4, 1, .inr (.inl ou)))]) [0, 1, 2, 3, 4, 6, 7, 8, 9, 10, 5] rfl
  have hD := hD.sub (ws' := [(xh, .inr (0, [.ref xa0, .ref xa1, .ref xa2, .ref xa3, .long ck, .int nx])), (xa0, .inl (kx0, 100, .inl th)), (xa1, .inl (kx1, 100, .inr (.inl tm))), (xa2, .inl (kx2, 100, .inl pr)), (xa3, .inl (kx3, 100, .inl ag)), (mh, .inr (1, [.int 1, .ref ma0, .ref ma1, .ref ma2, .ref ma3, .int nx, .long ck])), (ma0, .inl (km0, 100, .inl th)), (ma1, .inl (km1, 100, .inr (.inl tm))), (ma2, .inl (km2, 100, .inl pr)), (ma3, .inl (km3, 100, .inl ag)), (ao, .inl (k4, 1, .inr (.inl ou)))]) [0, 1, 2, 3, 4, 6, 7, 8, 9, 10, 5] (by decide) rfl
  refine lv_lstore hx hb dL_law_219 hl (by decide) rfl (fun ls hl => ?_)
  have hl : lv_has ls 8 [(6, .long 0), (5, .int 1), (4, .int (nI i)), (0, .ref b), (1, .ref xh), (2, .ref mh), (3, .ref ao)] := hl
  refine lv_aload_n hx hb dL_law_221 rfl (lv_at hl 5 rfl) ?_
  have hPc := hP.sub (ws' := (tw_wM mh ma0 ma1 ma2 ma3 km0 km1 km2 km3 1 th tm pr ag ck nx)) [5, 6, 7, 8, 9] rfl
  have hKc := hK.sub (tys' := tw_k km0 km1 km2 km3) [4, 5, 6, 7] rfl
  refine vp_callSi (W.runV (C := RM) (b := mh) (As := []) (rest := []) ⟨hx, hb, hml, hown, hT⟩ (cM_thrown l dC dI mh ma0 ma1 ma2 ma3 km0 km1 km2 km3 1 th tm pr ag ck nx) (cwV 0 hT (tw_gV tt_239 tt_240 tt_241 tt_2 tt_242) rfl rfl rfl ⟨rfl, by decide +kernel⟩ ⟨Nat.le_of_ble_eq_true rfl, Nat.le_of_ble_eq_true rfl⟩) ⟨fun a U g mk q => ⟨q.1, q.2.1, va_K.moved (u := U) (U := U.calling g mk a) (Vm.Alike.refl U.vm) q.2.2⟩, va_recv (q0 := 0) (ci := 1) hKc hPc rfl rfl, fun U hU hW => ⟨rfl, by rw [hU]; exact hPc, va_K.moved hW.alike hKc⟩⟩ rfl rfl hl.1 rfl (lv_room (Nat.le_of_ble_eq_true rfl)) dL_law_222 hc) (fun r8 h8 => ?_)
  subst r8
  refine lv_iload hx hb dL_law_225 (lv_at hl 1 rfl) ?_
  refine lv_icmp_eq (tgt := 232) hx hb dL_law_227 (by decide) (fun hc1 => ?_) (fun hc1 => absurd (rfl : (1 : Int32) = 1) hc1)
  refine lv_iload hx hb dL_law_232 (lv_at hl 1 rfl) ?_
  refine lv_if_ne (tgt := 248) hx hb dL_law_234 (by decide) (fun hc2 => ?_) (fun hc2 => absurd hc2 (by decide))
  refine lv_goto (tgt := 563) hx hb dL_law_248 (by decide) ?_
  exact kk 1 th tm pr ag ck nx ou H _ ls hI hP hD hS (lv_sub hl [2, 3, 4, 5, 6] rfl)
end LLdropA
section LLdropN
variable {p : Program} {l : Launch} {e : Env} {s : State} {m : MethodId} {below : List Frame} {meth : Method} {c : Code} {H : Heap} {locs : List Loc} {cells slots : Nat} {Q : State → Prop} {ls : Array Slot} {b L i : Nat} {xs : Nat → Int32}
variable {dC : Nat → ClassId} {dI : Nat → Nat → Nat} {xh xa0 xa1 xa2 xa3 : Nat} {kx0 kx1 kx2 kx3 : ClassId} {mh ma0 ma1 ma2 ma3 : Nat} {km0 km1 km2 km3 : ClassId} {ao : Nat} {k4 : ClassId} {fl : Int32} {th : Nat → Int32} {tm : Nat → Int64} {pr ag : Nat → Int32} {ck : Int64} {nx : Int32} {ou : Nat → Int64}
set_option maxHeartbeats 4000000 in
set_option maxRecDepth 100000 in
theorem ll_dropN (hx : p.tables.exec = Jvm.exec) (hb : c.code = bL_law) (hml : c.maxLocals = 8) (hT : ∀ w ∈ tw_T, w.before #[Value.ref b] s = true) (hown : s.vm.findClass RL = some m.cls) (hfl : l.flags = pinnedFlags ++ [noTraceFlag]) (hX : va_X b L xs s s.heap) (hbl : b < s.heap.size) (hZ : tw_Z s s.heap) (hNc : va_Nc tw_nse tw_iae s) (hL : L ≤ 2560) (hi : i + 5 ≤ L) (hc : cells + 1 ≤ 1044 ∧ slots + 6 ≤ 9060) (hI : tw_Inv tm ck) (hP : va_P (dC, dI) tw_cl (tw_wL xh xa0 xa1 xa2 xa3 kx0 kx1 kx2 kx3 mh ma0 ma1 ma2 ma3 km0 km1 km2 km3 ao k4 fl th tm pr ag ck nx ou) H) (hD : va_D (tw_AL s) (tw_wL xh xa0 xa1 xa2 xa3 kx0 kx1 kx2 kx3 mh ma0 ma1 ma2 ma3 km0 km1 km2 km3 ao k4 fl th tm pr ag ck nx ou)) (hK : va_K (dC, dI) tw_cl (tw_kL kx0 kx1 kx2 kx3 km0 km1 km2 km3 k4) s) (hS : va_S (tw_AL s) s.heap H locs) (hl : lv_has ls 8 [(4, .int (nI i)), (0, .ref b), (1, .ref xh), (2, .ref mh), (3, .ref ao)]) {j1 : Int32} (e1 : xs (nI i + 1).toNatClampNeg = j1) (hj : vp_in j1 100) (ht : th j1.toNatClampNeg = 0) (kk : ∀ (fl' : Int32) (th' : Nat → Int32) (tm' : Nat → Int64) (pr' ag' : Nat → Int32) (ck' : Int64) (nx' : Int32) (ou' : Nat → Int64) (H' : Heap) (locs' : List Loc) (ls' : Array Slot), tw_Inv tm' ck' → va_P (dC, dI) tw_cl (tw_wL xh xa0 xa1 xa2 xa3 kx0 kx1 kx2 kx3 mh ma0 ma1 ma2 ma3 km0 km1 km2 km3 ao k4 fl' (th') (tm') (pr') (ag') (ck') (nx') (ou')) H' → va_D (tw_AL s) (tw_wL xh xa0 xa1 xa2 xa3 kx0 kx1 kx2 kx3 mh ma0 ma1 ma2 ma3 km0 km1 km2 km3 ao k4 (fl') (th') (tm') (pr') (ag') (ck') (nx') (ou')) → va_S (tw_AL s) s.heap H' locs' → lv_has ls' 8 [(4, .int (nI i)), (0, .ref b), (1, .ref xh), (2, .ref mh), (3, .ref ao)] → W p l e room_1 s m #[Value.ref b] below meth c H' locs' (cells + 1) (slots + 6) Q (F0 m 563 ls' [])) : W p l e room_1 s m #[Value.ref b] below meth c H locs cells slots Q (F0 m 196 ls []) := by
  have hA : ∀ q : Nat, s.heap.size ≤ q → tw_AL s q := fun q h => h
  have hbA : ¬ tw_AL s b := Nat.not_le.mpr hbl
  refine lv_aload_n hx hb dL_law_196 rfl (lv_at hl 2 rfl) ?_
  refine lv_aload_n hx hb dL_law_197 rfl (lv_at hl 1 rfl) ?_
  refine lv_iload hx hb dL_law_198 (lv_at hl 0 rfl) ?_
  refine lv_iconst (v := 1) hx hb dL_law_200 (by decide) ?_
  refine lv_iadd hx hb dL_law_201 ?_
  refine va_sld hx hb hX hbl hbA hS (tw_sin1 hi hL) dL_law_202 ?_
  rw [e1]
  refine lv_aload_n hx hb dL_law_203 rfl (lv_at hl 4 rfl) ?_
  have hPc := hP.sub (ws' := (tw_wH xh xa0 xa1 xa2 xa3 kx0 kx1 kx2 kx3 th tm pr ag ck nx ao k4 ou)) [0, 1, 2, 3, 4, 10] rfl
  have hDc := hD.sub (ws' := (tw_wH xh xa0 xa1 xa2 xa3 kx0 kx1 kx2 kx3 th tm pr ag ck nx ao k4 ou)) [0, 1, 2, 3, 4, 10] (by decide) rfl
  have hKc := hK.sub (tys' := tw_kH kx0 kx1 kx2 kx3 k4) [0, 1, 2, 3, 8] rfl
  have hFc := va_free (wc := (tw_wH xh xa0 xa1 xa2 xa3 kx0 kx1 kx2 kx3 th tm pr ag ck nx ao k4 ou)) hD hS hA [0, 1, 2, 3, 4, 10] rfl
  have hZH : ∀ U : State, U.heap = H → s.WarmedH U.vm → tw_Z U U.heap := fun U hU hW => by rw [hU]; exact hZ.move hW (fun a ha => hS.2.1 a ha (Nat.not_le.mpr ha))
  refine va_calli (xt_runSW (n := 3) (As := [.ref xh, .int j1, .ref ao]) (rest := []) ⟨hx, hb, hml, hown, hT⟩ (cL_dropN l hfl dC dI xh xa0 xa1 xa2 xa3 kx0 kx1 kx2 kx3 th tm pr ag ck nx ao k4 ou H.size j1 hj ht) rfl (tw_gS tt_127 tt_128 tt_0 tt_129) rfl rfl ⟨rfl, by decide +kernel⟩ ⟨Nat.le_of_ble_eq_true rfl, Nat.le_of_ble_eq_true rfl⟩ ⟨fun a U g mk q => by obtain ⟨q0, q1, qP, qK, qD, qZ, qN⟩ := q; exact ⟨q0, q1, qP, va_K.moved (u := U) (U := U.calling g mk a) (Vm.Alike.refl U.vm) qK, qD, qZ.call, va_Nc.moved (Vm.Alike.refl U.vm) qN⟩, fun U hU hW => ⟨rfl, by rw [hU], by rw [hU]; exact hPc, va_K.moved hW.alike hKc, hDc.weaken (fun _ _ _ _ => trivial), hZH U hU hW, hNc.moved hW.alike⟩⟩ rfl rfl hl.1 rfl (lv_room (Nat.le_of_ble_eq_true rfl)) dL_law_204 hc) hS (fun q _ h => hFc q h) hFc (fun r9 u9 t9 H1 locs ht9 hvm9 hw9 hB9 hz9 hk9 hS => ?_)
  obtain ⟨hP1, hD1⟩ := hB9
  rw [ht9] at hP1
  have hw9 : r9 = 2 := hw9
  subst r9
  obtain ⟨hP, hD⟩ := va_join (wr := (tw_wM mh ma0 ma1 ma2 ma3 km0 km1 km2 km3 fl th tm pr ag ck nx)) (w1 := (tw_wH xh xa0 xa1 xa2 xa3 kx0 kx1 kx2 kx3 th tm pr ag ck nx ao k4 ou)) hP hD [0, 1, 2, 3, 4, 10] [5, 6, 7, 8, 9] rfl rfl (by decide) (by decide) hk9 hFc hP1 hD1
  generalize H1 = H at hP hS ⊢
  have hP := hP.sub (ws' := [(xh, .inr (0, [.ref xa0, .ref xa1, .ref xa2, .ref xa3, .long ck, .int nx])), (xa0, .inl (kx0, 100, .inl th)), (xa1, .inl (kx1, 100, .inr (.inl tm))), (xa2, .inl (kx2, 100, .inl pr)), (xa3, .inl (kx3, 100, .inl ag)), (mh, .inr (1, [.int fl, .ref ma0, .ref ma1, .ref ma2, .ref ma3, .int nx, .long ck])), (ma0, .inl (km0, 100, .inl th)), (ma1, .inl (km1, 100, .inr (.inl tm))), (ma2, .inl (km2, 100, .inl pr)), (ma3, .inl (km3, 100, .inl ag)), (ao, .inl (k4, 1, .inr (.inl ou)))]) [5, 6, 7, 8, 9, 0, 1, 2, 3, 4, 10] rfl
  have hD := hD.sub (ws' := [(xh, .inr (0, [.ref xa0, .ref xa1, .ref xa2, .ref xa3, .long ck, .int nx])), (xa0, .inl (kx0, 100, .inl th)), (xa1, .inl (kx1, 100, .inr (.inl tm))), (xa2, .inl (kx2, 100, .inl pr)), (xa3, .inl (kx3, 100, .inl ag)), (mh, .inr (1, [.int fl, .ref ma0, .ref ma1, .ref ma2, .ref ma3, .int nx, .long ck])), (ma0, .inl (km0, 100, .inl th)), (ma1, .inl (km1, 100, .inr (.inl tm))), (ma2, .inl (km2, 100, .inl pr)), (ma3, .inl (km3, 100, .inl ag)), (ao, .inl (k4, 1, .inr (.inl ou)))]) [5, 6, 7, 8, 9, 0, 1, 2, 3, 4, 10] (by decide) rfl
  refine lv_istore hx hb dL_law_207 hl (by decide) rfl (fun ls hl => ?_)
  have hl : lv_has ls 8 [(5, .int 2), (4, .int (nI i)), (0, .ref b), (1, .ref xh), (2, .ref mh), (3, .ref ao)] := hl
  refine lv_aload_n hx hb dL_law_209 rfl (lv_at hl 4 rfl) ?_
  refine lv_aload_n hx hb dL_law_210 rfl (lv_at hl 2 rfl) ?_
  refine lv_iload hx hb dL_law_211 (lv_at hl 1 rfl) ?_
  refine lv_iconst (v := 1) hx hb dL_law_213 (by decide) ?_
  refine lv_iadd hx hb dL_law_214 ?_
  refine va_sld hx hb hX hbl hbA hS (tw_sin1 hi hL) dL_law_215 ?_
  rw [e1]
  have hPc := hP.sub (ws' := (tw_wM mh ma0 ma1 ma2 ma3 km0 km1 km2 km3 fl th tm pr ag ck nx)) [5, 6, 7, 8, 9] rfl
  have hDc := hD.sub (ws' := (tw_wM mh ma0 ma1 ma2 ma3 km0 km1 km2 km3 fl th tm pr ag ck nx)) [5, 6, 7, 8, 9] (by decide) rfl
  have hKc := hK.sub (tys' := tw_k km0 km1 km2 km3) [4, 5, 6, 7] rfl
  have hFc := va_free (wc := (tw_wM mh ma0 ma1 ma2 ma3 km0 km1 km2 km3 fl th tm pr ag ck nx)) hD hS hA [5, 6, 7, 8, 9] rfl
  refine va_calll (va_runV (C := RM) (b := mh) (As := [.int j1]) (rest := []) ⟨hx, hb, hml, hown, hT⟩ (cM_dropN l dC dI mh ma0 ma1 ma2 ma3 km0 km1 km2 km3 fl th tm pr ag ck nx H.size j1 hj ht) (cwV 1 hT (tw_gV tt_252 tt_253 tt_254 tt_2 tt_255) rfl rfl rfl ⟨rfl, by decide +kernel⟩ ⟨Nat.le_of_ble_eq_true rfl, Nat.le_of_ble_eq_true rfl⟩) ⟨fun a U g mk q => by obtain ⟨q0, q1, qP, qK, qD⟩ := q; exact ⟨q0, q1, qP, va_K.moved (u := U) (U := U.calling g mk a) (Vm.Alike.refl U.vm) qK, qD⟩, va_recv (q0 := 0) (ci := 1) hKc hPc rfl rfl, fun U hU hW => ⟨rfl, by rw [hU], by rw [hU]; exact hPc, va_K.moved hW.alike hKc, hDc.weaken (fun _ _ _ _ => trivial)⟩⟩ rfl rfl hl.1 rfl (lv_room (Nat.le_of_ble_eq_true rfl)) dL_law_216 hc) hS (fun q _ h => hFc q h) hFc (fun r9 u9 t9 H1 locs ht9 hvm9 hw9 hB9 hz9 hk9 hS => ?_)
  obtain ⟨hP1, hD1⟩ := hB9
  rw [ht9] at hP1
  have hw9 : r9 = 0 := hw9
  subst r9
  obtain ⟨hP, hD⟩ := va_join (wr := [(xh, .inr (0, [.ref xa0, .ref xa1, .ref xa2, .ref xa3, .long ck, .int nx])), (xa0, .inl (kx0, 100, .inl th)), (xa1, .inl (kx1, 100, .inr (.inl tm))), (xa2, .inl (kx2, 100, .inl pr)), (xa3, .inl (kx3, 100, .inl ag)), (ao, .inl (k4, 1, .inr (.inl ou)))]) (w1 := (tw_wM mh ma0 ma1 ma2 ma3 km0 km1 km2 km3 2 th tm pr ag ck nx)) hP hD [5, 6, 7, 8, 9] [0, 1, 2, 3, 4, 10] rfl rfl (by decide) (by decide) hk9 hFc hP1 hD1
  generalize H1 = H at hP hS ⊢
  have hP := hP.sub (ws' := [(xh, .inr (0, [.ref xa0, .ref xa1, .ref xa2, .ref xa3, .long ck, .int nx])), (xa0, .inl (kx0, 100, .inl th)), (xa1, .inl (kx1, 100, .inr (.inl tm))), (xa2, .inl (kx2, 100, .inl pr)), (xa3, .inl (kx3, 100, .inl ag)), (mh, .inr (1, [.int 2, .ref ma0, .ref ma1, .ref ma2, .ref ma3, .int nx, .long ck])), (ma0, .inl (km0, 100, .inl th)), (ma1, .inl (km1, 100, .inr (.inl tm))), (ma2, .inl (km2, 100, .inl pr)), (ma3, .inl (km3, 100, .inl ag)), (ao, .inl (k4, 1, .inr (.inl ou)))]) [0, 1, 2, 3, 4, 6, 7, 8, 9, 10, 5] rfl
  have hD := hD.sub (ws' := [(xh, .inr (0, [.ref xa0, .ref xa1, .ref xa2, .ref xa3, .long ck, .int nx])), (xa0, .inl (kx0, 100, .inl th)), (xa1, .inl (kx1, 100, .inr (.inl tm))), (xa2, .inl (kx2, 100, .inl pr)), (xa3, .inl (kx3, 100, .inl ag)), (mh, .inr (1, [.int 2, .ref ma0, .ref ma1, .ref ma2, .ref ma3, .int nx, .long ck])), (ma0, .inl (km0, 100, .inl th)), (ma1, .inl (km1, 100, .inr (.inl tm))), (ma2, .inl (km2, 100, .inl pr)), (ma3, .inl (km3, 100, .inl ag)), (ao, .inl (k4, 1, .inr (.inl ou)))]) [0, 1, 2, 3, 4, 6, 7, 8, 9, 10, 5] (by decide) rfl
  refine lv_lstore hx hb dL_law_219 hl (by decide) rfl (fun ls hl => ?_)
  have hl : lv_has ls 8 [(6, .long 0), (5, .int 2), (4, .int (nI i)), (0, .ref b), (1, .ref xh), (2, .ref mh), (3, .ref ao)] := hl
  refine lv_aload_n hx hb dL_law_221 rfl (lv_at hl 5 rfl) ?_
  have hPc := hP.sub (ws' := (tw_wM mh ma0 ma1 ma2 ma3 km0 km1 km2 km3 2 th tm pr ag ck nx)) [5, 6, 7, 8, 9] rfl
  have hKc := hK.sub (tys' := tw_k km0 km1 km2 km3) [4, 5, 6, 7] rfl
  refine vp_callSi (W.runV (C := RM) (b := mh) (As := []) (rest := []) ⟨hx, hb, hml, hown, hT⟩ (cM_thrown l dC dI mh ma0 ma1 ma2 ma3 km0 km1 km2 km3 2 th tm pr ag ck nx) (cwV 0 hT (tw_gV tt_239 tt_240 tt_241 tt_2 tt_242) rfl rfl rfl ⟨rfl, by decide +kernel⟩ ⟨Nat.le_of_ble_eq_true rfl, Nat.le_of_ble_eq_true rfl⟩) ⟨fun a U g mk q => ⟨q.1, q.2.1, va_K.moved (u := U) (U := U.calling g mk a) (Vm.Alike.refl U.vm) q.2.2⟩, va_recv (q0 := 0) (ci := 1) hKc hPc rfl rfl, fun U hU hW => ⟨rfl, by rw [hU]; exact hPc, va_K.moved hW.alike hKc⟩⟩ rfl rfl hl.1 rfl (lv_room (Nat.le_of_ble_eq_true rfl)) dL_law_222 hc) (fun r8 h8 => ?_)
  subst r8
  refine lv_iload hx hb dL_law_225 (lv_at hl 1 rfl) ?_
  refine lv_icmp_eq (tgt := 232) hx hb dL_law_227 (by decide) (fun hc1 => ?_) (fun hc1 => absurd (rfl : (2 : Int32) = 2) hc1)
  refine lv_iload hx hb dL_law_232 (lv_at hl 1 rfl) ?_
  refine lv_if_ne (tgt := 248) hx hb dL_law_234 (by decide) (fun hc2 => ?_) (fun hc2 => absurd hc2 (by decide))
  refine lv_goto (tgt := 563) hx hb dL_law_248 (by decide) ?_
  exact kk 2 th tm pr ag ck nx ou H _ ls hI hP hD hS (lv_sub hl [2, 3, 4, 5, 6] rfl)
end LLdropN
section LLtake
variable {p : Program} {l : Launch} {e : Env} {s : State} {m : MethodId} {below : List Frame} {meth : Method} {c : Code} {H : Heap} {locs : List Loc} {cells slots : Nat} {Q : State → Prop} {ls : Array Slot} {b L i : Nat} {xs : Nat → Int32}
variable {dC : Nat → ClassId} {dI : Nat → Nat → Nat} {xh xa0 xa1 xa2 xa3 : Nat} {kx0 kx1 kx2 kx3 : ClassId} {mh ma0 ma1 ma2 ma3 : Nat} {km0 km1 km2 km3 : ClassId} {ao : Nat} {k4 : ClassId} {fl : Int32} {th : Nat → Int32} {tm : Nat → Int64} {pr ag : Nat → Int32} {ck : Int64} {nx : Int32} {ou : Nat → Int64}
set_option maxHeartbeats 4000000 in
set_option maxRecDepth 100000 in
theorem ll_take (hx : p.tables.exec = Jvm.exec) (hb : c.code = bL_law) (hml : c.maxLocals = 8) (hT : ∀ w ∈ tw_T, w.before #[Value.ref b] s = true) (hown : s.vm.findClass RL = some m.cls) (hfl : l.flags = pinnedFlags ++ [noTraceFlag]) (hX : va_X b L xs s s.heap) (hbl : b < s.heap.size) (hZ : tw_Z s s.heap) (hNc : va_Nc tw_nse tw_iae s) (hL : L ≤ 2560) (hi : i + 5 ≤ L) (hc : cells + 1 ≤ 1044 ∧ slots + 6 ≤ 9060) (hI : tw_Inv tm ck) (hP : va_P (dC, dI) tw_cl (tw_wL xh xa0 xa1 xa2 xa3 kx0 kx1 kx2 kx3 mh ma0 ma1 ma2 ma3 km0 km1 km2 km3 ao k4 fl th tm pr ag ck nx ou) H) (hD : va_D (tw_AL s) (tw_wL xh xa0 xa1 xa2 xa3 kx0 kx1 kx2 kx3 mh ma0 ma1 ma2 ma3 km0 km1 km2 km3 ao k4 fl th tm pr ag ck nx ou)) (hK : va_K (dC, dI) tw_cl (tw_kL kx0 kx1 kx2 kx3 km0 km1 km2 km3 k4) s) (hS : va_S (tw_AL s) s.heap H locs) (hl : lv_has ls 8 [(4, .int (nI i)), (0, .ref b), (1, .ref xh), (2, .ref mh), (3, .ref ao)]) (hf : ¬ tw_first th tm pr ag ck 100 = -1) (kk : ∀ (fl' : Int32) (th' : Nat → Int32) (tm' : Nat → Int64) (pr' ag' : Nat → Int32) (ck' : Int64) (nx' : Int32) (ou' : Nat → Int64) (H' : Heap) (locs' : List Loc) (ls' : Array Slot), tw_Inv tm' ck' → va_P (dC, dI) tw_cl (tw_wL xh xa0 xa1 xa2 xa3 kx0 kx1 kx2 kx3 mh ma0 ma1 ma2 ma3 km0 km1 km2 km3 ao k4 fl' (th') (tm') (pr') (ag') (ck') (nx') (ou')) H' → va_D (tw_AL s) (tw_wL xh xa0 xa1 xa2 xa3 kx0 kx1 kx2 kx3 mh ma0 ma1 ma2 ma3 km0 km1 km2 km3 ao k4 (fl') (th') (tm') (pr') (ag') (ck') (nx') (ou')) → va_S (tw_AL s) s.heap H' locs' → lv_has ls' 8 [(4, .int (nI i)), (0, .ref b), (1, .ref xh), (2, .ref mh), (3, .ref ao)] → W p l e room_1 s m #[Value.ref b] below meth c H' locs' (cells + 1) (slots + 6) Q (F0 m 563 ls' [])) : W p l e room_1 s m #[Value.ref b] below meth c H locs cells slots Q (F0 m 251 ls []) := by
  have hA : ∀ q : Nat, s.heap.size ≤ q → tw_AL s q := fun q h => h
  have hbA : ¬ tw_AL s b := Nat.not_le.mpr hbl
  refine lv_aload_n hx hb dL_law_251 rfl (lv_at hl 2 rfl) ?_
  refine lv_aload_n hx hb dL_law_252 rfl (lv_at hl 4 rfl) ?_
  have hPc := hP.sub (ws' := (tw_wH xh xa0 xa1 xa2 xa3 kx0 kx1 kx2 kx3 th tm pr ag ck nx ao k4 ou)) [0, 1, 2, 3, 4, 10] rfl
  have hDc := hD.sub (ws' := (tw_wH xh xa0 xa1 xa2 xa3 kx0 kx1 kx2 kx3 th tm pr ag ck nx ao k4 ou)) [0, 1, 2, 3, 4, 10] (by decide) rfl
  have hKc := hK.sub (tys' := tw_kH kx0 kx1 kx2 kx3 k4) [0, 1, 2, 3, 8] rfl
  have hFc := va_free (wc := (tw_wH xh xa0 xa1 xa2 xa3 kx0 kx1 kx2 kx3 th tm pr ag ck nx ao k4 ou)) hD hS hA [0, 1, 2, 3, 4, 10] rfl
  refine va_calli (xt_runSW (n := 2) (As := [.ref xh, .ref ao]) (rest := []) ⟨hx, hb, hml, hown, hT⟩ (cL_take l dC dI xh xa0 xa1 xa2 xa3 kx0 kx1 kx2 kx3 th tm pr ag ck nx ao k4 ou H.size hf) rfl (tw_gS tt_151 tt_152 tt_0 tt_153) rfl rfl ⟨rfl, by decide +kernel⟩ ⟨Nat.le_of_ble_eq_true rfl, Nat.le_of_ble_eq_true rfl⟩ ⟨fun a U g mk q => by obtain ⟨q0, q1, qP, qK, qD⟩ := q; exact ⟨q0, q1, qP, va_K.moved (u := U) (U := U.calling g mk a) (Vm.Alike.refl U.vm) qK, qD⟩, fun U hU hW => ⟨rfl, by rw [hU], by rw [hU]; exact hPc, va_K.moved hW.alike hKc, hDc.weaken (fun _ _ _ _ => trivial)⟩⟩ rfl rfl hl.1 rfl (lv_room (Nat.le_of_ble_eq_true rfl)) dL_law_253 ⟨Nat.le_trans (Nat.le_succ _) hc.1, Nat.le_trans (Nat.le_add_right _ 6) hc.2⟩) hS (fun q _ h => hFc q h) hFc (fun r9 u9 t9 H1 locs ht9 hvm9 hw9 hB9 hz9 hk9 hS => ?_)
  obtain ⟨hP1, hD1⟩ := hB9
  rw [ht9] at hP1
  have hw9 : r9 = 0 := hw9
  subst r9
  obtain ⟨hP, hD⟩ := va_join (wr := (tw_wM mh ma0 ma1 ma2 ma3 km0 km1 km2 km3 fl th tm pr ag ck nx)) (w1 := (tw_wH xh xa0 xa1 xa2 xa3 kx0 kx1 kx2 kx3 (upd th (tw_first th tm pr ag ck 100).toNatClampNeg (vp_nar .boolean 0)) tm pr ag ck nx ao k4 (vp_updL ou (0 : Int32).toNatClampNeg ((tw_first th tm pr ag ck 100).toInt64)))) hP hD [0, 1, 2, 3, 4, 10] [5, 6, 7, 8, 9] rfl rfl (by decide) (by decide) hk9 hFc hP1 hD1
  generalize H1 = H at hP hS ⊢
  have hP := hP.sub (ws' := [(xh, .inr (0, [.ref xa0, .ref xa1, .ref xa2, .ref xa3, .long ck, .int nx])), (xa0, .inl (kx0, 100, .inl (upd th (tw_first th tm pr ag ck 100).toNatClampNeg (vp_nar .boolean 0)))), (xa1, .inl (kx1, 100, .inr (.inl tm))), (xa2, .inl (kx2, 100, .inl pr)), (xa3, .inl (kx3, 100, .inl ag)), (mh, .inr (1, [.int fl, .ref ma0, .ref ma1, .ref ma2, .ref ma3, .int nx, .long ck])), (ma0, .inl (km0, 100, .inl th)), (ma1, .inl (km1, 100, .inr (.inl tm))), (ma2, .inl (km2, 100, .inl pr)), (ma3, .inl (km3, 100, .inl ag)), (ao, .inl (k4, 1, .inr (.inl (vp_updL ou (0 : Int32).toNatClampNeg ((tw_first th tm pr ag ck 100).toInt64)))))]) [5, 6, 7, 8, 9, 0, 1, 2, 3, 4, 10] rfl
  have hD := hD.sub (ws' := [(xh, .inr (0, [.ref xa0, .ref xa1, .ref xa2, .ref xa3, .long ck, .int nx])), (xa0, .inl (kx0, 100, .inl (upd th (tw_first th tm pr ag ck 100).toNatClampNeg (vp_nar .boolean 0)))), (xa1, .inl (kx1, 100, .inr (.inl tm))), (xa2, .inl (kx2, 100, .inl pr)), (xa3, .inl (kx3, 100, .inl ag)), (mh, .inr (1, [.int fl, .ref ma0, .ref ma1, .ref ma2, .ref ma3, .int nx, .long ck])), (ma0, .inl (km0, 100, .inl th)), (ma1, .inl (km1, 100, .inr (.inl tm))), (ma2, .inl (km2, 100, .inl pr)), (ma3, .inl (km3, 100, .inl ag)), (ao, .inl (k4, 1, .inr (.inl (vp_updL ou (0 : Int32).toNatClampNeg ((tw_first th tm pr ag ck 100).toInt64)))))]) [5, 6, 7, 8, 9, 0, 1, 2, 3, 4, 10] (by decide) rfl
  refine lv_istore hx hb dL_law_256 hl (by decide) rfl (fun ls hl => ?_)
  have hl : lv_has ls 8 [(5, .int 0), (4, .int (nI i)), (0, .ref b), (1, .ref xh), (2, .ref mh), (3, .ref ao)] := hl
  refine lv_aload_n hx hb dL_law_258 rfl (lv_at hl 4 rfl) ?_
  have hPc := hP.sub (ws' := (tw_wM mh ma0 ma1 ma2 ma3 km0 km1 km2 km3 fl th tm pr ag ck nx)) [5, 6, 7, 8, 9] rfl
  have hDc := hD.sub (ws' := (tw_wM mh ma0 ma1 ma2 ma3 km0 km1 km2 km3 fl th tm pr ag ck nx)) [5, 6, 7, 8, 9] (by decide) rfl
  have hKc := hK.sub (tys' := tw_k km0 km1 km2 km3) [4, 5, 6, 7] rfl
  have hFc := va_free (wc := (tw_wM mh ma0 ma1 ma2 ma3 km0 km1 km2 km3 fl th tm pr ag ck nx)) hD hS hA [5, 6, 7, 8, 9] rfl
  refine va_calli (va_runV (C := RM) (b := mh) (As := []) (rest := []) ⟨hx, hb, hml, hown, hT⟩ (cM_take l dC dI mh ma0 ma1 ma2 ma3 km0 km1 km2 km3 fl th tm pr ag ck nx H.size hf) (cwV 0 hT (tw_gV tt_256 tt_257 tt_258 tt_2 tt_259) rfl rfl rfl ⟨rfl, by decide +kernel⟩ ⟨Nat.le_of_ble_eq_true rfl, Nat.le_of_ble_eq_true rfl⟩) ⟨fun a U g mk q => by obtain ⟨q0, q1, qP, qK, qD⟩ := q; exact ⟨q0, q1, qP, va_K.moved (u := U) (U := U.calling g mk a) (Vm.Alike.refl U.vm) qK, qD⟩, va_recv (q0 := 0) (ci := 1) hKc hPc rfl rfl, fun U hU hW => ⟨rfl, by rw [hU], by rw [hU]; exact hPc, va_K.moved hW.alike hKc, hDc.weaken (fun _ _ _ _ => trivial)⟩⟩ rfl rfl hl.1 rfl (lv_room (Nat.le_of_ble_eq_true rfl)) dL_law_259 ⟨Nat.le_trans (Nat.le_succ _) hc.1, Nat.le_trans (Nat.le_add_right _ 6) hc.2⟩) hS (fun q _ h => hFc q h) hFc (fun r9 u9 t9 H1 locs ht9 hvm9 hw9 hB9 hz9 hk9 hS => ?_)
  obtain ⟨hP1, hD1⟩ := hB9
  rw [ht9] at hP1
  have hw9 : r9 = tw_first th tm pr ag ck 100 := hw9
  subst r9
  obtain ⟨hP, hD⟩ := va_join (wr := [(xh, .inr (0, [.ref xa0, .ref xa1, .ref xa2, .ref xa3, .long ck, .int nx])), (xa0, .inl (kx0, 100, .inl (upd th (tw_first th tm pr ag ck 100).toNatClampNeg (vp_nar .boolean 0)))), (xa1, .inl (kx1, 100, .inr (.inl tm))), (xa2, .inl (kx2, 100, .inl pr)), (xa3, .inl (kx3, 100, .inl ag)), (ao, .inl (k4, 1, .inr (.inl (vp_updL ou (0 : Int32).toNatClampNeg ((tw_first th tm pr ag ck 100).toInt64)))))]) (w1 := (tw_wM mh ma0 ma1 ma2 ma3 km0 km1 km2 km3 0 (upd th (tw_first th tm pr ag ck 100).toNatClampNeg (vp_nar .boolean 0)) tm pr ag ck nx)) hP hD [5, 6, 7, 8, 9] [0, 1, 2, 3, 4, 10] rfl rfl (by decide) (by decide) hk9 hFc hP1 hD1
  generalize H1 = H at hP hS ⊢
  have hP := hP.sub (ws' := [(xh, .inr (0, [.ref xa0, .ref xa1, .ref xa2, .ref xa3, .long ck, .int nx])), (xa0, .inl (kx0, 100, .inl (upd th (tw_first th tm pr ag ck 100).toNatClampNeg (vp_nar .boolean 0)))), (xa1, .inl (kx1, 100, .inr (.inl tm))), (xa2, .inl (kx2, 100, .inl pr)), (xa3, .inl (kx3, 100, .inl ag)), (mh, .inr (1, [.int 0, .ref ma0, .ref ma1, .ref ma2, .ref ma3, .int nx, .long ck])), (ma0, .inl (km0, 100, .inl (upd th (tw_first th tm pr ag ck 100).toNatClampNeg (vp_nar .boolean 0)))), (ma1, .inl (km1, 100, .inr (.inl tm))), (ma2, .inl (km2, 100, .inl pr)), (ma3, .inl (km3, 100, .inl ag)), (ao, .inl (k4, 1, .inr (.inl (vp_updL ou (0 : Int32).toNatClampNeg ((tw_first th tm pr ag ck 100).toInt64)))))]) [0, 1, 2, 3, 4, 6, 7, 8, 9, 10, 5] rfl
  have hD := hD.sub (ws' := [(xh, .inr (0, [.ref xa0, .ref xa1, .ref xa2, .ref xa3, .long ck, .int nx])), (xa0, .inl (kx0, 100, .inl (upd th (tw_first th tm pr ag ck 100).toNatClampNeg (vp_nar .boolean 0)))), (xa1, .inl (kx1, 100, .inr (.inl tm))), (xa2, .inl (kx2, 100, .inl pr)), (xa3, .inl (kx3, 100, .inl ag)), (mh, .inr (1, [.int 0, .ref ma0, .ref ma1, .ref ma2, .ref ma3, .int nx, .long ck])), (ma0, .inl (km0, 100, .inl (upd th (tw_first th tm pr ag ck 100).toNatClampNeg (vp_nar .boolean 0)))), (ma1, .inl (km1, 100, .inr (.inl tm))), (ma2, .inl (km2, 100, .inl pr)), (ma3, .inl (km3, 100, .inl ag)), (ao, .inl (k4, 1, .inr (.inl (vp_updL ou (0 : Int32).toNatClampNeg ((tw_first th tm pr ag ck 100).toInt64)))))]) [0, 1, 2, 3, 4, 6, 7, 8, 9, 10, 5] (by decide) rfl
  refine lv_istore hx hb dL_law_262 hl (by decide) rfl (fun ls hl => ?_)
  have hl : lv_has ls 8 [(6, .int (tw_first th tm pr ag ck 100)), (5, .int 0), (4, .int (nI i)), (0, .ref b), (1, .ref xh), (2, .ref mh), (3, .ref ao)] := hl
  refine lv_aload_n hx hb dL_law_264 rfl (lv_at hl 5 rfl) ?_
  have hPc := hP.sub (ws' := (tw_wM mh ma0 ma1 ma2 ma3 km0 km1 km2 km3 0 (upd th (tw_first th tm pr ag ck 100).toNatClampNeg (vp_nar .boolean 0)) tm pr ag ck nx)) [5, 6, 7, 8, 9] rfl
  have hKc := hK.sub (tys' := tw_k km0 km1 km2 km3) [4, 5, 6, 7] rfl
  refine vp_callSi (W.runV (C := RM) (b := mh) (As := []) (rest := []) ⟨hx, hb, hml, hown, hT⟩ (cM_thrown l dC dI mh ma0 ma1 ma2 ma3 km0 km1 km2 km3 0 (upd th (tw_first th tm pr ag ck 100).toNatClampNeg (vp_nar .boolean 0)) tm pr ag ck nx) (cwV 0 hT (tw_gV tt_239 tt_240 tt_241 tt_2 tt_242) rfl rfl rfl ⟨rfl, by decide +kernel⟩ ⟨Nat.le_of_ble_eq_true rfl, Nat.le_of_ble_eq_true rfl⟩) ⟨fun a U g mk q => ⟨q.1, q.2.1, va_K.moved (u := U) (U := U.calling g mk a) (Vm.Alike.refl U.vm) q.2.2⟩, va_recv (q0 := 0) (ci := 1) hKc hPc rfl rfl, fun U hU hW => ⟨rfl, by rw [hU]; exact hPc, va_K.moved hW.alike hKc⟩⟩ rfl rfl hl.1 rfl (lv_room (Nat.le_of_ble_eq_true rfl)) dL_law_265 ⟨Nat.le_trans (Nat.le_succ _) hc.1, Nat.le_trans (Nat.le_add_right _ 6) hc.2⟩) (fun r8 h8 => ?_)
  subst r8
  refine lv_iload hx hb dL_law_268 (lv_at hl 1 rfl) ?_
  refine lv_icmp_eq (tgt := 275) hx hb dL_law_270 (by decide) (fun hc1 => ?_) (fun hc1 => absurd (rfl : (0 : Int32) = 0) hc1)
  refine lv_iload hx hb dL_law_275 (lv_at hl 1 rfl) ?_
  refine lv_if_ne (tgt := 292) hx hb dL_law_277 (by decide) (fun hc2 => absurd rfl hc2) (fun hc2 => ?_)
  refine lv_aload_n hx hb dL_law_280 rfl (lv_at hl 6 rfl) ?_
  refine lv_iconst (v := 0) hx hb dL_law_281 (by decide) ?_
  refine va_lald hx hb hK hP 10 8 rfl rfl (by unfold vp_in; decide) dL_law_282 ?_
  refine lv_iload hx hb dL_law_283 (lv_at hl 0 rfl) ?_
  refine lv_i2l hx hb dL_law_285 rfl ?_
  refine W.lcmp hx hb dL_law_286 ?_
  refine lv_if_eq (tgt := 292) hx hb dL_law_287 (by decide) (fun hc3 => ?_) (fun hc3 => absurd ((lg_cmp_eq _ _).mpr pk_uLs) hc3)
  refine lv_goto (tgt := 563) hx hb dL_law_292 (by decide) ?_
  refine W.widen (k := cells + 1) (n := slots + 6) (Nat.le_succ _) (Nat.le_add_right _ 6) ?_
  exact kk 0 (upd th (tw_first th tm pr ag ck 100).toNatClampNeg (vp_nar .boolean 0)) tm pr ag ck nx (vp_updL ou (0 : Int32).toNatClampNeg ((tw_first th tm pr ag ck 100).toInt64)) H _ ls hI hP hD hS (lv_sub hl [2, 3, 4, 5, 6] rfl)
end LLtake
section LLtakeB
variable {p : Program} {l : Launch} {e : Env} {s : State} {m : MethodId} {below : List Frame} {meth : Method} {c : Code} {H : Heap} {locs : List Loc} {cells slots : Nat} {Q : State → Prop} {ls : Array Slot} {b L i : Nat} {xs : Nat → Int32}
variable {dC : Nat → ClassId} {dI : Nat → Nat → Nat} {xh xa0 xa1 xa2 xa3 : Nat} {kx0 kx1 kx2 kx3 : ClassId} {mh ma0 ma1 ma2 ma3 : Nat} {km0 km1 km2 km3 : ClassId} {ao : Nat} {k4 : ClassId} {fl : Int32} {th : Nat → Int32} {tm : Nat → Int64} {pr ag : Nat → Int32} {ck : Int64} {nx : Int32} {ou : Nat → Int64}
set_option maxHeartbeats 4000000 in
set_option maxRecDepth 100000 in
theorem ll_takeB (hx : p.tables.exec = Jvm.exec) (hb : c.code = bL_law) (hml : c.maxLocals = 8) (hT : ∀ w ∈ tw_T, w.before #[Value.ref b] s = true) (hown : s.vm.findClass RL = some m.cls) (hfl : l.flags = pinnedFlags ++ [noTraceFlag]) (hX : va_X b L xs s s.heap) (hbl : b < s.heap.size) (hZ : tw_Z s s.heap) (hNc : va_Nc tw_nse tw_iae s) (hL : L ≤ 2560) (hi : i + 5 ≤ L) (hc : cells + 1 ≤ 1044 ∧ slots + 6 ≤ 9060) (hI : tw_Inv tm ck) (hP : va_P (dC, dI) tw_cl (tw_wL xh xa0 xa1 xa2 xa3 kx0 kx1 kx2 kx3 mh ma0 ma1 ma2 ma3 km0 km1 km2 km3 ao k4 fl th tm pr ag ck nx ou) H) (hD : va_D (tw_AL s) (tw_wL xh xa0 xa1 xa2 xa3 kx0 kx1 kx2 kx3 mh ma0 ma1 ma2 ma3 km0 km1 km2 km3 ao k4 fl th tm pr ag ck nx ou)) (hK : va_K (dC, dI) tw_cl (tw_kL kx0 kx1 kx2 kx3 km0 km1 km2 km3 k4) s) (hS : va_S (tw_AL s) s.heap H locs) (hl : lv_has ls 8 [(4, .int (nI i)), (0, .ref b), (1, .ref xh), (2, .ref mh), (3, .ref ao)]) (hf : tw_first th tm pr ag ck 100 = -1) (kk : ∀ (fl' : Int32) (th' : Nat → Int32) (tm' : Nat → Int64) (pr' ag' : Nat → Int32) (ck' : Int64) (nx' : Int32) (ou' : Nat → Int64) (H' : Heap) (locs' : List Loc) (ls' : Array Slot), tw_Inv tm' ck' → va_P (dC, dI) tw_cl (tw_wL xh xa0 xa1 xa2 xa3 kx0 kx1 kx2 kx3 mh ma0 ma1 ma2 ma3 km0 km1 km2 km3 ao k4 fl' (th') (tm') (pr') (ag') (ck') (nx') (ou')) H' → va_D (tw_AL s) (tw_wL xh xa0 xa1 xa2 xa3 kx0 kx1 kx2 kx3 mh ma0 ma1 ma2 ma3 km0 km1 km2 km3 ao k4 (fl') (th') (tm') (pr') (ag') (ck') (nx') (ou')) → va_S (tw_AL s) s.heap H' locs' → lv_has ls' 8 [(4, .int (nI i)), (0, .ref b), (1, .ref xh), (2, .ref mh), (3, .ref ao)] → W p l e room_1 s m #[Value.ref b] below meth c H' locs' (cells + 1) (slots + 6) Q (F0 m 563 ls' [])) : W p l e room_1 s m #[Value.ref b] below meth c H locs cells slots Q (F0 m 251 ls []) := by
  have hA : ∀ q : Nat, s.heap.size ≤ q → tw_AL s q := fun q h => h
  have hbA : ¬ tw_AL s b := Nat.not_le.mpr hbl
  refine lv_aload_n hx hb dL_law_251 rfl (lv_at hl 2 rfl) ?_
  refine lv_aload_n hx hb dL_law_252 rfl (lv_at hl 4 rfl) ?_
  have hPc := hP.sub (ws' := (tw_wH xh xa0 xa1 xa2 xa3 kx0 kx1 kx2 kx3 th tm pr ag ck nx ao k4 ou)) [0, 1, 2, 3, 4, 10] rfl
  have hDc := hD.sub (ws' := (tw_wH xh xa0 xa1 xa2 xa3 kx0 kx1 kx2 kx3 th tm pr ag ck nx ao k4 ou)) [0, 1, 2, 3, 4, 10] (by decide) rfl
  have hKc := hK.sub (tys' := tw_kH kx0 kx1 kx2 kx3 k4) [0, 1, 2, 3, 8] rfl
  have hFc := va_free (wc := (tw_wH xh xa0 xa1 xa2 xa3 kx0 kx1 kx2 kx3 th tm pr ag ck nx ao k4 ou)) hD hS hA [0, 1, 2, 3, 4, 10] rfl
  have hZH : ∀ U : State, U.heap = H → s.WarmedH U.vm → tw_Z U U.heap := fun U hU hW => by rw [hU]; exact hZ.move hW (fun a ha => hS.2.1 a ha (Nat.not_le.mpr ha))
  refine va_calli (xt_runSW (n := 2) (As := [.ref xh, .ref ao]) (rest := []) ⟨hx, hb, hml, hown, hT⟩ (cL_takeB l hfl dC dI xh xa0 xa1 xa2 xa3 kx0 kx1 kx2 kx3 th tm pr ag ck nx ao k4 ou H.size hf) rfl (tw_gS tt_151 tt_152 tt_0 tt_153) rfl rfl ⟨rfl, by decide +kernel⟩ ⟨Nat.le_of_ble_eq_true rfl, Nat.le_of_ble_eq_true rfl⟩ ⟨fun a U g mk q => by obtain ⟨q0, q1, qP, qK, qD, qZ⟩ := q; exact ⟨q0, q1, qP, va_K.moved (u := U) (U := U.calling g mk a) (Vm.Alike.refl U.vm) qK, qD, qZ.call⟩, fun U hU hW => ⟨rfl, by rw [hU], by rw [hU]; exact hPc, va_K.moved hW.alike hKc, hDc.weaken (fun _ _ _ _ => trivial), hZH U hU hW⟩⟩ rfl rfl hl.1 rfl (lv_room (Nat.le_of_ble_eq_true rfl)) dL_law_253 hc) hS (fun q _ h => hFc q h) hFc (fun r9 u9 t9 H1 locs ht9 hvm9 hw9 hB9 hz9 hk9 hS => ?_)
  obtain ⟨hP1, hD1⟩ := hB9
  rw [ht9] at hP1
  have hw9 : r9 = 1 := hw9
  subst r9
  obtain ⟨hP, hD⟩ := va_join (wr := (tw_wM mh ma0 ma1 ma2 ma3 km0 km1 km2 km3 fl th tm pr ag ck nx)) (w1 := (tw_wH xh xa0 xa1 xa2 xa3 kx0 kx1 kx2 kx3 th tm pr ag ck nx ao k4 ou)) hP hD [0, 1, 2, 3, 4, 10] [5, 6, 7, 8, 9] rfl rfl (by decide) (by decide) hk9 hFc hP1 hD1
  generalize H1 = H at hP hS ⊢
  have hP := hP.sub (ws' := [(xh, .inr (0, [.ref xa0, .ref xa1, .ref xa2, .ref xa3, .long ck, .int nx])), (xa0, .inl (kx0, 100, .inl th)), (xa1, .inl (kx1, 100, .inr (.inl tm))), (xa2, .inl (kx2, 100, .inl pr)), (xa3, .inl (kx3, 100, .inl ag)), (mh, .inr (1, [.int fl, .ref ma0, .ref ma1, .ref ma2, .ref ma3, .int nx, .long ck])), (ma0, .inl (km0, 100, .inl th)), (ma1, .inl (km1, 100, .inr (.inl tm))), (ma2, .inl (km2, 100, .inl pr)), (ma3, .inl (km3, 100, .inl ag)), (ao, .inl (k4, 1, .inr (.inl ou)))]) [5, 6, 7, 8, 9, 0, 1, 2, 3, 4, 10] rfl
  have hD := hD.sub (ws' := [(xh, .inr (0, [.ref xa0, .ref xa1, .ref xa2, .ref xa3, .long ck, .int nx])), (xa0, .inl (kx0, 100, .inl th)), (xa1, .inl (kx1, 100, .inr (.inl tm))), (xa2, .inl (kx2, 100, .inl pr)), (xa3, .inl (kx3, 100, .inl ag)), (mh, .inr (1, [.int fl, .ref ma0, .ref ma1, .ref ma2, .ref ma3, .int nx, .long ck])), (ma0, .inl (km0, 100, .inl th)), (ma1, .inl (km1, 100, .inr (.inl tm))), (ma2, .inl (km2, 100, .inl pr)), (ma3, .inl (km3, 100, .inl ag)), (ao, .inl (k4, 1, .inr (.inl ou)))]) [5, 6, 7, 8, 9, 0, 1, 2, 3, 4, 10] (by decide) rfl
  refine lv_istore hx hb dL_law_256 hl (by decide) rfl (fun ls hl => ?_)
  have hl : lv_has ls 8 [(5, .int 1), (4, .int (nI i)), (0, .ref b), (1, .ref xh), (2, .ref mh), (3, .ref ao)] := hl
  refine lv_aload_n hx hb dL_law_258 rfl (lv_at hl 4 rfl) ?_
  have hPc := hP.sub (ws' := (tw_wM mh ma0 ma1 ma2 ma3 km0 km1 km2 km3 fl th tm pr ag ck nx)) [5, 6, 7, 8, 9] rfl
  have hDc := hD.sub (ws' := (tw_wM mh ma0 ma1 ma2 ma3 km0 km1 km2 km3 fl th tm pr ag ck nx)) [5, 6, 7, 8, 9] (by decide) rfl
  have hKc := hK.sub (tys' := tw_k km0 km1 km2 km3) [4, 5, 6, 7] rfl
  have hFc := va_free (wc := (tw_wM mh ma0 ma1 ma2 ma3 km0 km1 km2 km3 fl th tm pr ag ck nx)) hD hS hA [5, 6, 7, 8, 9] rfl
  refine va_calli (va_runV (C := RM) (b := mh) (As := []) (rest := []) ⟨hx, hb, hml, hown, hT⟩ (cM_takeB l dC dI mh ma0 ma1 ma2 ma3 km0 km1 km2 km3 fl th tm pr ag ck nx H.size hf) (cwV 0 hT (tw_gV tt_256 tt_257 tt_258 tt_2 tt_259) rfl rfl rfl ⟨rfl, by decide +kernel⟩ ⟨Nat.le_of_ble_eq_true rfl, Nat.le_of_ble_eq_true rfl⟩) ⟨fun a U g mk q => by obtain ⟨q0, q1, qP, qK, qD⟩ := q; exact ⟨q0, q1, qP, va_K.moved (u := U) (U := U.calling g mk a) (Vm.Alike.refl U.vm) qK, qD⟩, va_recv (q0 := 0) (ci := 1) hKc hPc rfl rfl, fun U hU hW => ⟨rfl, by rw [hU], by rw [hU]; exact hPc, va_K.moved hW.alike hKc, hDc.weaken (fun _ _ _ _ => trivial)⟩⟩ rfl rfl hl.1 rfl (lv_room (Nat.le_of_ble_eq_true rfl)) dL_law_259 hc) hS (fun q _ h => hFc q h) hFc (fun r9 u9 t9 H1 locs ht9 hvm9 hw9 hB9 hz9 hk9 hS => ?_)
  obtain ⟨hP1, hD1⟩ := hB9
  rw [ht9] at hP1
  have hw9 : r9 = 0 := hw9
  subst r9
  obtain ⟨hP, hD⟩ := va_join (wr := [(xh, .inr (0, [.ref xa0, .ref xa1, .ref xa2, .ref xa3, .long ck, .int nx])), (xa0, .inl (kx0, 100, .inl th)), (xa1, .inl (kx1, 100, .inr (.inl tm))), (xa2, .inl (kx2, 100, .inl pr)), (xa3, .inl (kx3, 100, .inl ag)), (ao, .inl (k4, 1, .inr (.inl ou)))]) (w1 := (tw_wM mh ma0 ma1 ma2 ma3 km0 km1 km2 km3 1 th tm pr ag ck nx)) hP hD [5, 6, 7, 8, 9] [0, 1, 2, 3, 4, 10] rfl rfl (by decide) (by decide) hk9 hFc hP1 hD1
  generalize H1 = H at hP hS ⊢
  have hP := hP.sub (ws' := [(xh, .inr (0, [.ref xa0, .ref xa1, .ref xa2, .ref xa3, .long ck, .int nx])), (xa0, .inl (kx0, 100, .inl th)), (xa1, .inl (kx1, 100, .inr (.inl tm))), (xa2, .inl (kx2, 100, .inl pr)), (xa3, .inl (kx3, 100, .inl ag)), (mh, .inr (1, [.int 1, .ref ma0, .ref ma1, .ref ma2, .ref ma3, .int nx, .long ck])), (ma0, .inl (km0, 100, .inl th)), (ma1, .inl (km1, 100, .inr (.inl tm))), (ma2, .inl (km2, 100, .inl pr)), (ma3, .inl (km3, 100, .inl ag)), (ao, .inl (k4, 1, .inr (.inl ou)))]) [0, 1, 2, 3, 4, 6, 7, 8, 9, 10, 5] rfl
  have hD := hD.sub (ws' := [(xh, .inr (0, [.ref xa0, .ref xa1, .ref xa2, .ref xa3, .long ck, .int nx])), (xa0, .inl (kx0, 100, .inl th)), (xa1, .inl (kx1, 100, .inr (.inl tm))), (xa2, .inl (kx2, 100, .inl pr)), (xa3, .inl (kx3, 100, .inl ag)), (mh, .inr (1, [.int 1, .ref ma0, .ref ma1, .ref ma2, .ref ma3, .int nx, .long ck])), (ma0, .inl (km0, 100, .inl th)), (ma1, .inl (km1, 100, .inr (.inl tm))), (ma2, .inl (km2, 100, .inl pr)), (ma3, .inl (km3, 100, .inl ag)), (ao, .inl (k4, 1, .inr (.inl ou)))]) [0, 1, 2, 3, 4, 6, 7, 8, 9, 10, 5] (by decide) rfl
  refine lv_istore hx hb dL_law_262 hl (by decide) rfl (fun ls hl => ?_)
  have hl : lv_has ls 8 [(6, .int 0), (5, .int 1), (4, .int (nI i)), (0, .ref b), (1, .ref xh), (2, .ref mh), (3, .ref ao)] := hl
  refine lv_aload_n hx hb dL_law_264 rfl (lv_at hl 5 rfl) ?_
  have hPc := hP.sub (ws' := (tw_wM mh ma0 ma1 ma2 ma3 km0 km1 km2 km3 1 th tm pr ag ck nx)) [5, 6, 7, 8, 9] rfl
  have hKc := hK.sub (tys' := tw_k km0 km1 km2 km3) [4, 5, 6, 7] rfl
  refine vp_callSi (W.runV (C := RM) (b := mh) (As := []) (rest := []) ⟨hx, hb, hml, hown, hT⟩ (cM_thrown l dC dI mh ma0 ma1 ma2 ma3 km0 km1 km2 km3 1 th tm pr ag ck nx) (cwV 0 hT (tw_gV tt_239 tt_240 tt_241 tt_2 tt_242) rfl rfl rfl ⟨rfl, by decide +kernel⟩ ⟨Nat.le_of_ble_eq_true rfl, Nat.le_of_ble_eq_true rfl⟩) ⟨fun a U g mk q => ⟨q.1, q.2.1, va_K.moved (u := U) (U := U.calling g mk a) (Vm.Alike.refl U.vm) q.2.2⟩, va_recv (q0 := 0) (ci := 1) hKc hPc rfl rfl, fun U hU hW => ⟨rfl, by rw [hU]; exact hPc, va_K.moved hW.alike hKc⟩⟩ rfl rfl hl.1 rfl (lv_room (Nat.le_of_ble_eq_true rfl)) dL_law_265 hc) (fun r8 h8 => ?_)
  subst r8
  refine lv_iload hx hb dL_law_268 (lv_at hl 1 rfl) ?_
  refine lv_icmp_eq (tgt := 275) hx hb dL_law_270 (by decide) (fun hc1 => ?_) (fun hc1 => absurd (rfl : (1 : Int32) = 1) hc1)
  refine lv_iload hx hb dL_law_275 (lv_at hl 1 rfl) ?_
  refine lv_if_ne (tgt := 292) hx hb dL_law_277 (by decide) (fun hc2 => ?_) (fun hc2 => absurd hc2 (by decide))
  refine lv_goto (tgt := 563) hx hb dL_law_292 (by decide) ?_
  exact kk 1 th tm pr ag ck nx ou H _ ls hI hP hD hS (lv_sub hl [2, 3, 4, 5, 6] rfl)
end LLtakeB
section LLleast
variable {p : Program} {l : Launch} {e : Env} {s : State} {m : MethodId} {below : List Frame} {meth : Method} {c : Code} {H : Heap} {locs : List Loc} {cells slots : Nat} {Q : State → Prop} {ls : Array Slot} {b L i : Nat} {xs : Nat → Int32}
variable {dC : Nat → ClassId} {dI : Nat → Nat → Nat} {xh xa0 xa1 xa2 xa3 : Nat} {kx0 kx1 kx2 kx3 : ClassId} {mh ma0 ma1 ma2 ma3 : Nat} {km0 km1 km2 km3 : ClassId} {ao : Nat} {k4 : ClassId} {fl : Int32} {th : Nat → Int32} {tm : Nat → Int64} {pr ag : Nat → Int32} {ck : Int64} {nx : Int32} {ou : Nat → Int64}
set_option maxHeartbeats 4000000 in
set_option maxRecDepth 100000 in
theorem ll_least (hx : p.tables.exec = Jvm.exec) (hb : c.code = bL_law) (hml : c.maxLocals = 8) (hT : ∀ w ∈ tw_T, w.before #[Value.ref b] s = true) (hown : s.vm.findClass RL = some m.cls) (hfl : l.flags = pinnedFlags ++ [noTraceFlag]) (hX : va_X b L xs s s.heap) (hbl : b < s.heap.size) (hZ : tw_Z s s.heap) (hNc : va_Nc tw_nse tw_iae s) (hL : L ≤ 2560) (hi : i + 5 ≤ L) (hc : cells + 1 ≤ 1044 ∧ slots + 6 ≤ 9060) (hI : tw_Inv tm ck) (hP : va_P (dC, dI) tw_cl (tw_wL xh xa0 xa1 xa2 xa3 kx0 kx1 kx2 kx3 mh ma0 ma1 ma2 ma3 km0 km1 km2 km3 ao k4 fl th tm pr ag ck nx ou) H) (hD : va_D (tw_AL s) (tw_wL xh xa0 xa1 xa2 xa3 kx0 kx1 kx2 kx3 mh ma0 ma1 ma2 ma3 km0 km1 km2 km3 ao k4 fl th tm pr ag ck nx ou)) (hK : va_K (dC, dI) tw_cl (tw_kL kx0 kx1 kx2 kx3 km0 km1 km2 km3 k4) s) (hS : va_S (tw_AL s) s.heap H locs) (hl : lv_has ls 8 [(4, .int (nI i)), (0, .ref b), (1, .ref xh), (2, .ref mh), (3, .ref ao)])  (kk : ∀ (fl' : Int32) (th' : Nat → Int32) (tm' : Nat → Int64) (pr' ag' : Nat → Int32) (ck' : Int64) (nx' : Int32) (ou' : Nat → Int64) (H' : Heap) (locs' : List Loc) (ls' : Array Slot), tw_Inv tm' ck' → va_P (dC, dI) tw_cl (tw_wL xh xa0 xa1 xa2 xa3 kx0 kx1 kx2 kx3 mh ma0 ma1 ma2 ma3 km0 km1 km2 km3 ao k4 fl' (th') (tm') (pr') (ag') (ck') (nx') (ou')) H' → va_D (tw_AL s) (tw_wL xh xa0 xa1 xa2 xa3 kx0 kx1 kx2 kx3 mh ma0 ma1 ma2 ma3 km0 km1 km2 km3 ao k4 (fl') (th') (tm') (pr') (ag') (ck') (nx') (ou')) → va_S (tw_AL s) s.heap H' locs' → lv_has ls' 8 [(4, .int (nI i)), (0, .ref b), (1, .ref xh), (2, .ref mh), (3, .ref ao)] → W p l e room_1 s m #[Value.ref b] below meth c H' locs' (cells + 1) (slots + 6) Q (F0 m 563 ls' [])) : W p l e room_1 s m #[Value.ref b] below meth c H locs cells slots Q (F0 m 295 ls []) := by
  have hA : ∀ q : Nat, s.heap.size ≤ q → tw_AL s q := fun q h => h
  have hbA : ¬ tw_AL s b := Nat.not_le.mpr hbl
  refine lv_aload_n hx hb dL_law_295 rfl (lv_at hl 2 rfl) ?_
  have hPc := hP.sub (ws' := (tw_wX xh xa0 xa1 xa2 xa3 kx0 kx1 kx2 kx3 th tm pr ag ck nx)) [0, 1, 2, 3, 4] rfl
  have hKc := hK.sub (tys' := tw_k kx0 kx1 kx2 kx3) [0, 1, 2, 3] rfl
  refine vp_callSl (W.runV (C := RX) (b := xh) (As := []) (rest := []) ⟨hx, hb, hml, hown, hT⟩ (cX_least l dC dI xh xa0 xa1 xa2 xa3 kx0 kx1 kx2 kx3 th tm pr ag ck nx) (cwV 0 hT (tw_gV tt_38 tt_39 tt_40 tt_1 tt_41) rfl rfl rfl ⟨rfl, by decide +kernel⟩ ⟨Nat.le_of_ble_eq_true rfl, Nat.le_of_ble_eq_true rfl⟩) ⟨fun a U g mk q => ⟨q.1, q.2.1, va_K.moved (u := U) (U := U.calling g mk a) (Vm.Alike.refl U.vm) q.2.2⟩, va_recv (q0 := 0) (ci := 0) hKc hPc rfl rfl, fun U hU hW => ⟨rfl, by rw [hU]; exact hPc, va_K.moved hW.alike hKc⟩⟩ rfl rfl hl.1 rfl (lv_room (Nat.le_of_ble_eq_true rfl)) dL_law_296 ⟨Nat.le_trans (Nat.le_succ _) hc.1, Nat.le_trans (Nat.le_add_right _ 6) hc.2⟩) (fun r8 h8 => ?_)
  subst r8
  refine lv_aload_n hx hb dL_law_299 rfl (lv_at hl 3 rfl) ?_
  have hPc := hP.sub (ws' := (tw_wM mh ma0 ma1 ma2 ma3 km0 km1 km2 km3 fl th tm pr ag ck nx)) [5, 6, 7, 8, 9] rfl
  have hDc := hD.sub (ws' := (tw_wM mh ma0 ma1 ma2 ma3 km0 km1 km2 km3 fl th tm pr ag ck nx)) [5, 6, 7, 8, 9] (by decide) rfl
  have hKc := hK.sub (tys' := tw_k km0 km1 km2 km3) [4, 5, 6, 7] rfl
  have hFc := va_free (wc := (tw_wM mh ma0 ma1 ma2 ma3 km0 km1 km2 km3 fl th tm pr ag ck nx)) hD hS hA [5, 6, 7, 8, 9] rfl
  refine va_calll (va_runV (C := RM) (b := mh) (As := []) (rest := [.long (tw_least th tm ck 100)]) ⟨hx, hb, hml, hown, hT⟩ (cM_least l dC dI mh ma0 ma1 ma2 ma3 km0 km1 km2 km3 fl th tm pr ag ck nx H.size (fun k => (hI.1 k).1)) (cwV 0 hT (tw_gV tt_264 tt_265 tt_266 tt_2 tt_267) rfl rfl rfl ⟨rfl, by decide +kernel⟩ ⟨Nat.le_of_ble_eq_true rfl, Nat.le_of_ble_eq_true rfl⟩) ⟨fun a U g mk q => by obtain ⟨q0, q1, qP, qK, qD⟩ := q; exact ⟨q0, q1, qP, va_K.moved (u := U) (U := U.calling g mk a) (Vm.Alike.refl U.vm) qK, qD⟩, va_recv (q0 := 0) (ci := 1) hKc hPc rfl rfl, fun U hU hW => ⟨rfl, by rw [hU], by rw [hU]; exact hPc, va_K.moved hW.alike hKc, hDc.weaken (fun _ _ _ _ => trivial)⟩⟩ rfl rfl hl.1 rfl (lv_room (Nat.le_of_ble_eq_true rfl)) dL_law_300 ⟨Nat.le_trans (Nat.le_succ _) hc.1, Nat.le_trans (Nat.le_add_right _ 6) hc.2⟩) hS (fun q _ h => hFc q h) hFc (fun r9 u9 t9 H1 locs ht9 hvm9 hw9 hB9 hz9 hk9 hS => ?_)
  obtain ⟨hP1, hD1⟩ := hB9
  rw [ht9] at hP1
  have hw9 : r9 = tw_least th tm ck 100 := hw9
  subst r9
  obtain ⟨hP, hD⟩ := va_join (wr := [(xh, .inr (0, [.ref xa0, .ref xa1, .ref xa2, .ref xa3, .long ck, .int nx])), (xa0, .inl (kx0, 100, .inl th)), (xa1, .inl (kx1, 100, .inr (.inl tm))), (xa2, .inl (kx2, 100, .inl pr)), (xa3, .inl (kx3, 100, .inl ag)), (ao, .inl (k4, 1, .inr (.inl ou)))]) (w1 := (tw_wM mh ma0 ma1 ma2 ma3 km0 km1 km2 km3 0 th tm pr ag ck nx)) hP hD [5, 6, 7, 8, 9] [0, 1, 2, 3, 4, 10] rfl rfl (by decide) (by decide) hk9 hFc hP1 hD1
  generalize H1 = H at hP hS ⊢
  have hP := hP.sub (ws' := [(xh, .inr (0, [.ref xa0, .ref xa1, .ref xa2, .ref xa3, .long ck, .int nx])), (xa0, .inl (kx0, 100, .inl th)), (xa1, .inl (kx1, 100, .inr (.inl tm))), (xa2, .inl (kx2, 100, .inl pr)), (xa3, .inl (kx3, 100, .inl ag)), (mh, .inr (1, [.int 0, .ref ma0, .ref ma1, .ref ma2, .ref ma3, .int nx, .long ck])), (ma0, .inl (km0, 100, .inl th)), (ma1, .inl (km1, 100, .inr (.inl tm))), (ma2, .inl (km2, 100, .inl pr)), (ma3, .inl (km3, 100, .inl ag)), (ao, .inl (k4, 1, .inr (.inl ou)))]) [0, 1, 2, 3, 4, 6, 7, 8, 9, 10, 5] rfl
  have hD := hD.sub (ws' := [(xh, .inr (0, [.ref xa0, .ref xa1, .ref xa2, .ref xa3, .long ck, .int nx])), (xa0, .inl (kx0, 100, .inl th)), (xa1, .inl (kx1, 100, .inr (.inl tm))), (xa2, .inl (kx2, 100, .inl pr)), (xa3, .inl (kx3, 100, .inl ag)), (mh, .inr (1, [.int 0, .ref ma0, .ref ma1, .ref ma2, .ref ma3, .int nx, .long ck])), (ma0, .inl (km0, 100, .inl th)), (ma1, .inl (km1, 100, .inr (.inl tm))), (ma2, .inl (km2, 100, .inl pr)), (ma3, .inl (km3, 100, .inl ag)), (ao, .inl (k4, 1, .inr (.inl ou)))]) [0, 1, 2, 3, 4, 6, 7, 8, 9, 10, 5] (by decide) rfl
  refine W.lcmp hx hb dL_law_303 ?_
  refine lv_if_eq (tgt := 563) hx hb dL_law_304 (by decide) (fun hc1 => ?_) (fun hc1 => absurd ((lg_cmp_eq _ _).mpr rfl) hc1)
  refine W.widen (k := cells + 1) (n := slots + 6) (Nat.le_succ _) (Nat.le_add_right _ 6) ?_
  exact kk 0 th tm pr ag ck nx ou H _ ls hI hP hD hS (lv_sub hl [0, 1, 2, 3, 4] rfl)
end LLleast
section LLgo
variable {p : Program} {l : Launch} {e : Env} {s : State} {m : MethodId} {below : List Frame} {meth : Method} {c : Code} {H : Heap} {locs : List Loc} {cells slots : Nat} {Q : State → Prop} {ls : Array Slot} {b L i : Nat} {xs : Nat → Int32}
variable {dC : Nat → ClassId} {dI : Nat → Nat → Nat} {xh xa0 xa1 xa2 xa3 : Nat} {kx0 kx1 kx2 kx3 : ClassId} {mh ma0 ma1 ma2 ma3 : Nat} {km0 km1 km2 km3 : ClassId} {ao : Nat} {k4 : ClassId} {fl : Int32} {th : Nat → Int32} {tm : Nat → Int64} {pr ag : Nat → Int32} {ck : Int64} {nx : Int32} {ou : Nat → Int64}
set_option maxHeartbeats 4000000 in
set_option maxRecDepth 100000 in
theorem ll_go (hx : p.tables.exec = Jvm.exec) (hb : c.code = bL_law) (hml : c.maxLocals = 8) (hT : ∀ w ∈ tw_T, w.before #[Value.ref b] s = true) (hown : s.vm.findClass RL = some m.cls) (hfl : l.flags = pinnedFlags ++ [noTraceFlag]) (hX : va_X b L xs s s.heap) (hbl : b < s.heap.size) (hZ : tw_Z s s.heap) (hNc : va_Nc tw_nse tw_iae s) (hL : L ≤ 2560) (hi : i + 5 ≤ L) (hc : cells + 1 ≤ 1044 ∧ slots + 6 ≤ 9060) (hI : tw_Inv tm ck) (hP : va_P (dC, dI) tw_cl (tw_wL xh xa0 xa1 xa2 xa3 kx0 kx1 kx2 kx3 mh ma0 ma1 ma2 ma3 km0 km1 km2 km3 ao k4 fl th tm pr ag ck nx ou) H) (hD : va_D (tw_AL s) (tw_wL xh xa0 xa1 xa2 xa3 kx0 kx1 kx2 kx3 mh ma0 ma1 ma2 ma3 km0 km1 km2 km3 ao k4 fl th tm pr ag ck nx ou)) (hK : va_K (dC, dI) tw_cl (tw_kL kx0 kx1 kx2 kx3 km0 km1 km2 km3 k4) s) (hS : va_S (tw_AL s) s.heap H locs) (hl : lv_has ls 8 [(4, .int (nI i)), (0, .ref b), (1, .ref xh), (2, .ref mh), (3, .ref ao)]) {j1 j2 : Int32} (e1 : xs (nI i + 1).toNatClampNeg = j1) (e2 : xs (nI i + 2).toNatClampNeg = j2) (h1 : 0 ≤ (j1.toInt64 <<< ((32 : Int32).toInt64 &&& 63)) ||| (j2.toInt64 &&& 4294967295)) (h2 : (j1.toInt64 <<< ((32 : Int32).toInt64 &&& 63)) ||| (j2.toInt64 &&& 4294967295) ≤ 17592186044416) (h3 : ck + ((j1.toInt64 <<< ((32 : Int32).toInt64 &&& 63)) ||| (j2.toInt64 &&& 4294967295)) ≤ 70368744177664) (kk : ∀ (fl' : Int32) (th' : Nat → Int32) (tm' : Nat → Int64) (pr' ag' : Nat → Int32) (ck' : Int64) (nx' : Int32) (ou' : Nat → Int64) (H' : Heap) (locs' : List Loc) (ls' : Array Slot), tw_Inv tm' ck' → va_P (dC, dI) tw_cl (tw_wL xh xa0 xa1 xa2 xa3 kx0 kx1 kx2 kx3 mh ma0 ma1 ma2 ma3 km0 km1 km2 km3 ao k4 fl' (th') (tm') (pr') (ag') (ck') (nx') (ou')) H' → va_D (tw_AL s) (tw_wL xh xa0 xa1 xa2 xa3 kx0 kx1 kx2 kx3 mh ma0 ma1 ma2 ma3 km0 km1 km2 km3 ao k4 (fl') (th') (tm') (pr') (ag') (ck') (nx') (ou')) → va_S (tw_AL s) s.heap H' locs' → lv_has ls' 8 [(4, .int (nI i)), (0, .ref b), (1, .ref xh), (2, .ref mh), (3, .ref ao)] → W p l e room_1 s m #[Value.ref b] below meth c H' locs' (cells + 1) (slots + 6) Q (F0 m 563 ls' [])) : W p l e room_1 s m #[Value.ref b] below meth c H locs cells slots Q (F0 m 309 ls []) := by
  have hA : ∀ q : Nat, s.heap.size ≤ q → tw_AL s q := fun q h => h
  have hbA : ¬ tw_AL s b := Nat.not_le.mpr hbl
  refine lv_aload_n hx hb dL_law_309 rfl (lv_at hl 2 rfl) ?_
  refine lv_aload_n hx hb dL_law_310 rfl (lv_at hl 1 rfl) ?_
  refine lv_iload hx hb dL_law_311 (lv_at hl 0 rfl) ?_
  refine lv_iconst (v := 1) hx hb dL_law_313 (by decide) ?_
  refine lv_iadd hx hb dL_law_314 ?_
  refine va_sld hx hb hX hbl hbA hS (tw_sin1 hi hL) dL_law_315 ?_
  rw [e1]
  refine lv_i2l hx hb dL_law_316 rfl ?_
  refine lv_bipush (v := 32) hx hb dL_law_317 (by decide) ?_
  refine lv_lshl hx hb dL_law_319 rfl ?_
  refine lv_aload_n hx hb dL_law_320 rfl (lv_at hl 1 rfl) ?_
  refine lv_iload hx hb dL_law_321 (lv_at hl 0 rfl) ?_
  refine lv_iconst (v := 2) hx hb dL_law_323 (by decide) ?_
  refine lv_iadd hx hb dL_law_324 ?_
  refine va_sld hx hb hX hbl hbA hS (tw_sin2 hi hL) dL_law_325 ?_
  rw [e2]
  refine lv_i2l hx hb dL_law_326 rfl ?_
  refine lv_ldc2 (v := 4294967295) hx hb hown (hT _ tt_292) dL_law_327 ?_
  refine lv_land hx hb dL_law_330 ?_
  refine lv_lor hx hb dL_law_331 ?_
  refine lv_aload_n hx hb dL_law_332 rfl (lv_at hl 4 rfl) ?_
  have hPc := hP.sub (ws' := (tw_wH xh xa0 xa1 xa2 xa3 kx0 kx1 kx2 kx3 th tm pr ag ck nx ao k4 ou)) [0, 1, 2, 3, 4, 10] rfl
  have hDc := hD.sub (ws' := (tw_wH xh xa0 xa1 xa2 xa3 kx0 kx1 kx2 kx3 th tm pr ag ck nx ao k4 ou)) [0, 1, 2, 3, 4, 10] (by decide) rfl
  have hKc := hK.sub (tys' := tw_kH kx0 kx1 kx2 kx3 k4) [0, 1, 2, 3, 8] rfl
  have hFc := va_free (wc := (tw_wH xh xa0 xa1 xa2 xa3 kx0 kx1 kx2 kx3 th tm pr ag ck nx ao k4 ou)) hD hS hA [0, 1, 2, 3, 4, 10] rfl
  refine va_calli (xt_runSW (n := 3) (As := [.ref xh, .long ((j1.toInt64 <<< ((32 : Int32).toInt64 &&& 63)) ||| (j2.toInt64 &&& 4294967295)), .ref ao]) (rest := []) ⟨hx, hb, hml, hown, hT⟩ (cL_go l dC dI xh xa0 xa1 xa2 xa3 kx0 kx1 kx2 kx3 th tm pr ag ck nx ao k4 ou H.size _ h1 h2 ((tw_go hI.2.1 hI.2.2 h1 h2).1.mpr h3)) rfl (tw_gS tt_167 tt_168 tt_0 tt_169) rfl rfl ⟨rfl, by decide +kernel⟩ ⟨Nat.le_of_ble_eq_true rfl, Nat.le_of_ble_eq_true rfl⟩ ⟨fun a U g mk q => by obtain ⟨q0, q1, qP, qK, qD⟩ := q; exact ⟨q0, q1, qP, va_K.moved (u := U) (U := U.calling g mk a) (Vm.Alike.refl U.vm) qK, qD⟩, fun U hU hW => ⟨rfl, by rw [hU], by rw [hU]; exact hPc, va_K.moved hW.alike hKc, hDc.weaken (fun _ _ _ _ => trivial)⟩⟩ rfl rfl hl.1 rfl (lv_room (Nat.le_of_ble_eq_true rfl)) dL_law_333 ⟨Nat.le_trans (Nat.le_succ _) hc.1, Nat.le_trans (Nat.le_add_right _ 6) hc.2⟩) hS (fun q _ h => hFc q h) hFc (fun r9 u9 t9 H1 locs ht9 hvm9 hw9 hB9 hz9 hk9 hS => ?_)
  obtain ⟨hP1, hD1⟩ := hB9
  rw [ht9] at hP1
  have hw9 : r9 = 0 := hw9
  subst r9
  obtain ⟨hP, hD⟩ := va_join (wr := (tw_wM mh ma0 ma1 ma2 ma3 km0 km1 km2 km3 fl th tm pr ag ck nx)) (w1 := (tw_wH xh xa0 xa1 xa2 xa3 kx0 kx1 kx2 kx3 th tm pr ag (ck + ((j1.toInt64 <<< ((32 : Int32).toInt64 &&& 63)) ||| (j2.toInt64 &&& 4294967295))) nx ao k4 (vp_updL ou (0 : Int32).toNatClampNeg ((tw_dues th tm (ck + ((j1.toInt64 <<< ((32 : Int32).toInt64 &&& 63)) ||| (j2.toInt64 &&& 4294967295))) 100).toInt64)))) hP hD [0, 1, 2, 3, 4, 10] [5, 6, 7, 8, 9] rfl rfl (by decide) (by decide) hk9 hFc hP1 hD1
  generalize H1 = H at hP hS ⊢
  have hP := hP.sub (ws' := [(xh, .inr (0, [.ref xa0, .ref xa1, .ref xa2, .ref xa3, .long (ck + ((j1.toInt64 <<< ((32 : Int32).toInt64 &&& 63)) ||| (j2.toInt64 &&& 4294967295))), .int nx])), (xa0, .inl (kx0, 100, .inl th)), (xa1, .inl (kx1, 100, .inr (.inl tm))), (xa2, .inl (kx2, 100, .inl pr)), (xa3, .inl (kx3, 100, .inl ag)), (mh, .inr (1, [.int fl, .ref ma0, .ref ma1, .ref ma2, .ref ma3, .int nx, .long ck])), (ma0, .inl (km0, 100, .inl th)), (ma1, .inl (km1, 100, .inr (.inl tm))), (ma2, .inl (km2, 100, .inl pr)), (ma3, .inl (km3, 100, .inl ag)), (ao, .inl (k4, 1, .inr (.inl (vp_updL ou (0 : Int32).toNatClampNeg ((tw_dues th tm (ck + ((j1.toInt64 <<< ((32 : Int32).toInt64 &&& 63)) ||| (j2.toInt64 &&& 4294967295))) 100).toInt64)))))]) [5, 6, 7, 8, 9, 0, 1, 2, 3, 4, 10] rfl
  have hD := hD.sub (ws' := [(xh, .inr (0, [.ref xa0, .ref xa1, .ref xa2, .ref xa3, .long (ck + ((j1.toInt64 <<< ((32 : Int32).toInt64 &&& 63)) ||| (j2.toInt64 &&& 4294967295))), .int nx])), (xa0, .inl (kx0, 100, .inl th)), (xa1, .inl (kx1, 100, .inr (.inl tm))), (xa2, .inl (kx2, 100, .inl pr)), (xa3, .inl (kx3, 100, .inl ag)), (mh, .inr (1, [.int fl, .ref ma0, .ref ma1, .ref ma2, .ref ma3, .int nx, .long ck])), (ma0, .inl (km0, 100, .inl th)), (ma1, .inl (km1, 100, .inr (.inl tm))), (ma2, .inl (km2, 100, .inl pr)), (ma3, .inl (km3, 100, .inl ag)), (ao, .inl (k4, 1, .inr (.inl (vp_updL ou (0 : Int32).toNatClampNeg ((tw_dues th tm (ck + ((j1.toInt64 <<< ((32 : Int32).toInt64 &&& 63)) ||| (j2.toInt64 &&& 4294967295))) 100).toInt64)))))]) [5, 6, 7, 8, 9, 0, 1, 2, 3, 4, 10] (by decide) rfl
  refine lv_istore hx hb dL_law_336 hl (by decide) rfl (fun ls hl => ?_)
  have hl : lv_has ls 8 [(5, .int 0), (4, .int (nI i)), (0, .ref b), (1, .ref xh), (2, .ref mh), (3, .ref ao)] := hl
  refine lv_aload_n hx hb dL_law_338 rfl (lv_at hl 4 rfl) ?_
  refine lv_aload_n hx hb dL_law_339 rfl (lv_at hl 2 rfl) ?_
  refine lv_iload hx hb dL_law_340 (lv_at hl 1 rfl) ?_
  refine lv_iconst (v := 1) hx hb dL_law_342 (by decide) ?_
  refine lv_iadd hx hb dL_law_343 ?_
  refine va_sld hx hb hX hbl hbA hS (tw_sin1 hi hL) dL_law_344 ?_
  rw [e1]
  refine lv_i2l hx hb dL_law_345 rfl ?_
  refine lv_bipush (v := 32) hx hb dL_law_346 (by decide) ?_
  refine lv_lshl hx hb dL_law_348 rfl ?_
  refine lv_aload_n hx hb dL_law_349 rfl (lv_at hl 2 rfl) ?_
  refine lv_iload hx hb dL_law_350 (lv_at hl 1 rfl) ?_
  refine lv_iconst (v := 2) hx hb dL_law_352 (by decide) ?_
  refine lv_iadd hx hb dL_law_353 ?_
  refine va_sld hx hb hX hbl hbA hS (tw_sin2 hi hL) dL_law_354 ?_
  rw [e2]
  refine lv_i2l hx hb dL_law_355 rfl ?_
  refine lv_ldc2 (v := 4294967295) hx hb hown (hT _ tt_292) dL_law_356 ?_
  refine lv_land hx hb dL_law_359 ?_
  refine lv_lor hx hb dL_law_360 ?_
  have hPc := hP.sub (ws' := (tw_wM mh ma0 ma1 ma2 ma3 km0 km1 km2 km3 fl th tm pr ag ck nx)) [5, 6, 7, 8, 9] rfl
  have hDc := hD.sub (ws' := (tw_wM mh ma0 ma1 ma2 ma3 km0 km1 km2 km3 fl th tm pr ag ck nx)) [5, 6, 7, 8, 9] (by decide) rfl
  have hKc := hK.sub (tys' := tw_k km0 km1 km2 km3) [4, 5, 6, 7] rfl
  have hFc := va_free (wc := (tw_wM mh ma0 ma1 ma2 ma3 km0 km1 km2 km3 fl th tm pr ag ck nx)) hD hS hA [5, 6, 7, 8, 9] rfl
  refine va_calli (va_runV (C := RM) (b := mh) (As := [.long ((j1.toInt64 <<< ((32 : Int32).toInt64 &&& 63)) ||| (j2.toInt64 &&& 4294967295))]) (rest := []) ⟨hx, hb, hml, hown, hT⟩ (cM_go l dC dI mh ma0 ma1 ma2 ma3 km0 km1 km2 km3 fl th tm pr ag ck nx H.size _ h1 h2 h3) (cwV 1 hT (tw_gV tt_269 tt_270 tt_271 tt_2 tt_272) rfl rfl rfl ⟨rfl, by decide +kernel⟩ ⟨Nat.le_of_ble_eq_true rfl, Nat.le_of_ble_eq_true rfl⟩) ⟨fun a U g mk q => by obtain ⟨q0, q1, qP, qK, qD⟩ := q; exact ⟨q0, q1, qP, va_K.moved (u := U) (U := U.calling g mk a) (Vm.Alike.refl U.vm) qK, qD⟩, va_recv (q0 := 0) (ci := 1) hKc hPc rfl rfl, fun U hU hW => ⟨rfl, by rw [hU], by rw [hU]; exact hPc, va_K.moved hW.alike hKc, hDc.weaken (fun _ _ _ _ => trivial)⟩⟩ rfl rfl hl.1 rfl (lv_room (Nat.le_of_ble_eq_true rfl)) dL_law_361 ⟨Nat.le_trans (Nat.le_succ _) hc.1, Nat.le_trans (Nat.le_add_right _ 6) hc.2⟩) hS (fun q _ h => hFc q h) hFc (fun r9 u9 t9 H1 locs ht9 hvm9 hw9 hB9 hz9 hk9 hS => ?_)
  obtain ⟨hP1, hD1⟩ := hB9
  rw [ht9] at hP1
  have hw9 : r9 = tw_dues th tm (ck + ((j1.toInt64 <<< ((32 : Int32).toInt64 &&& 63)) ||| (j2.toInt64 &&& 4294967295))) 100 := hw9
  subst r9
  obtain ⟨hP, hD⟩ := va_join (wr := [(xh, .inr (0, [.ref xa0, .ref xa1, .ref xa2, .ref xa3, .long (ck + ((j1.toInt64 <<< ((32 : Int32).toInt64 &&& 63)) ||| (j2.toInt64 &&& 4294967295))), .int nx])), (xa0, .inl (kx0, 100, .inl th)), (xa1, .inl (kx1, 100, .inr (.inl tm))), (xa2, .inl (kx2, 100, .inl pr)), (xa3, .inl (kx3, 100, .inl ag)), (ao, .inl (k4, 1, .inr (.inl (vp_updL ou (0 : Int32).toNatClampNeg ((tw_dues th tm (ck + ((j1.toInt64 <<< ((32 : Int32).toInt64 &&& 63)) ||| (j2.toInt64 &&& 4294967295))) 100).toInt64)))))]) (w1 := (tw_wM mh ma0 ma1 ma2 ma3 km0 km1 km2 km3 0 th tm pr ag (ck + ((j1.toInt64 <<< ((32 : Int32).toInt64 &&& 63)) ||| (j2.toInt64 &&& 4294967295))) nx)) hP hD [5, 6, 7, 8, 9] [0, 1, 2, 3, 4, 10] rfl rfl (by decide) (by decide) hk9 hFc hP1 hD1
  generalize H1 = H at hP hS ⊢
  have hP := hP.sub (ws' := [(xh, .inr (0, [.ref xa0, .ref xa1, .ref xa2, .ref xa3, .long (ck + ((j1.toInt64 <<< ((32 : Int32).toInt64 &&& 63)) ||| (j2.toInt64 &&& 4294967295))), .int nx])), (xa0, .inl (kx0, 100, .inl th)), (xa1, .inl (kx1, 100, .inr (.inl tm))), (xa2, .inl (kx2, 100, .inl pr)), (xa3, .inl (kx3, 100, .inl ag)), (mh, .inr (1, [.int 0, .ref ma0, .ref ma1, .ref ma2, .ref ma3, .int nx, .long (ck + ((j1.toInt64 <<< ((32 : Int32).toInt64 &&& 63)) ||| (j2.toInt64 &&& 4294967295)))])), (ma0, .inl (km0, 100, .inl th)), (ma1, .inl (km1, 100, .inr (.inl tm))), (ma2, .inl (km2, 100, .inl pr)), (ma3, .inl (km3, 100, .inl ag)), (ao, .inl (k4, 1, .inr (.inl (vp_updL ou (0 : Int32).toNatClampNeg ((tw_dues th tm (ck + ((j1.toInt64 <<< ((32 : Int32).toInt64 &&& 63)) ||| (j2.toInt64 &&& 4294967295))) 100).toInt64)))))]) [0, 1, 2, 3, 4, 6, 7, 8, 9, 10, 5] rfl
  have hD := hD.sub (ws' := [(xh, .inr (0, [.ref xa0, .ref xa1, .ref xa2, .ref xa3, .long (ck + ((j1.toInt64 <<< ((32 : Int32).toInt64 &&& 63)) ||| (j2.toInt64 &&& 4294967295))), .int nx])), (xa0, .inl (kx0, 100, .inl th)), (xa1, .inl (kx1, 100, .inr (.inl tm))), (xa2, .inl (kx2, 100, .inl pr)), (xa3, .inl (kx3, 100, .inl ag)), (mh, .inr (1, [.int 0, .ref ma0, .ref ma1, .ref ma2, .ref ma3, .int nx, .long (ck + ((j1.toInt64 <<< ((32 : Int32).toInt64 &&& 63)) ||| (j2.toInt64 &&& 4294967295)))])), (ma0, .inl (km0, 100, .inl th)), (ma1, .inl (km1, 100, .inr (.inl tm))), (ma2, .inl (km2, 100, .inl pr)), (ma3, .inl (km3, 100, .inl ag)), (ao, .inl (k4, 1, .inr (.inl (vp_updL ou (0 : Int32).toNatClampNeg ((tw_dues th tm (ck + ((j1.toInt64 <<< ((32 : Int32).toInt64 &&& 63)) ||| (j2.toInt64 &&& 4294967295))) 100).toInt64)))))]) [0, 1, 2, 3, 4, 6, 7, 8, 9, 10, 5] (by decide) rfl
  refine lv_istore hx hb dL_law_364 hl (by decide) rfl (fun ls hl => ?_)
  have hl : lv_has ls 8 [(6, .int (tw_dues th tm (ck + ((j1.toInt64 <<< ((32 : Int32).toInt64 &&& 63)) ||| (j2.toInt64 &&& 4294967295))) 100)), (5, .int 0), (4, .int (nI i)), (0, .ref b), (1, .ref xh), (2, .ref mh), (3, .ref ao)] := hl
  refine lv_aload_n hx hb dL_law_366 rfl (lv_at hl 5 rfl) ?_
  have hPc := hP.sub (ws' := (tw_wM mh ma0 ma1 ma2 ma3 km0 km1 km2 km3 0 th tm pr ag (ck + ((j1.toInt64 <<< ((32 : Int32).toInt64 &&& 63)) ||| (j2.toInt64 &&& 4294967295))) nx)) [5, 6, 7, 8, 9] rfl
  have hKc := hK.sub (tys' := tw_k km0 km1 km2 km3) [4, 5, 6, 7] rfl
  refine vp_callSi (W.runV (C := RM) (b := mh) (As := []) (rest := []) ⟨hx, hb, hml, hown, hT⟩ (cM_thrown l dC dI mh ma0 ma1 ma2 ma3 km0 km1 km2 km3 0 th tm pr ag (ck + ((j1.toInt64 <<< ((32 : Int32).toInt64 &&& 63)) ||| (j2.toInt64 &&& 4294967295))) nx) (cwV 0 hT (tw_gV tt_239 tt_240 tt_241 tt_2 tt_242) rfl rfl rfl ⟨rfl, by decide +kernel⟩ ⟨Nat.le_of_ble_eq_true rfl, Nat.le_of_ble_eq_true rfl⟩) ⟨fun a U g mk q => ⟨q.1, q.2.1, va_K.moved (u := U) (U := U.calling g mk a) (Vm.Alike.refl U.vm) q.2.2⟩, va_recv (q0 := 0) (ci := 1) hKc hPc rfl rfl, fun U hU hW => ⟨rfl, by rw [hU]; exact hPc, va_K.moved hW.alike hKc⟩⟩ rfl rfl hl.1 rfl (lv_room (Nat.le_of_ble_eq_true rfl)) dL_law_367 ⟨Nat.le_trans (Nat.le_succ _) hc.1, Nat.le_trans (Nat.le_add_right _ 6) hc.2⟩) (fun r8 h8 => ?_)
  subst r8
  refine lv_iload hx hb dL_law_370 (lv_at hl 1 rfl) ?_
  refine lv_icmp_eq (tgt := 377) hx hb dL_law_372 (by decide) (fun hc1 => ?_) (fun hc1 => absurd (rfl : (0 : Int32) = 0) hc1)
  refine lv_iload hx hb dL_law_377 (lv_at hl 1 rfl) ?_
  refine lv_if_ne (tgt := 394) hx hb dL_law_379 (by decide) (fun hc2 => absurd rfl hc2) (fun hc2 => ?_)
  refine lv_aload_n hx hb dL_law_382 rfl (lv_at hl 6 rfl) ?_
  refine lv_iconst (v := 0) hx hb dL_law_383 (by decide) ?_
  refine va_lald hx hb hK hP 10 8 rfl rfl (by unfold vp_in; decide) dL_law_384 ?_
  refine lv_iload hx hb dL_law_385 (lv_at hl 0 rfl) ?_
  refine lv_i2l hx hb dL_law_387 rfl ?_
  refine W.lcmp hx hb dL_law_388 ?_
  refine lv_if_eq (tgt := 394) hx hb dL_law_389 (by decide) (fun hc3 => ?_) (fun hc3 => absurd ((lg_cmp_eq _ _).mpr pk_uLs) hc3)
  refine lv_goto (tgt := 563) hx hb dL_law_394 (by decide) ?_
  refine W.widen (k := cells + 1) (n := slots + 6) (Nat.le_succ _) (Nat.le_add_right _ 6) ?_
  exact kk 0 th tm pr ag (ck + ((j1.toInt64 <<< ((32 : Int32).toInt64 &&& 63)) ||| (j2.toInt64 &&& 4294967295))) nx (vp_updL ou (0 : Int32).toNatClampNeg ((tw_dues th tm (ck + ((j1.toInt64 <<< ((32 : Int32).toInt64 &&& 63)) ||| (j2.toInt64 &&& 4294967295))) 100).toInt64)) H _ ls ⟨hI.1, (tw_go hI.2.1 hI.2.2 h1 h2).2, h3⟩ hP hD hS (lv_sub hl [2, 3, 4, 5, 6] rfl)
end LLgo
section LLgoB
variable {p : Program} {l : Launch} {e : Env} {s : State} {m : MethodId} {below : List Frame} {meth : Method} {c : Code} {H : Heap} {locs : List Loc} {cells slots : Nat} {Q : State → Prop} {ls : Array Slot} {b L i : Nat} {xs : Nat → Int32}
variable {dC : Nat → ClassId} {dI : Nat → Nat → Nat} {xh xa0 xa1 xa2 xa3 : Nat} {kx0 kx1 kx2 kx3 : ClassId} {mh ma0 ma1 ma2 ma3 : Nat} {km0 km1 km2 km3 : ClassId} {ao : Nat} {k4 : ClassId} {fl : Int32} {th : Nat → Int32} {tm : Nat → Int64} {pr ag : Nat → Int32} {ck : Int64} {nx : Int32} {ou : Nat → Int64}
set_option maxHeartbeats 4000000 in
set_option maxRecDepth 100000 in
theorem ll_goB (hx : p.tables.exec = Jvm.exec) (hb : c.code = bL_law) (hml : c.maxLocals = 8) (hT : ∀ w ∈ tw_T, w.before #[Value.ref b] s = true) (hown : s.vm.findClass RL = some m.cls) (hfl : l.flags = pinnedFlags ++ [noTraceFlag]) (hX : va_X b L xs s s.heap) (hbl : b < s.heap.size) (hZ : tw_Z s s.heap) (hNc : va_Nc tw_nse tw_iae s) (hL : L ≤ 2560) (hi : i + 5 ≤ L) (hc : cells + 1 ≤ 1044 ∧ slots + 6 ≤ 9060) (hI : tw_Inv tm ck) (hP : va_P (dC, dI) tw_cl (tw_wL xh xa0 xa1 xa2 xa3 kx0 kx1 kx2 kx3 mh ma0 ma1 ma2 ma3 km0 km1 km2 km3 ao k4 fl th tm pr ag ck nx ou) H) (hD : va_D (tw_AL s) (tw_wL xh xa0 xa1 xa2 xa3 kx0 kx1 kx2 kx3 mh ma0 ma1 ma2 ma3 km0 km1 km2 km3 ao k4 fl th tm pr ag ck nx ou)) (hK : va_K (dC, dI) tw_cl (tw_kL kx0 kx1 kx2 kx3 km0 km1 km2 km3 k4) s) (hS : va_S (tw_AL s) s.heap H locs) (hl : lv_has ls 8 [(4, .int (nI i)), (0, .ref b), (1, .ref xh), (2, .ref mh), (3, .ref ao)]) {j1 j2 : Int32} (e1 : xs (nI i + 1).toNatClampNeg = j1) (e2 : xs (nI i + 2).toNatClampNeg = j2) (hbad : ¬ (0 ≤ (j1.toInt64 <<< ((32 : Int32).toInt64 &&& 63)) ||| (j2.toInt64 &&& 4294967295) ∧ (j1.toInt64 <<< ((32 : Int32).toInt64 &&& 63)) ||| (j2.toInt64 &&& 4294967295) ≤ 17592186044416 ∧ ck + ((j1.toInt64 <<< ((32 : Int32).toInt64 &&& 63)) ||| (j2.toInt64 &&& 4294967295)) ≤ 70368744177664)) (kk : ∀ (fl' : Int32) (th' : Nat → Int32) (tm' : Nat → Int64) (pr' ag' : Nat → Int32) (ck' : Int64) (nx' : Int32) (ou' : Nat → Int64) (H' : Heap) (locs' : List Loc) (ls' : Array Slot), tw_Inv tm' ck' → va_P (dC, dI) tw_cl (tw_wL xh xa0 xa1 xa2 xa3 kx0 kx1 kx2 kx3 mh ma0 ma1 ma2 ma3 km0 km1 km2 km3 ao k4 fl' (th') (tm') (pr') (ag') (ck') (nx') (ou')) H' → va_D (tw_AL s) (tw_wL xh xa0 xa1 xa2 xa3 kx0 kx1 kx2 kx3 mh ma0 ma1 ma2 ma3 km0 km1 km2 km3 ao k4 (fl') (th') (tm') (pr') (ag') (ck') (nx') (ou')) → va_S (tw_AL s) s.heap H' locs' → lv_has ls' 8 [(4, .int (nI i)), (0, .ref b), (1, .ref xh), (2, .ref mh), (3, .ref ao)] → W p l e room_1 s m #[Value.ref b] below meth c H' locs' (cells + 1) (slots + 6) Q (F0 m 563 ls' [])) : W p l e room_1 s m #[Value.ref b] below meth c H locs cells slots Q (F0 m 309 ls []) := by
  have hA : ∀ q : Nat, s.heap.size ≤ q → tw_AL s q := fun q h => h
  have hbA : ¬ tw_AL s b := Nat.not_le.mpr hbl
  refine lv_aload_n hx hb dL_law_309 rfl (lv_at hl 2 rfl) ?_
  refine lv_aload_n hx hb dL_law_310 rfl (lv_at hl 1 rfl) ?_
  refine lv_iload hx hb dL_law_311 (lv_at hl 0 rfl) ?_
  refine lv_iconst (v := 1) hx hb dL_law_313 (by decide) ?_
  refine lv_iadd hx hb dL_law_314 ?_
  refine va_sld hx hb hX hbl hbA hS (tw_sin1 hi hL) dL_law_315 ?_
  rw [e1]
  refine lv_i2l hx hb dL_law_316 rfl ?_
  refine lv_bipush (v := 32) hx hb dL_law_317 (by decide) ?_
  refine lv_lshl hx hb dL_law_319 rfl ?_
  refine lv_aload_n hx hb dL_law_320 rfl (lv_at hl 1 rfl) ?_
  refine lv_iload hx hb dL_law_321 (lv_at hl 0 rfl) ?_
  refine lv_iconst (v := 2) hx hb dL_law_323 (by decide) ?_
  refine lv_iadd hx hb dL_law_324 ?_
  refine va_sld hx hb hX hbl hbA hS (tw_sin2 hi hL) dL_law_325 ?_
  rw [e2]
  refine lv_i2l hx hb dL_law_326 rfl ?_
  refine lv_ldc2 (v := 4294967295) hx hb hown (hT _ tt_292) dL_law_327 ?_
  refine lv_land hx hb dL_law_330 ?_
  refine lv_lor hx hb dL_law_331 ?_
  refine lv_aload_n hx hb dL_law_332 rfl (lv_at hl 4 rfl) ?_
  have hPc := hP.sub (ws' := (tw_wH xh xa0 xa1 xa2 xa3 kx0 kx1 kx2 kx3 th tm pr ag ck nx ao k4 ou)) [0, 1, 2, 3, 4, 10] rfl
  have hDc := hD.sub (ws' := (tw_wH xh xa0 xa1 xa2 xa3 kx0 kx1 kx2 kx3 th tm pr ag ck nx ao k4 ou)) [0, 1, 2, 3, 4, 10] (by decide) rfl
  have hKc := hK.sub (tys' := tw_kH kx0 kx1 kx2 kx3 k4) [0, 1, 2, 3, 8] rfl
  have hFc := va_free (wc := (tw_wH xh xa0 xa1 xa2 xa3 kx0 kx1 kx2 kx3 th tm pr ag ck nx ao k4 ou)) hD hS hA [0, 1, 2, 3, 4, 10] rfl
  have hZH : ∀ U : State, U.heap = H → s.WarmedH U.vm → tw_Z U U.heap := fun U hU hW => by rw [hU]; exact hZ.move hW (fun a ha => hS.2.1 a ha (Nat.not_le.mpr ha))
  refine va_calli (xt_runSW (n := 3) (As := [.ref xh, .long ((j1.toInt64 <<< ((32 : Int32).toInt64 &&& 63)) ||| (j2.toInt64 &&& 4294967295)), .ref ao]) (rest := []) ⟨hx, hb, hml, hown, hT⟩ (cL_goB l hfl dC dI xh xa0 xa1 xa2 xa3 kx0 kx1 kx2 kx3 th tm pr ag ck nx ao k4 ou H.size _ (fun z => hbad ⟨z.1, z.2.1, (tw_go hI.2.1 hI.2.2 z.1 z.2.1).1.mp z.2.2⟩)) rfl (tw_gS tt_167 tt_168 tt_0 tt_169) rfl rfl ⟨rfl, by decide +kernel⟩ ⟨Nat.le_of_ble_eq_true rfl, Nat.le_of_ble_eq_true rfl⟩ ⟨fun a U g mk q => by obtain ⟨q0, q1, qP, qK, qD, qZ⟩ := q; exact ⟨q0, q1, qP, va_K.moved (u := U) (U := U.calling g mk a) (Vm.Alike.refl U.vm) qK, qD, qZ.call⟩, fun U hU hW => ⟨rfl, by rw [hU], by rw [hU]; exact hPc, va_K.moved hW.alike hKc, hDc.weaken (fun _ _ _ _ => trivial), hZH U hU hW⟩⟩ rfl rfl hl.1 rfl (lv_room (Nat.le_of_ble_eq_true rfl)) dL_law_333 hc) hS (fun q _ h => hFc q h) hFc (fun r9 u9 t9 H1 locs ht9 hvm9 hw9 hB9 hz9 hk9 hS => ?_)
  obtain ⟨hP1, hD1⟩ := hB9
  rw [ht9] at hP1
  have hw9 : r9 = 1 := hw9
  subst r9
  obtain ⟨hP, hD⟩ := va_join (wr := (tw_wM mh ma0 ma1 ma2 ma3 km0 km1 km2 km3 fl th tm pr ag ck nx)) (w1 := (tw_wH xh xa0 xa1 xa2 xa3 kx0 kx1 kx2 kx3 th tm pr ag ck nx ao k4 ou)) hP hD [0, 1, 2, 3, 4, 10] [5, 6, 7, 8, 9] rfl rfl (by decide) (by decide) hk9 hFc hP1 hD1
  generalize H1 = H at hP hS ⊢
  have hP := hP.sub (ws' := [(xh, .inr (0, [.ref xa0, .ref xa1, .ref xa2, .ref xa3, .long ck, .int nx])), (xa0, .inl (kx0, 100, .inl th)), (xa1, .inl (kx1, 100, .inr (.inl tm))), (xa2, .inl (kx2, 100, .inl pr)), (xa3, .inl (kx3, 100, .inl ag)), (mh, .inr (1, [.int fl, .ref ma0, .ref ma1, .ref ma2, .ref ma3, .int nx, .long ck])), (ma0, .inl (km0, 100, .inl th)), (ma1, .inl (km1, 100, .inr (.inl tm))), (ma2, .inl (km2, 100, .inl pr)), (ma3, .inl (km3, 100, .inl ag)), (ao, .inl (k4, 1, .inr (.inl ou)))]) [5, 6, 7, 8, 9, 0, 1, 2, 3, 4, 10] rfl
  have hD := hD.sub (ws' := [(xh, .inr (0, [.ref xa0, .ref xa1, .ref xa2, .ref xa3, .long ck, .int nx])), (xa0, .inl (kx0, 100, .inl th)), (xa1, .inl (kx1, 100, .inr (.inl tm))), (xa2, .inl (kx2, 100, .inl pr)), (xa3, .inl (kx3, 100, .inl ag)), (mh, .inr (1, [.int fl, .ref ma0, .ref ma1, .ref ma2, .ref ma3, .int nx, .long ck])), (ma0, .inl (km0, 100, .inl th)), (ma1, .inl (km1, 100, .inr (.inl tm))), (ma2, .inl (km2, 100, .inl pr)), (ma3, .inl (km3, 100, .inl ag)), (ao, .inl (k4, 1, .inr (.inl ou)))]) [5, 6, 7, 8, 9, 0, 1, 2, 3, 4, 10] (by decide) rfl
  refine lv_istore hx hb dL_law_336 hl (by decide) rfl (fun ls hl => ?_)
  have hl : lv_has ls 8 [(5, .int 1), (4, .int (nI i)), (0, .ref b), (1, .ref xh), (2, .ref mh), (3, .ref ao)] := hl
  refine lv_aload_n hx hb dL_law_338 rfl (lv_at hl 4 rfl) ?_
  refine lv_aload_n hx hb dL_law_339 rfl (lv_at hl 2 rfl) ?_
  refine lv_iload hx hb dL_law_340 (lv_at hl 1 rfl) ?_
  refine lv_iconst (v := 1) hx hb dL_law_342 (by decide) ?_
  refine lv_iadd hx hb dL_law_343 ?_
  refine va_sld hx hb hX hbl hbA hS (tw_sin1 hi hL) dL_law_344 ?_
  rw [e1]
  refine lv_i2l hx hb dL_law_345 rfl ?_
  refine lv_bipush (v := 32) hx hb dL_law_346 (by decide) ?_
  refine lv_lshl hx hb dL_law_348 rfl ?_
  refine lv_aload_n hx hb dL_law_349 rfl (lv_at hl 2 rfl) ?_
  refine lv_iload hx hb dL_law_350 (lv_at hl 1 rfl) ?_
  refine lv_iconst (v := 2) hx hb dL_law_352 (by decide) ?_
  refine lv_iadd hx hb dL_law_353 ?_
  refine va_sld hx hb hX hbl hbA hS (tw_sin2 hi hL) dL_law_354 ?_
  rw [e2]
  refine lv_i2l hx hb dL_law_355 rfl ?_
  refine lv_ldc2 (v := 4294967295) hx hb hown (hT _ tt_292) dL_law_356 ?_
  refine lv_land hx hb dL_law_359 ?_
  refine lv_lor hx hb dL_law_360 ?_
  have hPc := hP.sub (ws' := (tw_wM mh ma0 ma1 ma2 ma3 km0 km1 km2 km3 fl th tm pr ag ck nx)) [5, 6, 7, 8, 9] rfl
  have hDc := hD.sub (ws' := (tw_wM mh ma0 ma1 ma2 ma3 km0 km1 km2 km3 fl th tm pr ag ck nx)) [5, 6, 7, 8, 9] (by decide) rfl
  have hKc := hK.sub (tys' := tw_k km0 km1 km2 km3) [4, 5, 6, 7] rfl
  have hFc := va_free (wc := (tw_wM mh ma0 ma1 ma2 ma3 km0 km1 km2 km3 fl th tm pr ag ck nx)) hD hS hA [5, 6, 7, 8, 9] rfl
  refine va_calli (va_runV (C := RM) (b := mh) (As := [.long ((j1.toInt64 <<< ((32 : Int32).toInt64 &&& 63)) ||| (j2.toInt64 &&& 4294967295))]) (rest := []) ⟨hx, hb, hml, hown, hT⟩ (cM_goB l dC dI mh ma0 ma1 ma2 ma3 km0 km1 km2 km3 fl th tm pr ag ck nx H.size _ hbad) (cwV 1 hT (tw_gV tt_269 tt_270 tt_271 tt_2 tt_272) rfl rfl rfl ⟨rfl, by decide +kernel⟩ ⟨Nat.le_of_ble_eq_true rfl, Nat.le_of_ble_eq_true rfl⟩) ⟨fun a U g mk q => by obtain ⟨q0, q1, qP, qK, qD⟩ := q; exact ⟨q0, q1, qP, va_K.moved (u := U) (U := U.calling g mk a) (Vm.Alike.refl U.vm) qK, qD⟩, va_recv (q0 := 0) (ci := 1) hKc hPc rfl rfl, fun U hU hW => ⟨rfl, by rw [hU], by rw [hU]; exact hPc, va_K.moved hW.alike hKc, hDc.weaken (fun _ _ _ _ => trivial)⟩⟩ rfl rfl hl.1 rfl (lv_room (Nat.le_of_ble_eq_true rfl)) dL_law_361 hc) hS (fun q _ h => hFc q h) hFc (fun r9 u9 t9 H1 locs ht9 hvm9 hw9 hB9 hz9 hk9 hS => ?_)
  obtain ⟨hP1, hD1⟩ := hB9
  rw [ht9] at hP1
  have hw9 : r9 = 0 := hw9
  subst r9
  obtain ⟨hP, hD⟩ := va_join (wr := [(xh, .inr (0, [.ref xa0, .ref xa1, .ref xa2, .ref xa3, .long ck, .int nx])), (xa0, .inl (kx0, 100, .inl th)), (xa1, .inl (kx1, 100, .inr (.inl tm))), (xa2, .inl (kx2, 100, .inl pr)), (xa3, .inl (kx3, 100, .inl ag)), (ao, .inl (k4, 1, .inr (.inl ou)))]) (w1 := (tw_wM mh ma0 ma1 ma2 ma3 km0 km1 km2 km3 1 th tm pr ag ck nx)) hP hD [5, 6, 7, 8, 9] [0, 1, 2, 3, 4, 10] rfl rfl (by decide) (by decide) hk9 hFc hP1 hD1
  generalize H1 = H at hP hS ⊢
  have hP := hP.sub (ws' := [(xh, .inr (0, [.ref xa0, .ref xa1, .ref xa2, .ref xa3, .long ck, .int nx])), (xa0, .inl (kx0, 100, .inl th)), (xa1, .inl (kx1, 100, .inr (.inl tm))), (xa2, .inl (kx2, 100, .inl pr)), (xa3, .inl (kx3, 100, .inl ag)), (mh, .inr (1, [.int 1, .ref ma0, .ref ma1, .ref ma2, .ref ma3, .int nx, .long ck])), (ma0, .inl (km0, 100, .inl th)), (ma1, .inl (km1, 100, .inr (.inl tm))), (ma2, .inl (km2, 100, .inl pr)), (ma3, .inl (km3, 100, .inl ag)), (ao, .inl (k4, 1, .inr (.inl ou)))]) [0, 1, 2, 3, 4, 6, 7, 8, 9, 10, 5] rfl
  have hD := hD.sub (ws' := [(xh, .inr (0, [.ref xa0, .ref xa1, .ref xa2, .ref xa3, .long ck, .int nx])), (xa0, .inl (kx0, 100, .inl th)), (xa1, .inl (kx1, 100, .inr (.inl tm))), (xa2, .inl (kx2, 100, .inl pr)), (xa3, .inl (kx3, 100, .inl ag)), (mh, .inr (1, [.int 1, .ref ma0, .ref ma1, .ref ma2, .ref ma3, .int nx, .long ck])), (ma0, .inl (km0, 100, .inl th)), (ma1, .inl (km1, 100, .inr (.inl tm))), (ma2, .inl (km2, 100, .inl pr)), (ma3, .inl (km3, 100, .inl ag)), (ao, .inl (k4, 1, .inr (.inl ou)))]) [0, 1, 2, 3, 4, 6, 7, 8, 9, 10, 5] (by decide) rfl
  refine lv_istore hx hb dL_law_364 hl (by decide) rfl (fun ls hl => ?_)
  have hl : lv_has ls 8 [(6, .int 0), (5, .int 1), (4, .int (nI i)), (0, .ref b), (1, .ref xh), (2, .ref mh), (3, .ref ao)] := hl
  refine lv_aload_n hx hb dL_law_366 rfl (lv_at hl 5 rfl) ?_
  have hPc := hP.sub (ws' := (tw_wM mh ma0 ma1 ma2 ma3 km0 km1 km2 km3 1 th tm pr ag ck nx)) [5, 6, 7, 8, 9] rfl
  have hKc := hK.sub (tys' := tw_k km0 km1 km2 km3) [4, 5, 6, 7] rfl
  refine vp_callSi (W.runV (C := RM) (b := mh) (As := []) (rest := []) ⟨hx, hb, hml, hown, hT⟩ (cM_thrown l dC dI mh ma0 ma1 ma2 ma3 km0 km1 km2 km3 1 th tm pr ag ck nx) (cwV 0 hT (tw_gV tt_239 tt_240 tt_241 tt_2 tt_242) rfl rfl rfl ⟨rfl, by decide +kernel⟩ ⟨Nat.le_of_ble_eq_true rfl, Nat.le_of_ble_eq_true rfl⟩) ⟨fun a U g mk q => ⟨q.1, q.2.1, va_K.moved (u := U) (U := U.calling g mk a) (Vm.Alike.refl U.vm) q.2.2⟩, va_recv (q0 := 0) (ci := 1) hKc hPc rfl rfl, fun U hU hW => ⟨rfl, by rw [hU]; exact hPc, va_K.moved hW.alike hKc⟩⟩ rfl rfl hl.1 rfl (lv_room (Nat.le_of_ble_eq_true rfl)) dL_law_367 hc) (fun r8 h8 => ?_)
  subst r8
  refine lv_iload hx hb dL_law_370 (lv_at hl 1 rfl) ?_
  refine lv_icmp_eq (tgt := 377) hx hb dL_law_372 (by decide) (fun hc1 => ?_) (fun hc1 => absurd (rfl : (1 : Int32) = 1) hc1)
  refine lv_iload hx hb dL_law_377 (lv_at hl 1 rfl) ?_
  refine lv_if_ne (tgt := 394) hx hb dL_law_379 (by decide) (fun hc2 => ?_) (fun hc2 => absurd hc2 (by decide))
  refine lv_goto (tgt := 563) hx hb dL_law_394 (by decide) ?_
  exact kk 1 th tm pr ag ck nx ou H _ ls hI hP hD hS (lv_sub hl [2, 3, 4, 5, 6] rfl)
end LLgoB
section LLskip
variable {p : Program} {l : Launch} {e : Env} {s : State} {m : MethodId} {below : List Frame} {meth : Method} {c : Code} {H : Heap} {locs : List Loc} {cells slots : Nat} {Q : State → Prop} {ls : Array Slot} {b L i : Nat} {xs : Nat → Int32}
variable {dC : Nat → ClassId} {dI : Nat → Nat → Nat} {xh xa0 xa1 xa2 xa3 : Nat} {kx0 kx1 kx2 kx3 : ClassId} {mh ma0 ma1 ma2 ma3 : Nat} {km0 km1 km2 km3 : ClassId} {ao : Nat} {k4 : ClassId} {fl : Int32} {th : Nat → Int32} {tm : Nat → Int64} {pr ag : Nat → Int32} {ck : Int64} {nx : Int32} {ou : Nat → Int64}
set_option maxHeartbeats 4000000 in
set_option maxRecDepth 100000 in
theorem ll_skip (hx : p.tables.exec = Jvm.exec) (hb : c.code = bL_law) (hml : c.maxLocals = 8) (hT : ∀ w ∈ tw_T, w.before #[Value.ref b] s = true) (hown : s.vm.findClass RL = some m.cls) (hfl : l.flags = pinnedFlags ++ [noTraceFlag]) (hX : va_X b L xs s s.heap) (hbl : b < s.heap.size) (hZ : tw_Z s s.heap) (hNc : va_Nc tw_nse tw_iae s) (hL : L ≤ 2560) (hi : i + 5 ≤ L) (hc : cells + 1 ≤ 1044 ∧ slots + 6 ≤ 9060) (hI : tw_Inv tm ck) (hP : va_P (dC, dI) tw_cl (tw_wL xh xa0 xa1 xa2 xa3 kx0 kx1 kx2 kx3 mh ma0 ma1 ma2 ma3 km0 km1 km2 km3 ao k4 fl th tm pr ag ck nx ou) H) (hD : va_D (tw_AL s) (tw_wL xh xa0 xa1 xa2 xa3 kx0 kx1 kx2 kx3 mh ma0 ma1 ma2 ma3 km0 km1 km2 km3 ao k4 fl th tm pr ag ck nx ou)) (hK : va_K (dC, dI) tw_cl (tw_kL kx0 kx1 kx2 kx3 km0 km1 km2 km3 k4) s) (hS : va_S (tw_AL s) s.heap H locs) (hl : lv_has ls 8 [(4, .int (nI i)), (0, .ref b), (1, .ref xh), (2, .ref mh), (3, .ref ao)]) (hf : ¬ tw_least th tm ck 100 = -1) (kk : ∀ (fl' : Int32) (th' : Nat → Int32) (tm' : Nat → Int64) (pr' ag' : Nat → Int32) (ck' : Int64) (nx' : Int32) (ou' : Nat → Int64) (H' : Heap) (locs' : List Loc) (ls' : Array Slot), tw_Inv tm' ck' → va_P (dC, dI) tw_cl (tw_wL xh xa0 xa1 xa2 xa3 kx0 kx1 kx2 kx3 mh ma0 ma1 ma2 ma3 km0 km1 km2 km3 ao k4 fl' (th') (tm') (pr') (ag') (ck') (nx') (ou')) H' → va_D (tw_AL s) (tw_wL xh xa0 xa1 xa2 xa3 kx0 kx1 kx2 kx3 mh ma0 ma1 ma2 ma3 km0 km1 km2 km3 ao k4 (fl') (th') (tm') (pr') (ag') (ck') (nx') (ou')) → va_S (tw_AL s) s.heap H' locs' → lv_has ls' 8 [(4, .int (nI i)), (0, .ref b), (1, .ref xh), (2, .ref mh), (3, .ref ao)] → W p l e room_1 s m #[Value.ref b] below meth c H' locs' (cells + 1) (slots + 6) Q (F0 m 563 ls' [])) : W p l e room_1 s m #[Value.ref b] below meth c H locs cells slots Q (F0 m 397 ls []) := by
  have hA : ∀ q : Nat, s.heap.size ≤ q → tw_AL s q := fun q h => h
  have hbA : ¬ tw_AL s b := Nat.not_le.mpr hbl
  refine lv_aload_n hx hb dL_law_397 rfl (lv_at hl 2 rfl) ?_
  refine lv_aload_n hx hb dL_law_398 rfl (lv_at hl 4 rfl) ?_
  have hPc := hP.sub (ws' := (tw_wH xh xa0 xa1 xa2 xa3 kx0 kx1 kx2 kx3 th tm pr ag ck nx ao k4 ou)) [0, 1, 2, 3, 4, 10] rfl
  have hDc := hD.sub (ws' := (tw_wH xh xa0 xa1 xa2 xa3 kx0 kx1 kx2 kx3 th tm pr ag ck nx ao k4 ou)) [0, 1, 2, 3, 4, 10] (by decide) rfl
  have hKc := hK.sub (tys' := tw_kH kx0 kx1 kx2 kx3 k4) [0, 1, 2, 3, 8] rfl
  have hFc := va_free (wc := (tw_wH xh xa0 xa1 xa2 xa3 kx0 kx1 kx2 kx3 th tm pr ag ck nx ao k4 ou)) hD hS hA [0, 1, 2, 3, 4, 10] rfl
  refine va_calli (xt_runSW (n := 2) (As := [.ref xh, .ref ao]) (rest := []) ⟨hx, hb, hml, hown, hT⟩ (cL_skip l dC dI xh xa0 xa1 xa2 xa3 kx0 kx1 kx2 kx3 th tm pr ag ck nx ao k4 ou H.size hf) rfl (tw_gS tt_181 tt_182 tt_0 tt_183) rfl rfl ⟨rfl, by decide +kernel⟩ ⟨Nat.le_of_ble_eq_true rfl, Nat.le_of_ble_eq_true rfl⟩ ⟨fun a U g mk q => by obtain ⟨q0, q1, qP, qK, qD⟩ := q; exact ⟨q0, q1, qP, va_K.moved (u := U) (U := U.calling g mk a) (Vm.Alike.refl U.vm) qK, qD⟩, fun U hU hW => ⟨rfl, by rw [hU], by rw [hU]; exact hPc, va_K.moved hW.alike hKc, hDc.weaken (fun _ _ _ _ => trivial)⟩⟩ rfl rfl hl.1 rfl (lv_room (Nat.le_of_ble_eq_true rfl)) dL_law_399 ⟨Nat.le_trans (Nat.le_succ _) hc.1, Nat.le_trans (Nat.le_add_right _ 6) hc.2⟩) hS (fun q _ h => hFc q h) hFc (fun r9 u9 t9 H1 locs ht9 hvm9 hw9 hB9 hz9 hk9 hS => ?_)
  obtain ⟨hP1, hD1⟩ := hB9
  rw [ht9] at hP1
  have hw9 : r9 = 0 := hw9
  subst r9
  obtain ⟨hP, hD⟩ := va_join (wr := (tw_wM mh ma0 ma1 ma2 ma3 km0 km1 km2 km3 fl th tm pr ag ck nx)) (w1 := (tw_wH xh xa0 xa1 xa2 xa3 kx0 kx1 kx2 kx3 th tm pr ag (tw_least th tm ck 100) nx ao k4 (vp_updL ou (0 : Int32).toNatClampNeg ((tw_dues th tm (tw_least th tm ck 100) 100).toInt64)))) hP hD [0, 1, 2, 3, 4, 10] [5, 6, 7, 8, 9] rfl rfl (by decide) (by decide) hk9 hFc hP1 hD1
  generalize H1 = H at hP hS ⊢
  have hP := hP.sub (ws' := [(xh, .inr (0, [.ref xa0, .ref xa1, .ref xa2, .ref xa3, .long (tw_least th tm ck 100), .int nx])), (xa0, .inl (kx0, 100, .inl th)), (xa1, .inl (kx1, 100, .inr (.inl tm))), (xa2, .inl (kx2, 100, .inl pr)), (xa3, .inl (kx3, 100, .inl ag)), (mh, .inr (1, [.int fl, .ref ma0, .ref ma1, .ref ma2, .ref ma3, .int nx, .long ck])), (ma0, .inl (km0, 100, .inl th)), (ma1, .inl (km1, 100, .inr (.inl tm))), (ma2, .inl (km2, 100, .inl pr)), (ma3, .inl (km3, 100, .inl ag)), (ao, .inl (k4, 1, .inr (.inl (vp_updL ou (0 : Int32).toNatClampNeg ((tw_dues th tm (tw_least th tm ck 100) 100).toInt64)))))]) [5, 6, 7, 8, 9, 0, 1, 2, 3, 4, 10] rfl
  have hD := hD.sub (ws' := [(xh, .inr (0, [.ref xa0, .ref xa1, .ref xa2, .ref xa3, .long (tw_least th tm ck 100), .int nx])), (xa0, .inl (kx0, 100, .inl th)), (xa1, .inl (kx1, 100, .inr (.inl tm))), (xa2, .inl (kx2, 100, .inl pr)), (xa3, .inl (kx3, 100, .inl ag)), (mh, .inr (1, [.int fl, .ref ma0, .ref ma1, .ref ma2, .ref ma3, .int nx, .long ck])), (ma0, .inl (km0, 100, .inl th)), (ma1, .inl (km1, 100, .inr (.inl tm))), (ma2, .inl (km2, 100, .inl pr)), (ma3, .inl (km3, 100, .inl ag)), (ao, .inl (k4, 1, .inr (.inl (vp_updL ou (0 : Int32).toNatClampNeg ((tw_dues th tm (tw_least th tm ck 100) 100).toInt64)))))]) [5, 6, 7, 8, 9, 0, 1, 2, 3, 4, 10] (by decide) rfl
  refine lv_istore hx hb dL_law_402 hl (by decide) rfl (fun ls hl => ?_)
  have hl : lv_has ls 8 [(5, .int 0), (4, .int (nI i)), (0, .ref b), (1, .ref xh), (2, .ref mh), (3, .ref ao)] := hl
  refine lv_aload_n hx hb dL_law_404 rfl (lv_at hl 4 rfl) ?_
  have hPc := hP.sub (ws' := (tw_wM mh ma0 ma1 ma2 ma3 km0 km1 km2 km3 fl th tm pr ag ck nx)) [5, 6, 7, 8, 9] rfl
  have hDc := hD.sub (ws' := (tw_wM mh ma0 ma1 ma2 ma3 km0 km1 km2 km3 fl th tm pr ag ck nx)) [5, 6, 7, 8, 9] (by decide) rfl
  have hKc := hK.sub (tys' := tw_k km0 km1 km2 km3) [4, 5, 6, 7] rfl
  have hFc := va_free (wc := (tw_wM mh ma0 ma1 ma2 ma3 km0 km1 km2 km3 fl th tm pr ag ck nx)) hD hS hA [5, 6, 7, 8, 9] rfl
  refine va_calli (va_runV (C := RM) (b := mh) (As := []) (rest := []) ⟨hx, hb, hml, hown, hT⟩ (cM_skip l dC dI mh ma0 ma1 ma2 ma3 km0 km1 km2 km3 fl th tm pr ag ck nx H.size (fun k => (hI.1 k).1) hf) (cwV 0 hT (tw_gV tt_278 tt_279 tt_280 tt_2 tt_281) rfl rfl rfl ⟨rfl, by decide +kernel⟩ ⟨Nat.le_of_ble_eq_true rfl, Nat.le_of_ble_eq_true rfl⟩) ⟨fun a U g mk q => by obtain ⟨q0, q1, qP, qK, qD⟩ := q; exact ⟨q0, q1, qP, va_K.moved (u := U) (U := U.calling g mk a) (Vm.Alike.refl U.vm) qK, qD⟩, va_recv (q0 := 0) (ci := 1) hKc hPc rfl rfl, fun U hU hW => ⟨rfl, by rw [hU], by rw [hU]; exact hPc, va_K.moved hW.alike hKc, hDc.weaken (fun _ _ _ _ => trivial)⟩⟩ rfl rfl hl.1 rfl (lv_room (Nat.le_of_ble_eq_true rfl)) dL_law_405 ⟨Nat.le_trans (Nat.le_succ _) hc.1, Nat.le_trans (Nat.le_add_right _ 6) hc.2⟩) hS (fun q _ h => hFc q h) hFc (fun r9 u9 t9 H1 locs ht9 hvm9 hw9 hB9 hz9 hk9 hS => ?_)
  obtain ⟨hP1, hD1⟩ := hB9
  rw [ht9] at hP1
  have hw9 : r9 = tw_dues th tm (tw_least th tm ck 100) 100 := hw9
  subst r9
  obtain ⟨hP, hD⟩ := va_join (wr := [(xh, .inr (0, [.ref xa0, .ref xa1, .ref xa2, .ref xa3, .long (tw_least th tm ck 100), .int nx])), (xa0, .inl (kx0, 100, .inl th)), (xa1, .inl (kx1, 100, .inr (.inl tm))), (xa2, .inl (kx2, 100, .inl pr)), (xa3, .inl (kx3, 100, .inl ag)), (ao, .inl (k4, 1, .inr (.inl (vp_updL ou (0 : Int32).toNatClampNeg ((tw_dues th tm (tw_least th tm ck 100) 100).toInt64)))))]) (w1 := (tw_wM mh ma0 ma1 ma2 ma3 km0 km1 km2 km3 0 th tm pr ag (tw_least th tm ck 100) nx)) hP hD [5, 6, 7, 8, 9] [0, 1, 2, 3, 4, 10] rfl rfl (by decide) (by decide) hk9 hFc hP1 hD1
  generalize H1 = H at hP hS ⊢
  have hP := hP.sub (ws' := [(xh, .inr (0, [.ref xa0, .ref xa1, .ref xa2, .ref xa3, .long (tw_least th tm ck 100), .int nx])), (xa0, .inl (kx0, 100, .inl th)), (xa1, .inl (kx1, 100, .inr (.inl tm))), (xa2, .inl (kx2, 100, .inl pr)), (xa3, .inl (kx3, 100, .inl ag)), (mh, .inr (1, [.int 0, .ref ma0, .ref ma1, .ref ma2, .ref ma3, .int nx, .long (tw_least th tm ck 100)])), (ma0, .inl (km0, 100, .inl th)), (ma1, .inl (km1, 100, .inr (.inl tm))), (ma2, .inl (km2, 100, .inl pr)), (ma3, .inl (km3, 100, .inl ag)), (ao, .inl (k4, 1, .inr (.inl (vp_updL ou (0 : Int32).toNatClampNeg ((tw_dues th tm (tw_least th tm ck 100) 100).toInt64)))))]) [0, 1, 2, 3, 4, 6, 7, 8, 9, 10, 5] rfl
  have hD := hD.sub (ws' := [(xh, .inr (0, [.ref xa0, .ref xa1, .ref xa2, .ref xa3, .long (tw_least th tm ck 100), .int nx])), (xa0, .inl (kx0, 100, .inl th)), (xa1, .inl (kx1, 100, .inr (.inl tm))), (xa2, .inl (kx2, 100, .inl pr)), (xa3, .inl (kx3, 100, .inl ag)), (mh, .inr (1, [.int 0, .ref ma0, .ref ma1, .ref ma2, .ref ma3, .int nx, .long (tw_least th tm ck 100)])), (ma0, .inl (km0, 100, .inl th)), (ma1, .inl (km1, 100, .inr (.inl tm))), (ma2, .inl (km2, 100, .inl pr)), (ma3, .inl (km3, 100, .inl ag)), (ao, .inl (k4, 1, .inr (.inl (vp_updL ou (0 : Int32).toNatClampNeg ((tw_dues th tm (tw_least th tm ck 100) 100).toInt64)))))]) [0, 1, 2, 3, 4, 6, 7, 8, 9, 10, 5] (by decide) rfl
  refine lv_istore hx hb dL_law_408 hl (by decide) rfl (fun ls hl => ?_)
  have hl : lv_has ls 8 [(6, .int (tw_dues th tm (tw_least th tm ck 100) 100)), (5, .int 0), (4, .int (nI i)), (0, .ref b), (1, .ref xh), (2, .ref mh), (3, .ref ao)] := hl
  refine lv_aload_n hx hb dL_law_410 rfl (lv_at hl 5 rfl) ?_
  have hPc := hP.sub (ws' := (tw_wM mh ma0 ma1 ma2 ma3 km0 km1 km2 km3 0 th tm pr ag (tw_least th tm ck 100) nx)) [5, 6, 7, 8, 9] rfl
  have hKc := hK.sub (tys' := tw_k km0 km1 km2 km3) [4, 5, 6, 7] rfl
  refine vp_callSi (W.runV (C := RM) (b := mh) (As := []) (rest := []) ⟨hx, hb, hml, hown, hT⟩ (cM_thrown l dC dI mh ma0 ma1 ma2 ma3 km0 km1 km2 km3 0 th tm pr ag (tw_least th tm ck 100) nx) (cwV 0 hT (tw_gV tt_239 tt_240 tt_241 tt_2 tt_242) rfl rfl rfl ⟨rfl, by decide +kernel⟩ ⟨Nat.le_of_ble_eq_true rfl, Nat.le_of_ble_eq_true rfl⟩) ⟨fun a U g mk q => ⟨q.1, q.2.1, va_K.moved (u := U) (U := U.calling g mk a) (Vm.Alike.refl U.vm) q.2.2⟩, va_recv (q0 := 0) (ci := 1) hKc hPc rfl rfl, fun U hU hW => ⟨rfl, by rw [hU]; exact hPc, va_K.moved hW.alike hKc⟩⟩ rfl rfl hl.1 rfl (lv_room (Nat.le_of_ble_eq_true rfl)) dL_law_411 ⟨Nat.le_trans (Nat.le_succ _) hc.1, Nat.le_trans (Nat.le_add_right _ 6) hc.2⟩) (fun r8 h8 => ?_)
  subst r8
  refine lv_iload hx hb dL_law_414 (lv_at hl 1 rfl) ?_
  refine lv_icmp_eq (tgt := 421) hx hb dL_law_416 (by decide) (fun hc1 => ?_) (fun hc1 => absurd (rfl : (0 : Int32) = 0) hc1)
  refine lv_iload hx hb dL_law_421 (lv_at hl 1 rfl) ?_
  refine lv_if_ne (tgt := 438) hx hb dL_law_423 (by decide) (fun hc2 => absurd rfl hc2) (fun hc2 => ?_)
  refine lv_aload_n hx hb dL_law_426 rfl (lv_at hl 6 rfl) ?_
  refine lv_iconst (v := 0) hx hb dL_law_427 (by decide) ?_
  refine va_lald hx hb hK hP 10 8 rfl rfl (by unfold vp_in; decide) dL_law_428 ?_
  refine lv_iload hx hb dL_law_429 (lv_at hl 0 rfl) ?_
  refine lv_i2l hx hb dL_law_431 rfl ?_
  refine W.lcmp hx hb dL_law_432 ?_
  refine lv_if_eq (tgt := 438) hx hb dL_law_433 (by decide) (fun hc3 => ?_) (fun hc3 => absurd ((lg_cmp_eq _ _).mpr pk_uLs) hc3)
  refine lv_goto (tgt := 563) hx hb dL_law_438 (by decide) ?_
  refine W.widen (k := cells + 1) (n := slots + 6) (Nat.le_succ _) (Nat.le_add_right _ 6) ?_
  exact kk 0 th tm pr ag (tw_least th tm ck 100) nx (vp_updL ou (0 : Int32).toNatClampNeg ((tw_dues th tm (tw_least th tm ck 100) 100).toInt64)) H _ ls (hI.least hf) hP hD hS (lv_sub hl [2, 3, 4, 5, 6] rfl)
end LLskip
section LLskipB
variable {p : Program} {l : Launch} {e : Env} {s : State} {m : MethodId} {below : List Frame} {meth : Method} {c : Code} {H : Heap} {locs : List Loc} {cells slots : Nat} {Q : State → Prop} {ls : Array Slot} {b L i : Nat} {xs : Nat → Int32}
variable {dC : Nat → ClassId} {dI : Nat → Nat → Nat} {xh xa0 xa1 xa2 xa3 : Nat} {kx0 kx1 kx2 kx3 : ClassId} {mh ma0 ma1 ma2 ma3 : Nat} {km0 km1 km2 km3 : ClassId} {ao : Nat} {k4 : ClassId} {fl : Int32} {th : Nat → Int32} {tm : Nat → Int64} {pr ag : Nat → Int32} {ck : Int64} {nx : Int32} {ou : Nat → Int64}
set_option maxHeartbeats 4000000 in
set_option maxRecDepth 100000 in
theorem ll_skipB (hx : p.tables.exec = Jvm.exec) (hb : c.code = bL_law) (hml : c.maxLocals = 8) (hT : ∀ w ∈ tw_T, w.before #[Value.ref b] s = true) (hown : s.vm.findClass RL = some m.cls) (hfl : l.flags = pinnedFlags ++ [noTraceFlag]) (hX : va_X b L xs s s.heap) (hbl : b < s.heap.size) (hZ : tw_Z s s.heap) (hNc : va_Nc tw_nse tw_iae s) (hL : L ≤ 2560) (hi : i + 5 ≤ L) (hc : cells + 1 ≤ 1044 ∧ slots + 6 ≤ 9060) (hI : tw_Inv tm ck) (hP : va_P (dC, dI) tw_cl (tw_wL xh xa0 xa1 xa2 xa3 kx0 kx1 kx2 kx3 mh ma0 ma1 ma2 ma3 km0 km1 km2 km3 ao k4 fl th tm pr ag ck nx ou) H) (hD : va_D (tw_AL s) (tw_wL xh xa0 xa1 xa2 xa3 kx0 kx1 kx2 kx3 mh ma0 ma1 ma2 ma3 km0 km1 km2 km3 ao k4 fl th tm pr ag ck nx ou)) (hK : va_K (dC, dI) tw_cl (tw_kL kx0 kx1 kx2 kx3 km0 km1 km2 km3 k4) s) (hS : va_S (tw_AL s) s.heap H locs) (hl : lv_has ls 8 [(4, .int (nI i)), (0, .ref b), (1, .ref xh), (2, .ref mh), (3, .ref ao)]) (hf : tw_least th tm ck 100 = -1) (kk : ∀ (fl' : Int32) (th' : Nat → Int32) (tm' : Nat → Int64) (pr' ag' : Nat → Int32) (ck' : Int64) (nx' : Int32) (ou' : Nat → Int64) (H' : Heap) (locs' : List Loc) (ls' : Array Slot), tw_Inv tm' ck' → va_P (dC, dI) tw_cl (tw_wL xh xa0 xa1 xa2 xa3 kx0 kx1 kx2 kx3 mh ma0 ma1 ma2 ma3 km0 km1 km2 km3 ao k4 fl' (th') (tm') (pr') (ag') (ck') (nx') (ou')) H' → va_D (tw_AL s) (tw_wL xh xa0 xa1 xa2 xa3 kx0 kx1 kx2 kx3 mh ma0 ma1 ma2 ma3 km0 km1 km2 km3 ao k4 (fl') (th') (tm') (pr') (ag') (ck') (nx') (ou')) → va_S (tw_AL s) s.heap H' locs' → lv_has ls' 8 [(4, .int (nI i)), (0, .ref b), (1, .ref xh), (2, .ref mh), (3, .ref ao)] → W p l e room_1 s m #[Value.ref b] below meth c H' locs' (cells + 1) (slots + 6) Q (F0 m 563 ls' [])) : W p l e room_1 s m #[Value.ref b] below meth c H locs cells slots Q (F0 m 397 ls []) := by
  have hA : ∀ q : Nat, s.heap.size ≤ q → tw_AL s q := fun q h => h
  have hbA : ¬ tw_AL s b := Nat.not_le.mpr hbl
  refine lv_aload_n hx hb dL_law_397 rfl (lv_at hl 2 rfl) ?_
  refine lv_aload_n hx hb dL_law_398 rfl (lv_at hl 4 rfl) ?_
  have hPc := hP.sub (ws' := (tw_wH xh xa0 xa1 xa2 xa3 kx0 kx1 kx2 kx3 th tm pr ag ck nx ao k4 ou)) [0, 1, 2, 3, 4, 10] rfl
  have hDc := hD.sub (ws' := (tw_wH xh xa0 xa1 xa2 xa3 kx0 kx1 kx2 kx3 th tm pr ag ck nx ao k4 ou)) [0, 1, 2, 3, 4, 10] (by decide) rfl
  have hKc := hK.sub (tys' := tw_kH kx0 kx1 kx2 kx3 k4) [0, 1, 2, 3, 8] rfl
  have hFc := va_free (wc := (tw_wH xh xa0 xa1 xa2 xa3 kx0 kx1 kx2 kx3 th tm pr ag ck nx ao k4 ou)) hD hS hA [0, 1, 2, 3, 4, 10] rfl
  have hZH : ∀ U : State, U.heap = H → s.WarmedH U.vm → tw_Z U U.heap := fun U hU hW => by rw [hU]; exact hZ.move hW (fun a ha => hS.2.1 a ha (Nat.not_le.mpr ha))
  refine va_calli (xt_runSW (n := 2) (As := [.ref xh, .ref ao]) (rest := []) ⟨hx, hb, hml, hown, hT⟩ (cL_skipB l hfl dC dI xh xa0 xa1 xa2 xa3 kx0 kx1 kx2 kx3 th tm pr ag ck nx ao k4 ou H.size hf) rfl (tw_gS tt_181 tt_182 tt_0 tt_183) rfl rfl ⟨rfl, by decide +kernel⟩ ⟨Nat.le_of_ble_eq_true rfl, Nat.le_of_ble_eq_true rfl⟩ ⟨fun a U g mk q => by obtain ⟨q0, q1, qP, qK, qD, qZ⟩ := q; exact ⟨q0, q1, qP, va_K.moved (u := U) (U := U.calling g mk a) (Vm.Alike.refl U.vm) qK, qD, qZ.call⟩, fun U hU hW => ⟨rfl, by rw [hU], by rw [hU]; exact hPc, va_K.moved hW.alike hKc, hDc.weaken (fun _ _ _ _ => trivial), hZH U hU hW⟩⟩ rfl rfl hl.1 rfl (lv_room (Nat.le_of_ble_eq_true rfl)) dL_law_399 hc) hS (fun q _ h => hFc q h) hFc (fun r9 u9 t9 H1 locs ht9 hvm9 hw9 hB9 hz9 hk9 hS => ?_)
  obtain ⟨hP1, hD1⟩ := hB9
  rw [ht9] at hP1
  have hw9 : r9 = 1 := hw9
  subst r9
  obtain ⟨hP, hD⟩ := va_join (wr := (tw_wM mh ma0 ma1 ma2 ma3 km0 km1 km2 km3 fl th tm pr ag ck nx)) (w1 := (tw_wH xh xa0 xa1 xa2 xa3 kx0 kx1 kx2 kx3 th tm pr ag ck nx ao k4 ou)) hP hD [0, 1, 2, 3, 4, 10] [5, 6, 7, 8, 9] rfl rfl (by decide) (by decide) hk9 hFc hP1 hD1
  generalize H1 = H at hP hS ⊢
  have hP := hP.sub (ws' := [(xh, .inr (0, [.ref xa0, .ref xa1, .ref xa2, .ref xa3, .long ck, .int nx])), (xa0, .inl (kx0, 100, .inl th)), (xa1, .inl (kx1, 100, .inr (.inl tm))), (xa2, .inl (kx2, 100, .inl pr)), (xa3, .inl (kx3, 100, .inl ag)), (mh, .inr (1, [.int fl, .ref ma0, .ref ma1, .ref ma2, .ref ma3, .int nx, .long ck])), (ma0, .inl (km0, 100, .inl th)), (ma1, .inl (km1, 100, .inr (.inl tm))), (ma2, .inl (km2, 100, .inl pr)), (ma3, .inl (km3, 100, .inl ag)), (ao, .inl (k4, 1, .inr (.inl ou)))]) [5, 6, 7, 8, 9, 0, 1, 2, 3, 4, 10] rfl
  have hD := hD.sub (ws' := [(xh, .inr (0, [.ref xa0, .ref xa1, .ref xa2, .ref xa3, .long ck, .int nx])), (xa0, .inl (kx0, 100, .inl th)), (xa1, .inl (kx1, 100, .inr (.inl tm))), (xa2, .inl (kx2, 100, .inl pr)), (xa3, .inl (kx3, 100, .inl ag)), (mh, .inr (1, [.int fl, .ref ma0, .ref ma1, .ref ma2, .ref ma3, .int nx, .long ck])), (ma0, .inl (km0, 100, .inl th)), (ma1, .inl (km1, 100, .inr (.inl tm))), (ma2, .inl (km2, 100, .inl pr)), (ma3, .inl (km3, 100, .inl ag)), (ao, .inl (k4, 1, .inr (.inl ou)))]) [5, 6, 7, 8, 9, 0, 1, 2, 3, 4, 10] (by decide) rfl
  refine lv_istore hx hb dL_law_402 hl (by decide) rfl (fun ls hl => ?_)
  have hl : lv_has ls 8 [(5, .int 1), (4, .int (nI i)), (0, .ref b), (1, .ref xh), (2, .ref mh), (3, .ref ao)] := hl
  refine lv_aload_n hx hb dL_law_404 rfl (lv_at hl 4 rfl) ?_
  have hPc := hP.sub (ws' := (tw_wM mh ma0 ma1 ma2 ma3 km0 km1 km2 km3 fl th tm pr ag ck nx)) [5, 6, 7, 8, 9] rfl
  have hDc := hD.sub (ws' := (tw_wM mh ma0 ma1 ma2 ma3 km0 km1 km2 km3 fl th tm pr ag ck nx)) [5, 6, 7, 8, 9] (by decide) rfl
  have hKc := hK.sub (tys' := tw_k km0 km1 km2 km3) [4, 5, 6, 7] rfl
  have hFc := va_free (wc := (tw_wM mh ma0 ma1 ma2 ma3 km0 km1 km2 km3 fl th tm pr ag ck nx)) hD hS hA [5, 6, 7, 8, 9] rfl
  refine va_calli (va_runV (C := RM) (b := mh) (As := []) (rest := []) ⟨hx, hb, hml, hown, hT⟩ (cM_skipB l dC dI mh ma0 ma1 ma2 ma3 km0 km1 km2 km3 fl th tm pr ag ck nx H.size (fun k => (hI.1 k).1) hf) (cwV 0 hT (tw_gV tt_278 tt_279 tt_280 tt_2 tt_281) rfl rfl rfl ⟨rfl, by decide +kernel⟩ ⟨Nat.le_of_ble_eq_true rfl, Nat.le_of_ble_eq_true rfl⟩) ⟨fun a U g mk q => by obtain ⟨q0, q1, qP, qK, qD⟩ := q; exact ⟨q0, q1, qP, va_K.moved (u := U) (U := U.calling g mk a) (Vm.Alike.refl U.vm) qK, qD⟩, va_recv (q0 := 0) (ci := 1) hKc hPc rfl rfl, fun U hU hW => ⟨rfl, by rw [hU], by rw [hU]; exact hPc, va_K.moved hW.alike hKc, hDc.weaken (fun _ _ _ _ => trivial)⟩⟩ rfl rfl hl.1 rfl (lv_room (Nat.le_of_ble_eq_true rfl)) dL_law_405 hc) hS (fun q _ h => hFc q h) hFc (fun r9 u9 t9 H1 locs ht9 hvm9 hw9 hB9 hz9 hk9 hS => ?_)
  obtain ⟨hP1, hD1⟩ := hB9
  rw [ht9] at hP1
  have hw9 : r9 = 0 := hw9
  subst r9
  obtain ⟨hP, hD⟩ := va_join (wr := [(xh, .inr (0, [.ref xa0, .ref xa1, .ref xa2, .ref xa3, .long ck, .int nx])), (xa0, .inl (kx0, 100, .inl th)), (xa1, .inl (kx1, 100, .inr (.inl tm))), (xa2, .inl (kx2, 100, .inl pr)), (xa3, .inl (kx3, 100, .inl ag)), (ao, .inl (k4, 1, .inr (.inl ou)))]) (w1 := (tw_wM mh ma0 ma1 ma2 ma3 km0 km1 km2 km3 1 th tm pr ag ck nx)) hP hD [5, 6, 7, 8, 9] [0, 1, 2, 3, 4, 10] rfl rfl (by decide) (by decide) hk9 hFc hP1 hD1
  generalize H1 = H at hP hS ⊢
  have hP := hP.sub (ws' := [(xh, .inr (0, [.ref xa0, .ref xa1, .ref xa2, .ref xa3, .long ck, .int nx])), (xa0, .inl (kx0, 100, .inl th)), (xa1, .inl (kx1, 100, .inr (.inl tm))), (xa2, .inl (kx2, 100, .inl pr)), (xa3, .inl (kx3, 100, .inl ag)), (mh, .inr (1, [.int 1, .ref ma0, .ref ma1, .ref ma2, .ref ma3, .int nx, .long ck])), (ma0, .inl (km0, 100, .inl th)), (ma1, .inl (km1, 100, .inr (.inl tm))), (ma2, .inl (km2, 100, .inl pr)), (ma3, .inl (km3, 100, .inl ag)), (ao, .inl (k4, 1, .inr (.inl ou)))]) [0, 1, 2, 3, 4, 6, 7, 8, 9, 10, 5] rfl
  have hD := hD.sub (ws' := [(xh, .inr (0, [.ref xa0, .ref xa1, .ref xa2, .ref xa3, .long ck, .int nx])), (xa0, .inl (kx0, 100, .inl th)), (xa1, .inl (kx1, 100, .inr (.inl tm))), (xa2, .inl (kx2, 100, .inl pr)), (xa3, .inl (kx3, 100, .inl ag)), (mh, .inr (1, [.int 1, .ref ma0, .ref ma1, .ref ma2, .ref ma3, .int nx, .long ck])), (ma0, .inl (km0, 100, .inl th)), (ma1, .inl (km1, 100, .inr (.inl tm))), (ma2, .inl (km2, 100, .inl pr)), (ma3, .inl (km3, 100, .inl ag)), (ao, .inl (k4, 1, .inr (.inl ou)))]) [0, 1, 2, 3, 4, 6, 7, 8, 9, 10, 5] (by decide) rfl
  refine lv_istore hx hb dL_law_408 hl (by decide) rfl (fun ls hl => ?_)
  have hl : lv_has ls 8 [(6, .int 0), (5, .int 1), (4, .int (nI i)), (0, .ref b), (1, .ref xh), (2, .ref mh), (3, .ref ao)] := hl
  refine lv_aload_n hx hb dL_law_410 rfl (lv_at hl 5 rfl) ?_
  have hPc := hP.sub (ws' := (tw_wM mh ma0 ma1 ma2 ma3 km0 km1 km2 km3 1 th tm pr ag ck nx)) [5, 6, 7, 8, 9] rfl
  have hKc := hK.sub (tys' := tw_k km0 km1 km2 km3) [4, 5, 6, 7] rfl
  refine vp_callSi (W.runV (C := RM) (b := mh) (As := []) (rest := []) ⟨hx, hb, hml, hown, hT⟩ (cM_thrown l dC dI mh ma0 ma1 ma2 ma3 km0 km1 km2 km3 1 th tm pr ag ck nx) (cwV 0 hT (tw_gV tt_239 tt_240 tt_241 tt_2 tt_242) rfl rfl rfl ⟨rfl, by decide +kernel⟩ ⟨Nat.le_of_ble_eq_true rfl, Nat.le_of_ble_eq_true rfl⟩) ⟨fun a U g mk q => ⟨q.1, q.2.1, va_K.moved (u := U) (U := U.calling g mk a) (Vm.Alike.refl U.vm) q.2.2⟩, va_recv (q0 := 0) (ci := 1) hKc hPc rfl rfl, fun U hU hW => ⟨rfl, by rw [hU]; exact hPc, va_K.moved hW.alike hKc⟩⟩ rfl rfl hl.1 rfl (lv_room (Nat.le_of_ble_eq_true rfl)) dL_law_411 hc) (fun r8 h8 => ?_)
  subst r8
  refine lv_iload hx hb dL_law_414 (lv_at hl 1 rfl) ?_
  refine lv_icmp_eq (tgt := 421) hx hb dL_law_416 (by decide) (fun hc1 => ?_) (fun hc1 => absurd (rfl : (1 : Int32) = 1) hc1)
  refine lv_iload hx hb dL_law_421 (lv_at hl 1 rfl) ?_
  refine lv_if_ne (tgt := 438) hx hb dL_law_423 (by decide) (fun hc2 => ?_) (fun hc2 => absurd hc2 (by decide))
  refine lv_goto (tgt := 563) hx hb dL_law_438 (by decide) ?_
  exact kk 1 th tm pr ag ck nx ou H _ ls hI hP hD hS (lv_sub hl [2, 3, 4, 5, 6] rfl)
end LLskipB
section LLtimer0
variable {p : Program} {l : Launch} {e : Env} {s : State} {m : MethodId} {below : List Frame} {meth : Method} {c : Code} {H : Heap} {locs : List Loc} {cells slots : Nat} {Q : State → Prop} {ls : Array Slot} {b L i : Nat} {xs : Nat → Int32}
variable {dC : Nat → ClassId} {dI : Nat → Nat → Nat} {xh xa0 xa1 xa2 xa3 : Nat} {kx0 kx1 kx2 kx3 : ClassId} {mh ma0 ma1 ma2 ma3 : Nat} {km0 km1 km2 km3 : ClassId} {ao : Nat} {k4 : ClassId} {fl : Int32} {th : Nat → Int32} {tm : Nat → Int64} {pr ag : Nat → Int32} {ck : Int64} {nx : Int32} {ou : Nat → Int64}
set_option maxHeartbeats 4000000 in
set_option maxRecDepth 100000 in
theorem ll_timer0 (hx : p.tables.exec = Jvm.exec) (hb : c.code = bL_law) (hml : c.maxLocals = 8) (hT : ∀ w ∈ tw_T, w.before #[Value.ref b] s = true) (hown : s.vm.findClass RL = some m.cls) (hfl : l.flags = pinnedFlags ++ [noTraceFlag]) (hX : va_X b L xs s s.heap) (hbl : b < s.heap.size) (hZ : tw_Z s s.heap) (hNc : va_Nc tw_nse tw_iae s) (hL : L ≤ 2560) (hi : i + 5 ≤ L) (hc : cells + 1 ≤ 1044 ∧ slots + 6 ≤ 9060) (hI : tw_Inv tm ck) (hP : va_P (dC, dI) tw_cl (tw_wL xh xa0 xa1 xa2 xa3 kx0 kx1 kx2 kx3 mh ma0 ma1 ma2 ma3 km0 km1 km2 km3 ao k4 fl th tm pr ag ck nx ou) H) (hD : va_D (tw_AL s) (tw_wL xh xa0 xa1 xa2 xa3 kx0 kx1 kx2 kx3 mh ma0 ma1 ma2 ma3 km0 km1 km2 km3 ao k4 fl th tm pr ag ck nx ou)) (hK : va_K (dC, dI) tw_cl (tw_kL kx0 kx1 kx2 kx3 km0 km1 km2 km3 k4) s) (hS : va_S (tw_AL s) s.heap H locs) (hl : lv_has ls 8 [(4, .int (nI i)), (0, .ref b), (1, .ref xh), (2, .ref mh), (3, .ref ao)]) {j1 : Int32} (e1 : xs (nI i + 1).toNatClampNeg = j1) (e2 : xs (nI i + 2).toNatClampNeg = 0) (hj : vp_in j1 100) (kk : ∀ (fl' : Int32) (th' : Nat → Int32) (tm' : Nat → Int64) (pr' ag' : Nat → Int32) (ck' : Int64) (nx' : Int32) (ou' : Nat → Int64) (H' : Heap) (locs' : List Loc) (ls' : Array Slot), tw_Inv tm' ck' → va_P (dC, dI) tw_cl (tw_wL xh xa0 xa1 xa2 xa3 kx0 kx1 kx2 kx3 mh ma0 ma1 ma2 ma3 km0 km1 km2 km3 ao k4 fl' (th') (tm') (pr') (ag') (ck') (nx') (ou')) H' → va_D (tw_AL s) (tw_wL xh xa0 xa1 xa2 xa3 kx0 kx1 kx2 kx3 mh ma0 ma1 ma2 ma3 km0 km1 km2 km3 ao k4 (fl') (th') (tm') (pr') (ag') (ck') (nx') (ou')) → va_S (tw_AL s) s.heap H' locs' → lv_has ls' 8 [(4, .int (nI i)), (0, .ref b), (1, .ref xh), (2, .ref mh), (3, .ref ao)] → W p l e room_1 s m #[Value.ref b] below meth c H' locs' (cells + 1) (slots + 6) Q (F0 m 563 ls' [])) : W p l e room_1 s m #[Value.ref b] below meth c H locs cells slots Q (F0 m 441 ls []) := by
  have hA : ∀ q : Nat, s.heap.size ≤ q → tw_AL s q := fun q h => h
  have hbA : ¬ tw_AL s b := Nat.not_le.mpr hbl
  refine lv_aload_n hx hb dL_law_441 rfl (lv_at hl 2 rfl) ?_
  refine lv_aload_n hx hb dL_law_442 rfl (lv_at hl 1 rfl) ?_
  refine lv_iload hx hb dL_law_443 (lv_at hl 0 rfl) ?_
  refine lv_iconst (v := 1) hx hb dL_law_445 (by decide) ?_
  refine lv_iadd hx hb dL_law_446 ?_
  refine va_sld hx hb hX hbl hbA hS (tw_sin1 hi hL) dL_law_447 ?_
  rw [e1]
  refine lv_aload_n hx hb dL_law_448 rfl (lv_at hl 1 rfl) ?_
  refine lv_iload hx hb dL_law_449 (lv_at hl 0 rfl) ?_
  refine lv_iconst (v := 2) hx hb dL_law_451 (by decide) ?_
  refine lv_iadd hx hb dL_law_452 ?_
  refine va_sld hx hb hX hbl hbA hS (tw_sin2 hi hL) dL_law_453 ?_
  rw [e2]
  refine lv_aload_n hx hb dL_law_454 rfl (lv_at hl 4 rfl) ?_
  have hPc := hP.sub (ws' := (tw_wH xh xa0 xa1 xa2 xa3 kx0 kx1 kx2 kx3 th tm pr ag ck nx ao k4 ou)) [0, 1, 2, 3, 4, 10] rfl
  have hDc := hD.sub (ws' := (tw_wH xh xa0 xa1 xa2 xa3 kx0 kx1 kx2 kx3 th tm pr ag ck nx ao k4 ou)) [0, 1, 2, 3, 4, 10] (by decide) rfl
  have hKc := hK.sub (tys' := tw_kH kx0 kx1 kx2 kx3 k4) [0, 1, 2, 3, 8] rfl
  have hFc := va_free (wc := (tw_wH xh xa0 xa1 xa2 xa3 kx0 kx1 kx2 kx3 th tm pr ag ck nx ao k4 ou)) hD hS hA [0, 1, 2, 3, 4, 10] rfl
  refine va_calli (xt_runSW (n := 4) (As := [.ref xh, .int j1, .int 0, .ref ao]) (rest := []) ⟨hx, hb, hml, hown, hT⟩ (cL_timer0 l dC dI xh xa0 xa1 xa2 xa3 kx0 kx1 kx2 kx3 th tm pr ag ck nx ao k4 ou H.size j1 hj) rfl (tw_gS tt_190 tt_191 tt_0 tt_192) rfl rfl ⟨rfl, by decide +kernel⟩ ⟨Nat.le_of_ble_eq_true rfl, Nat.le_of_ble_eq_true rfl⟩ ⟨fun a U g mk q => by obtain ⟨q0, q1, qP, qK, qD⟩ := q; exact ⟨q0, q1, qP, va_K.moved (u := U) (U := U.calling g mk a) (Vm.Alike.refl U.vm) qK, qD⟩, fun U hU hW => ⟨rfl, by rw [hU], by rw [hU]; exact hPc, va_K.moved hW.alike hKc, hDc.weaken (fun _ _ _ _ => trivial)⟩⟩ rfl rfl hl.1 rfl (lv_room (Nat.le_of_ble_eq_true rfl)) dL_law_455 ⟨Nat.le_trans (Nat.le_succ _) hc.1, Nat.le_trans (Nat.le_add_right _ 6) hc.2⟩) hS (fun q _ h => hFc q h) hFc (fun r9 u9 t9 H1 locs ht9 hvm9 hw9 hB9 hz9 hk9 hS => ?_)
  obtain ⟨hP1, hD1⟩ := hB9
  rw [ht9] at hP1
  have hw9 : r9 = 0 := hw9
  subst r9
  obtain ⟨hP, hD⟩ := va_join (wr := (tw_wM mh ma0 ma1 ma2 ma3 km0 km1 km2 km3 fl th tm pr ag ck nx)) (w1 := (tw_wH xh xa0 xa1 xa2 xa3 kx0 kx1 kx2 kx3 th tm pr ag ck nx ao k4 (vp_updL ou (0 : Int32).toNatClampNeg (if th j1.toNatClampNeg = 0 then 0 else if tw_due th tm ck j1 = true then 2 else 1)))) hP hD [0, 1, 2, 3, 4, 10] [5, 6, 7, 8, 9] rfl rfl (by decide) (by decide) hk9 hFc hP1 hD1
  generalize H1 = H at hP hS ⊢
  have hP := hP.sub (ws' := [(xh, .inr (0, [.ref xa0, .ref xa1, .ref xa2, .ref xa3, .long ck, .int nx])), (xa0, .inl (kx0, 100, .inl th)), (xa1, .inl (kx1, 100, .inr (.inl tm))), (xa2, .inl (kx2, 100, .inl pr)), (xa3, .inl (kx3, 100, .inl ag)), (mh, .inr (1, [.int fl, .ref ma0, .ref ma1, .ref ma2, .ref ma3, .int nx, .long ck])), (ma0, .inl (km0, 100, .inl th)), (ma1, .inl (km1, 100, .inr (.inl tm))), (ma2, .inl (km2, 100, .inl pr)), (ma3, .inl (km3, 100, .inl ag)), (ao, .inl (k4, 1, .inr (.inl (vp_updL ou (0 : Int32).toNatClampNeg (if th j1.toNatClampNeg = 0 then 0 else if tw_due th tm ck j1 = true then 2 else 1)))))]) [5, 6, 7, 8, 9, 0, 1, 2, 3, 4, 10] rfl
  have hD := hD.sub (ws' := [(xh, .inr (0, [.ref xa0, .ref xa1, .ref xa2, .ref xa3, .long ck, .int nx])), (xa0, .inl (kx0, 100, .inl th)), (xa1, .inl (kx1, 100, .inr (.inl tm))), (xa2, .inl (kx2, 100, .inl pr)), (xa3, .inl (kx3, 100, .inl ag)), (mh, .inr (1, [.int fl, .ref ma0, .ref ma1, .ref ma2, .ref ma3, .int nx, .long ck])), (ma0, .inl (km0, 100, .inl th)), (ma1, .inl (km1, 100, .inr (.inl tm))), (ma2, .inl (km2, 100, .inl pr)), (ma3, .inl (km3, 100, .inl ag)), (ao, .inl (k4, 1, .inr (.inl (vp_updL ou (0 : Int32).toNatClampNeg (if th j1.toNatClampNeg = 0 then 0 else if tw_due th tm ck j1 = true then 2 else 1)))))]) [5, 6, 7, 8, 9, 0, 1, 2, 3, 4, 10] (by decide) rfl
  refine lv_istore hx hb dL_law_458 hl (by decide) rfl (fun ls hl => ?_)
  have hl : lv_has ls 8 [(5, .int 0), (4, .int (nI i)), (0, .ref b), (1, .ref xh), (2, .ref mh), (3, .ref ao)] := hl
  refine lv_aload_n hx hb dL_law_460 rfl (lv_at hl 4 rfl) ?_
  refine lv_aload_n hx hb dL_law_461 rfl (lv_at hl 2 rfl) ?_
  refine lv_iload hx hb dL_law_462 (lv_at hl 1 rfl) ?_
  refine lv_iconst (v := 1) hx hb dL_law_464 (by decide) ?_
  refine lv_iadd hx hb dL_law_465 ?_
  refine va_sld hx hb hX hbl hbA hS (tw_sin1 hi hL) dL_law_466 ?_
  rw [e1]
  refine lv_aload_n hx hb dL_law_467 rfl (lv_at hl 2 rfl) ?_
  refine lv_iload hx hb dL_law_468 (lv_at hl 1 rfl) ?_
  refine lv_iconst (v := 2) hx hb dL_law_470 (by decide) ?_
  refine lv_iadd hx hb dL_law_471 ?_
  refine va_sld hx hb hX hbl hbA hS (tw_sin2 hi hL) dL_law_472 ?_
  rw [e2]
  have hPc := hP.sub (ws' := (tw_wM mh ma0 ma1 ma2 ma3 km0 km1 km2 km3 fl th tm pr ag ck nx)) [5, 6, 7, 8, 9] rfl
  have hDc := hD.sub (ws' := (tw_wM mh ma0 ma1 ma2 ma3 km0 km1 km2 km3 fl th tm pr ag ck nx)) [5, 6, 7, 8, 9] (by decide) rfl
  have hKc := hK.sub (tys' := tw_k km0 km1 km2 km3) [4, 5, 6, 7] rfl
  have hFc := va_free (wc := (tw_wM mh ma0 ma1 ma2 ma3 km0 km1 km2 km3 fl th tm pr ag ck nx)) hD hS hA [5, 6, 7, 8, 9] rfl
  refine va_calll (va_runV (C := RM) (b := mh) (As := [.int j1, .int 0]) (rest := []) ⟨hx, hb, hml, hown, hT⟩ (cM_timer0 l dC dI mh ma0 ma1 ma2 ma3 km0 km1 km2 km3 fl th tm pr ag ck nx H.size j1 hj) (cwV 2 hT (tw_gV tt_283 tt_284 tt_285 tt_2 tt_286) rfl rfl rfl ⟨rfl, by decide +kernel⟩ ⟨Nat.le_of_ble_eq_true rfl, Nat.le_of_ble_eq_true rfl⟩) ⟨fun a U g mk q => by obtain ⟨q0, q1, qP, qK, qD⟩ := q; exact ⟨q0, q1, qP, va_K.moved (u := U) (U := U.calling g mk a) (Vm.Alike.refl U.vm) qK, qD⟩, va_recv (q0 := 0) (ci := 1) hKc hPc rfl rfl, fun U hU hW => ⟨rfl, by rw [hU], by rw [hU]; exact hPc, va_K.moved hW.alike hKc, hDc.weaken (fun _ _ _ _ => trivial)⟩⟩ rfl rfl hl.1 rfl (lv_room (Nat.le_of_ble_eq_true rfl)) dL_law_473 ⟨Nat.le_trans (Nat.le_succ _) hc.1, Nat.le_trans (Nat.le_add_right _ 6) hc.2⟩) hS (fun q _ h => hFc q h) hFc (fun r9 u9 t9 H1 locs ht9 hvm9 hw9 hB9 hz9 hk9 hS => ?_)
  obtain ⟨hP1, hD1⟩ := hB9
  rw [ht9] at hP1
  have hw9 : r9 = (if th j1.toNatClampNeg = 0 then 0 else if tw_due th tm ck j1 = true then 2 else 1) := hw9
  subst r9
  obtain ⟨hP, hD⟩ := va_join (wr := [(xh, .inr (0, [.ref xa0, .ref xa1, .ref xa2, .ref xa3, .long ck, .int nx])), (xa0, .inl (kx0, 100, .inl th)), (xa1, .inl (kx1, 100, .inr (.inl tm))), (xa2, .inl (kx2, 100, .inl pr)), (xa3, .inl (kx3, 100, .inl ag)), (ao, .inl (k4, 1, .inr (.inl (vp_updL ou (0 : Int32).toNatClampNeg (if th j1.toNatClampNeg = 0 then 0 else if tw_due th tm ck j1 = true then 2 else 1)))))]) (w1 := (tw_wM mh ma0 ma1 ma2 ma3 km0 km1 km2 km3 0 th tm pr ag ck nx)) hP hD [5, 6, 7, 8, 9] [0, 1, 2, 3, 4, 10] rfl rfl (by decide) (by decide) hk9 hFc hP1 hD1
  generalize H1 = H at hP hS ⊢
  have hP := hP.sub (ws' := [(xh, .inr (0, [.ref xa0, .ref xa1, .ref xa2, .ref xa3, .long ck, .int nx])), (xa0, .inl (kx0, 100, .inl th)), (xa1, .inl (kx1, 100, .inr (.inl tm))), (xa2, .inl (kx2, 100, .inl pr)), (xa3, .inl (kx3, 100, .inl ag)), (mh, .inr (1, [.int 0, .ref ma0, .ref ma1, .ref ma2, .ref ma3, .int nx, .long ck])), (ma0, .inl (km0, 100, .inl th)), (ma1, .inl (km1, 100, .inr (.inl tm))), (ma2, .inl (km2, 100, .inl pr)), (ma3, .inl (km3, 100, .inl ag)), (ao, .inl (k4, 1, .inr (.inl (vp_updL ou (0 : Int32).toNatClampNeg (if th j1.toNatClampNeg = 0 then 0 else if tw_due th tm ck j1 = true then 2 else 1)))))]) [0, 1, 2, 3, 4, 6, 7, 8, 9, 10, 5] rfl
  have hD := hD.sub (ws' := [(xh, .inr (0, [.ref xa0, .ref xa1, .ref xa2, .ref xa3, .long ck, .int nx])), (xa0, .inl (kx0, 100, .inl th)), (xa1, .inl (kx1, 100, .inr (.inl tm))), (xa2, .inl (kx2, 100, .inl pr)), (xa3, .inl (kx3, 100, .inl ag)), (mh, .inr (1, [.int 0, .ref ma0, .ref ma1, .ref ma2, .ref ma3, .int nx, .long ck])), (ma0, .inl (km0, 100, .inl th)), (ma1, .inl (km1, 100, .inr (.inl tm))), (ma2, .inl (km2, 100, .inl pr)), (ma3, .inl (km3, 100, .inl ag)), (ao, .inl (k4, 1, .inr (.inl (vp_updL ou (0 : Int32).toNatClampNeg (if th j1.toNatClampNeg = 0 then 0 else if tw_due th tm ck j1 = true then 2 else 1)))))]) [0, 1, 2, 3, 4, 6, 7, 8, 9, 10, 5] (by decide) rfl
  refine lv_lstore hx hb dL_law_476 hl (by decide) rfl (fun ls hl => ?_)
  have hl : lv_has ls 8 [(6, .long (if th j1.toNatClampNeg = 0 then 0 else if tw_due th tm ck j1 = true then 2 else 1)), (5, .int 0), (4, .int (nI i)), (0, .ref b), (1, .ref xh), (2, .ref mh), (3, .ref ao)] := hl
  refine lv_aload_n hx hb dL_law_478 rfl (lv_at hl 5 rfl) ?_
  have hPc := hP.sub (ws' := (tw_wM mh ma0 ma1 ma2 ma3 km0 km1 km2 km3 0 th tm pr ag ck nx)) [5, 6, 7, 8, 9] rfl
  have hKc := hK.sub (tys' := tw_k km0 km1 km2 km3) [4, 5, 6, 7] rfl
  refine vp_callSi (W.runV (C := RM) (b := mh) (As := []) (rest := []) ⟨hx, hb, hml, hown, hT⟩ (cM_thrown l dC dI mh ma0 ma1 ma2 ma3 km0 km1 km2 km3 0 th tm pr ag ck nx) (cwV 0 hT (tw_gV tt_239 tt_240 tt_241 tt_2 tt_242) rfl rfl rfl ⟨rfl, by decide +kernel⟩ ⟨Nat.le_of_ble_eq_true rfl, Nat.le_of_ble_eq_true rfl⟩) ⟨fun a U g mk q => ⟨q.1, q.2.1, va_K.moved (u := U) (U := U.calling g mk a) (Vm.Alike.refl U.vm) q.2.2⟩, va_recv (q0 := 0) (ci := 1) hKc hPc rfl rfl, fun U hU hW => ⟨rfl, by rw [hU]; exact hPc, va_K.moved hW.alike hKc⟩⟩ rfl rfl hl.1 rfl (lv_room (Nat.le_of_ble_eq_true rfl)) dL_law_479 ⟨Nat.le_trans (Nat.le_succ _) hc.1, Nat.le_trans (Nat.le_add_right _ 6) hc.2⟩) (fun r8 h8 => ?_)
  subst r8
  refine lv_iload hx hb dL_law_482 (lv_at hl 1 rfl) ?_
  refine lv_icmp_eq (tgt := 489) hx hb dL_law_484 (by decide) (fun hc1 => ?_) (fun hc1 => absurd (rfl : (0 : Int32) = 0) hc1)
  refine lv_iload hx hb dL_law_489 (lv_at hl 1 rfl) ?_
  refine lv_if_ne (tgt := 505) hx hb dL_law_491 (by decide) (fun hc2 => absurd rfl hc2) (fun hc2 => ?_)
  refine lv_aload_n hx hb dL_law_494 rfl (lv_at hl 6 rfl) ?_
  refine lv_iconst (v := 0) hx hb dL_law_495 (by decide) ?_
  refine va_lald hx hb hK hP 10 8 rfl rfl (by unfold vp_in; decide) dL_law_496 ?_
  refine lv_lload hx hb dL_law_497 (lv_at hl 0 rfl) ?_
  refine W.lcmp hx hb dL_law_499 ?_
  refine lv_if_eq (tgt := 505) hx hb dL_law_500 (by decide) (fun hc3 => ?_) (fun hc3 => absurd ((lg_cmp_eq _ _).mpr pk_uLs) hc3)
  refine lv_goto (tgt := 563) hx hb dL_law_505 (by decide) ?_
  refine W.widen (k := cells + 1) (n := slots + 6) (Nat.le_succ _) (Nat.le_add_right _ 6) ?_
  exact kk 0 th tm pr ag ck nx (vp_updL ou (0 : Int32).toNatClampNeg (if th j1.toNatClampNeg = 0 then 0 else if tw_due th tm ck j1 = true then 2 else 1)) H _ ls hI hP hD hS (lv_sub hl [2, 3, 4, 5, 6] rfl)
end LLtimer0
section LLtimer1
variable {p : Program} {l : Launch} {e : Env} {s : State} {m : MethodId} {below : List Frame} {meth : Method} {c : Code} {H : Heap} {locs : List Loc} {cells slots : Nat} {Q : State → Prop} {ls : Array Slot} {b L i : Nat} {xs : Nat → Int32}
variable {dC : Nat → ClassId} {dI : Nat → Nat → Nat} {xh xa0 xa1 xa2 xa3 : Nat} {kx0 kx1 kx2 kx3 : ClassId} {mh ma0 ma1 ma2 ma3 : Nat} {km0 km1 km2 km3 : ClassId} {ao : Nat} {k4 : ClassId} {fl : Int32} {th : Nat → Int32} {tm : Nat → Int64} {pr ag : Nat → Int32} {ck : Int64} {nx : Int32} {ou : Nat → Int64}
set_option maxHeartbeats 4000000 in
set_option maxRecDepth 100000 in
theorem ll_timer1 (hx : p.tables.exec = Jvm.exec) (hb : c.code = bL_law) (hml : c.maxLocals = 8) (hT : ∀ w ∈ tw_T, w.before #[Value.ref b] s = true) (hown : s.vm.findClass RL = some m.cls) (hfl : l.flags = pinnedFlags ++ [noTraceFlag]) (hX : va_X b L xs s s.heap) (hbl : b < s.heap.size) (hZ : tw_Z s s.heap) (hNc : va_Nc tw_nse tw_iae s) (hL : L ≤ 2560) (hi : i + 5 ≤ L) (hc : cells + 1 ≤ 1044 ∧ slots + 6 ≤ 9060) (hI : tw_Inv tm ck) (hP : va_P (dC, dI) tw_cl (tw_wL xh xa0 xa1 xa2 xa3 kx0 kx1 kx2 kx3 mh ma0 ma1 ma2 ma3 km0 km1 km2 km3 ao k4 fl th tm pr ag ck nx ou) H) (hD : va_D (tw_AL s) (tw_wL xh xa0 xa1 xa2 xa3 kx0 kx1 kx2 kx3 mh ma0 ma1 ma2 ma3 km0 km1 km2 km3 ao k4 fl th tm pr ag ck nx ou)) (hK : va_K (dC, dI) tw_cl (tw_kL kx0 kx1 kx2 kx3 km0 km1 km2 km3 k4) s) (hS : va_S (tw_AL s) s.heap H locs) (hl : lv_has ls 8 [(4, .int (nI i)), (0, .ref b), (1, .ref xh), (2, .ref mh), (3, .ref ao)]) {j1 : Int32} (e1 : xs (nI i + 1).toNatClampNeg = j1) (e2 : xs (nI i + 2).toNatClampNeg = 1) (hj : vp_in j1 100) (kk : ∀ (fl' : Int32) (th' : Nat → Int32) (tm' : Nat → Int64) (pr' ag' : Nat → Int32) (ck' : Int64) (nx' : Int32) (ou' : Nat → Int64) (H' : Heap) (locs' : List Loc) (ls' : Array Slot), tw_Inv tm' ck' → va_P (dC, dI) tw_cl (tw_wL xh xa0 xa1 xa2 xa3 kx0 kx1 kx2 kx3 mh ma0 ma1 ma2 ma3 km0 km1 km2 km3 ao k4 fl' (th') (tm') (pr') (ag') (ck') (nx') (ou')) H' → va_D (tw_AL s) (tw_wL xh xa0 xa1 xa2 xa3 kx0 kx1 kx2 kx3 mh ma0 ma1 ma2 ma3 km0 km1 km2 km3 ao k4 (fl') (th') (tm') (pr') (ag') (ck') (nx') (ou')) → va_S (tw_AL s) s.heap H' locs' → lv_has ls' 8 [(4, .int (nI i)), (0, .ref b), (1, .ref xh), (2, .ref mh), (3, .ref ao)] → W p l e room_1 s m #[Value.ref b] below meth c H' locs' (cells + 1) (slots + 6) Q (F0 m 563 ls' [])) : W p l e room_1 s m #[Value.ref b] below meth c H locs cells slots Q (F0 m 441 ls []) := by
  have hA : ∀ q : Nat, s.heap.size ≤ q → tw_AL s q := fun q h => h
  have hbA : ¬ tw_AL s b := Nat.not_le.mpr hbl
  refine lv_aload_n hx hb dL_law_441 rfl (lv_at hl 2 rfl) ?_
  refine lv_aload_n hx hb dL_law_442 rfl (lv_at hl 1 rfl) ?_
  refine lv_iload hx hb dL_law_443 (lv_at hl 0 rfl) ?_
  refine lv_iconst (v := 1) hx hb dL_law_445 (by decide) ?_
  refine lv_iadd hx hb dL_law_446 ?_
  refine va_sld hx hb hX hbl hbA hS (tw_sin1 hi hL) dL_law_447 ?_
  rw [e1]
  refine lv_aload_n hx hb dL_law_448 rfl (lv_at hl 1 rfl) ?_
  refine lv_iload hx hb dL_law_449 (lv_at hl 0 rfl) ?_
  refine lv_iconst (v := 2) hx hb dL_law_451 (by decide) ?_
  refine lv_iadd hx hb dL_law_452 ?_
  refine va_sld hx hb hX hbl hbA hS (tw_sin2 hi hL) dL_law_453 ?_
  rw [e2]
  refine lv_aload_n hx hb dL_law_454 rfl (lv_at hl 4 rfl) ?_
  have hPc := hP.sub (ws' := (tw_wH xh xa0 xa1 xa2 xa3 kx0 kx1 kx2 kx3 th tm pr ag ck nx ao k4 ou)) [0, 1, 2, 3, 4, 10] rfl
  have hDc := hD.sub (ws' := (tw_wH xh xa0 xa1 xa2 xa3 kx0 kx1 kx2 kx3 th tm pr ag ck nx ao k4 ou)) [0, 1, 2, 3, 4, 10] (by decide) rfl
  have hKc := hK.sub (tys' := tw_kH kx0 kx1 kx2 kx3 k4) [0, 1, 2, 3, 8] rfl
  have hFc := va_free (wc := (tw_wH xh xa0 xa1 xa2 xa3 kx0 kx1 kx2 kx3 th tm pr ag ck nx ao k4 ou)) hD hS hA [0, 1, 2, 3, 4, 10] rfl
  refine va_calli (xt_runSW (n := 4) (As := [.ref xh, .int j1, .int 1, .ref ao]) (rest := []) ⟨hx, hb, hml, hown, hT⟩ (cL_timer1 l dC dI xh xa0 xa1 xa2 xa3 kx0 kx1 kx2 kx3 th tm pr ag ck nx ao k4 ou H.size j1 hj) rfl (tw_gS tt_190 tt_191 tt_0 tt_192) rfl rfl ⟨rfl, by decide +kernel⟩ ⟨Nat.le_of_ble_eq_true rfl, Nat.le_of_ble_eq_true rfl⟩ ⟨fun a U g mk q => by obtain ⟨q0, q1, qP, qK, qD⟩ := q; exact ⟨q0, q1, qP, va_K.moved (u := U) (U := U.calling g mk a) (Vm.Alike.refl U.vm) qK, qD⟩, fun U hU hW => ⟨rfl, by rw [hU], by rw [hU]; exact hPc, va_K.moved hW.alike hKc, hDc.weaken (fun _ _ _ _ => trivial)⟩⟩ rfl rfl hl.1 rfl (lv_room (Nat.le_of_ble_eq_true rfl)) dL_law_455 ⟨Nat.le_trans (Nat.le_succ _) hc.1, Nat.le_trans (Nat.le_add_right _ 6) hc.2⟩) hS (fun q _ h => hFc q h) hFc (fun r9 u9 t9 H1 locs ht9 hvm9 hw9 hB9 hz9 hk9 hS => ?_)
  obtain ⟨hP1, hD1⟩ := hB9
  rw [ht9] at hP1
  have hw9 : r9 = 0 := hw9
  subst r9
  obtain ⟨hP, hD⟩ := va_join (wr := (tw_wM mh ma0 ma1 ma2 ma3 km0 km1 km2 km3 fl th tm pr ag ck nx)) (w1 := (tw_wH xh xa0 xa1 xa2 xa3 kx0 kx1 kx2 kx3 th tm pr ag ck nx ao k4 (vp_updL ou (0 : Int32).toNatClampNeg (if th j1.toNatClampNeg = 0 then 0 else tm j1.toNatClampNeg)))) hP hD [0, 1, 2, 3, 4, 10] [5, 6, 7, 8, 9] rfl rfl (by decide) (by decide) hk9 hFc hP1 hD1
  generalize H1 = H at hP hS ⊢
  have hP := hP.sub (ws' := [(xh, .inr (0, [.ref xa0, .ref xa1, .ref xa2, .ref xa3, .long ck, .int nx])), (xa0, .inl (kx0, 100, .inl th)), (xa1, .inl (kx1, 100, .inr (.inl tm))), (xa2, .inl (kx2, 100, .inl pr)), (xa3, .inl (kx3, 100, .inl ag)), (mh, .inr (1, [.int fl, .ref ma0, .ref ma1, .ref ma2, .ref ma3, .int nx, .long ck])), (ma0, .inl (km0, 100, .inl th)), (ma1, .inl (km1, 100, .inr (.inl tm))), (ma2, .inl (km2, 100, .inl pr)), (ma3, .inl (km3, 100, .inl ag)), (ao, .inl (k4, 1, .inr (.inl (vp_updL ou (0 : Int32).toNatClampNeg (if th j1.toNatClampNeg = 0 then 0 else tm j1.toNatClampNeg)))))]) [5, 6, 7, 8, 9, 0, 1, 2, 3, 4, 10] rfl
  have hD := hD.sub (ws' := [(xh, .inr (0, [.ref xa0, .ref xa1, .ref xa2, .ref xa3, .long ck, .int nx])), (xa0, .inl (kx0, 100, .inl th)), (xa1, .inl (kx1, 100, .inr (.inl tm))), (xa2, .inl (kx2, 100, .inl pr)), (xa3, .inl (kx3, 100, .inl ag)), (mh, .inr (1, [.int fl, .ref ma0, .ref ma1, .ref ma2, .ref ma3, .int nx, .long ck])), (ma0, .inl (km0, 100, .inl th)), (ma1, .inl (km1, 100, .inr (.inl tm))), (ma2, .inl (km2, 100, .inl pr)), (ma3, .inl (km3, 100, .inl ag)), (ao, .inl (k4, 1, .inr (.inl (vp_updL ou (0 : Int32).toNatClampNeg (if th j1.toNatClampNeg = 0 then 0 else tm j1.toNatClampNeg)))))]) [5, 6, 7, 8, 9, 0, 1, 2, 3, 4, 10] (by decide) rfl
  refine lv_istore hx hb dL_law_458 hl (by decide) rfl (fun ls hl => ?_)
  have hl : lv_has ls 8 [(5, .int 0), (4, .int (nI i)), (0, .ref b), (1, .ref xh), (2, .ref mh), (3, .ref ao)] := hl
  refine lv_aload_n hx hb dL_law_460 rfl (lv_at hl 4 rfl) ?_
  refine lv_aload_n hx hb dL_law_461 rfl (lv_at hl 2 rfl) ?_
  refine lv_iload hx hb dL_law_462 (lv_at hl 1 rfl) ?_
  refine lv_iconst (v := 1) hx hb dL_law_464 (by decide) ?_
  refine lv_iadd hx hb dL_law_465 ?_
  refine va_sld hx hb hX hbl hbA hS (tw_sin1 hi hL) dL_law_466 ?_
  rw [e1]
  refine lv_aload_n hx hb dL_law_467 rfl (lv_at hl 2 rfl) ?_
  refine lv_iload hx hb dL_law_468 (lv_at hl 1 rfl) ?_
  refine lv_iconst (v := 2) hx hb dL_law_470 (by decide) ?_
  refine lv_iadd hx hb dL_law_471 ?_
  refine va_sld hx hb hX hbl hbA hS (tw_sin2 hi hL) dL_law_472 ?_
  rw [e2]
  have hPc := hP.sub (ws' := (tw_wM mh ma0 ma1 ma2 ma3 km0 km1 km2 km3 fl th tm pr ag ck nx)) [5, 6, 7, 8, 9] rfl
  have hDc := hD.sub (ws' := (tw_wM mh ma0 ma1 ma2 ma3 km0 km1 km2 km3 fl th tm pr ag ck nx)) [5, 6, 7, 8, 9] (by decide) rfl
  have hKc := hK.sub (tys' := tw_k km0 km1 km2 km3) [4, 5, 6, 7] rfl
  have hFc := va_free (wc := (tw_wM mh ma0 ma1 ma2 ma3 km0 km1 km2 km3 fl th tm pr ag ck nx)) hD hS hA [5, 6, 7, 8, 9] rfl
  refine va_calll (va_runV (C := RM) (b := mh) (As := [.int j1, .int 1]) (rest := []) ⟨hx, hb, hml, hown, hT⟩ (cM_timer1 l dC dI mh ma0 ma1 ma2 ma3 km0 km1 km2 km3 fl th tm pr ag ck nx H.size j1 hj) (cwV 2 hT (tw_gV tt_283 tt_284 tt_285 tt_2 tt_286) rfl rfl rfl ⟨rfl, by decide +kernel⟩ ⟨Nat.le_of_ble_eq_true rfl, Nat.le_of_ble_eq_true rfl⟩) ⟨fun a U g mk q => by obtain ⟨q0, q1, qP, qK, qD⟩ := q; exact ⟨q0, q1, qP, va_K.moved (u := U) (U := U.calling g mk a) (Vm.Alike.refl U.vm) qK, qD⟩, va_recv (q0 := 0) (ci := 1) hKc hPc rfl rfl, fun U hU hW => ⟨rfl, by rw [hU], by rw [hU]; exact hPc, va_K.moved hW.alike hKc, hDc.weaken (fun _ _ _ _ => trivial)⟩⟩ rfl rfl hl.1 rfl (lv_room (Nat.le_of_ble_eq_true rfl)) dL_law_473 ⟨Nat.le_trans (Nat.le_succ _) hc.1, Nat.le_trans (Nat.le_add_right _ 6) hc.2⟩) hS (fun q _ h => hFc q h) hFc (fun r9 u9 t9 H1 locs ht9 hvm9 hw9 hB9 hz9 hk9 hS => ?_)
  obtain ⟨hP1, hD1⟩ := hB9
  rw [ht9] at hP1
  have hw9 : r9 = (if th j1.toNatClampNeg = 0 then 0 else tm j1.toNatClampNeg) := hw9
  subst r9
  obtain ⟨hP, hD⟩ := va_join (wr := [(xh, .inr (0, [.ref xa0, .ref xa1, .ref xa2, .ref xa3, .long ck, .int nx])), (xa0, .inl (kx0, 100, .inl th)), (xa1, .inl (kx1, 100, .inr (.inl tm))), (xa2, .inl (kx2, 100, .inl pr)), (xa3, .inl (kx3, 100, .inl ag)), (ao, .inl (k4, 1, .inr (.inl (vp_updL ou (0 : Int32).toNatClampNeg (if th j1.toNatClampNeg = 0 then 0 else tm j1.toNatClampNeg)))))]) (w1 := (tw_wM mh ma0 ma1 ma2 ma3 km0 km1 km2 km3 0 th tm pr ag ck nx)) hP hD [5, 6, 7, 8, 9] [0, 1, 2, 3, 4, 10] rfl rfl (by decide) (by decide) hk9 hFc hP1 hD1
  generalize H1 = H at hP hS ⊢
  have hP := hP.sub (ws' := [(xh, .inr (0, [.ref xa0, .ref xa1, .ref xa2, .ref xa3, .long ck, .int nx])), (xa0, .inl (kx0, 100, .inl th)), (xa1, .inl (kx1, 100, .inr (.inl tm))), (xa2, .inl (kx2, 100, .inl pr)), (xa3, .inl (kx3, 100, .inl ag)), (mh, .inr (1, [.int 0, .ref ma0, .ref ma1, .ref ma2, .ref ma3, .int nx, .long ck])), (ma0, .inl (km0, 100, .inl th)), (ma1, .inl (km1, 100, .inr (.inl tm))), (ma2, .inl (km2, 100, .inl pr)), (ma3, .inl (km3, 100, .inl ag)), (ao, .inl (k4, 1, .inr (.inl (vp_updL ou (0 : Int32).toNatClampNeg (if th j1.toNatClampNeg = 0 then 0 else tm j1.toNatClampNeg)))))]) [0, 1, 2, 3, 4, 6, 7, 8, 9, 10, 5] rfl
  have hD := hD.sub (ws' := [(xh, .inr (0, [.ref xa0, .ref xa1, .ref xa2, .ref xa3, .long ck, .int nx])), (xa0, .inl (kx0, 100, .inl th)), (xa1, .inl (kx1, 100, .inr (.inl tm))), (xa2, .inl (kx2, 100, .inl pr)), (xa3, .inl (kx3, 100, .inl ag)), (mh, .inr (1, [.int 0, .ref ma0, .ref ma1, .ref ma2, .ref ma3, .int nx, .long ck])), (ma0, .inl (km0, 100, .inl th)), (ma1, .inl (km1, 100, .inr (.inl tm))), (ma2, .inl (km2, 100, .inl pr)), (ma3, .inl (km3, 100, .inl ag)), (ao, .inl (k4, 1, .inr (.inl (vp_updL ou (0 : Int32).toNatClampNeg (if th j1.toNatClampNeg = 0 then 0 else tm j1.toNatClampNeg)))))]) [0, 1, 2, 3, 4, 6, 7, 8, 9, 10, 5] (by decide) rfl
  refine lv_lstore hx hb dL_law_476 hl (by decide) rfl (fun ls hl => ?_)
  have hl : lv_has ls 8 [(6, .long (if th j1.toNatClampNeg = 0 then 0 else tm j1.toNatClampNeg)), (5, .int 0), (4, .int (nI i)), (0, .ref b), (1, .ref xh), (2, .ref mh), (3, .ref ao)] := hl
  refine lv_aload_n hx hb dL_law_478 rfl (lv_at hl 5 rfl) ?_
  have hPc := hP.sub (ws' := (tw_wM mh ma0 ma1 ma2 ma3 km0 km1 km2 km3 0 th tm pr ag ck nx)) [5, 6, 7, 8, 9] rfl
  have hKc := hK.sub (tys' := tw_k km0 km1 km2 km3) [4, 5, 6, 7] rfl
  refine vp_callSi (W.runV (C := RM) (b := mh) (As := []) (rest := []) ⟨hx, hb, hml, hown, hT⟩ (cM_thrown l dC dI mh ma0 ma1 ma2 ma3 km0 km1 km2 km3 0 th tm pr ag ck nx) (cwV 0 hT (tw_gV tt_239 tt_240 tt_241 tt_2 tt_242) rfl rfl rfl ⟨rfl, by decide +kernel⟩ ⟨Nat.le_of_ble_eq_true rfl, Nat.le_of_ble_eq_true rfl⟩) ⟨fun a U g mk q => ⟨q.1, q.2.1, va_K.moved (u := U) (U := U.calling g mk a) (Vm.Alike.refl U.vm) q.2.2⟩, va_recv (q0 := 0) (ci := 1) hKc hPc rfl rfl, fun U hU hW => ⟨rfl, by rw [hU]; exact hPc, va_K.moved hW.alike hKc⟩⟩ rfl rfl hl.1 rfl (lv_room (Nat.le_of_ble_eq_true rfl)) dL_law_479 ⟨Nat.le_trans (Nat.le_succ _) hc.1, Nat.le_trans (Nat.le_add_right _ 6) hc.2⟩) (fun r8 h8 => ?_)
  subst r8
  refine lv_iload hx hb dL_law_482 (lv_at hl 1 rfl) ?_
  refine lv_icmp_eq (tgt := 489) hx hb dL_law_484 (by decide) (fun hc1 => ?_) (fun hc1 => absurd (rfl : (0 : Int32) = 0) hc1)
  refine lv_iload hx hb dL_law_489 (lv_at hl 1 rfl) ?_
  refine lv_if_ne (tgt := 505) hx hb dL_law_491 (by decide) (fun hc2 => absurd rfl hc2) (fun hc2 => ?_)
  refine lv_aload_n hx hb dL_law_494 rfl (lv_at hl 6 rfl) ?_
  refine lv_iconst (v := 0) hx hb dL_law_495 (by decide) ?_
  refine va_lald hx hb hK hP 10 8 rfl rfl (by unfold vp_in; decide) dL_law_496 ?_
  refine lv_lload hx hb dL_law_497 (lv_at hl 0 rfl) ?_
  refine W.lcmp hx hb dL_law_499 ?_
  refine lv_if_eq (tgt := 505) hx hb dL_law_500 (by decide) (fun hc3 => ?_) (fun hc3 => absurd ((lg_cmp_eq _ _).mpr pk_uLs) hc3)
  refine lv_goto (tgt := 563) hx hb dL_law_505 (by decide) ?_
  refine W.widen (k := cells + 1) (n := slots + 6) (Nat.le_succ _) (Nat.le_add_right _ 6) ?_
  exact kk 0 th tm pr ag ck nx (vp_updL ou (0 : Int32).toNatClampNeg (if th j1.toNatClampNeg = 0 then 0 else tm j1.toNatClampNeg)) H _ ls hI hP hD hS (lv_sub hl [2, 3, 4, 5, 6] rfl)
end LLtimer1
section LLtimer2
variable {p : Program} {l : Launch} {e : Env} {s : State} {m : MethodId} {below : List Frame} {meth : Method} {c : Code} {H : Heap} {locs : List Loc} {cells slots : Nat} {Q : State → Prop} {ls : Array Slot} {b L i : Nat} {xs : Nat → Int32}
variable {dC : Nat → ClassId} {dI : Nat → Nat → Nat} {xh xa0 xa1 xa2 xa3 : Nat} {kx0 kx1 kx2 kx3 : ClassId} {mh ma0 ma1 ma2 ma3 : Nat} {km0 km1 km2 km3 : ClassId} {ao : Nat} {k4 : ClassId} {fl : Int32} {th : Nat → Int32} {tm : Nat → Int64} {pr ag : Nat → Int32} {ck : Int64} {nx : Int32} {ou : Nat → Int64}
set_option maxHeartbeats 4000000 in
set_option maxRecDepth 100000 in
theorem ll_timer2 (hx : p.tables.exec = Jvm.exec) (hb : c.code = bL_law) (hml : c.maxLocals = 8) (hT : ∀ w ∈ tw_T, w.before #[Value.ref b] s = true) (hown : s.vm.findClass RL = some m.cls) (hfl : l.flags = pinnedFlags ++ [noTraceFlag]) (hX : va_X b L xs s s.heap) (hbl : b < s.heap.size) (hZ : tw_Z s s.heap) (hNc : va_Nc tw_nse tw_iae s) (hL : L ≤ 2560) (hi : i + 5 ≤ L) (hc : cells + 1 ≤ 1044 ∧ slots + 6 ≤ 9060) (hI : tw_Inv tm ck) (hP : va_P (dC, dI) tw_cl (tw_wL xh xa0 xa1 xa2 xa3 kx0 kx1 kx2 kx3 mh ma0 ma1 ma2 ma3 km0 km1 km2 km3 ao k4 fl th tm pr ag ck nx ou) H) (hD : va_D (tw_AL s) (tw_wL xh xa0 xa1 xa2 xa3 kx0 kx1 kx2 kx3 mh ma0 ma1 ma2 ma3 km0 km1 km2 km3 ao k4 fl th tm pr ag ck nx ou)) (hK : va_K (dC, dI) tw_cl (tw_kL kx0 kx1 kx2 kx3 km0 km1 km2 km3 k4) s) (hS : va_S (tw_AL s) s.heap H locs) (hl : lv_has ls 8 [(4, .int (nI i)), (0, .ref b), (1, .ref xh), (2, .ref mh), (3, .ref ao)]) {j1 : Int32} (e1 : xs (nI i + 1).toNatClampNeg = j1) (e2 : xs (nI i + 2).toNatClampNeg = 2) (hj : vp_in j1 100) (kk : ∀ (fl' : Int32) (th' : Nat → Int32) (tm' : Nat → Int64) (pr' ag' : Nat → Int32) (ck' : Int64) (nx' : Int32) (ou' : Nat → Int64) (H' : Heap) (locs' : List Loc) (ls' : Array Slot), tw_Inv tm' ck' → va_P (dC, dI) tw_cl (tw_wL xh xa0 xa1 xa2 xa3 kx0 kx1 kx2 kx3 mh ma0 ma1 ma2 ma3 km0 km1 km2 km3 ao k4 fl' (th') (tm') (pr') (ag') (ck') (nx') (ou')) H' → va_D (tw_AL s) (tw_wL xh xa0 xa1 xa2 xa3 kx0 kx1 kx2 kx3 mh ma0 ma1 ma2 ma3 km0 km1 km2 km3 ao k4 (fl') (th') (tm') (pr') (ag') (ck') (nx') (ou')) → va_S (tw_AL s) s.heap H' locs' → lv_has ls' 8 [(4, .int (nI i)), (0, .ref b), (1, .ref xh), (2, .ref mh), (3, .ref ao)] → W p l e room_1 s m #[Value.ref b] below meth c H' locs' (cells + 1) (slots + 6) Q (F0 m 563 ls' [])) : W p l e room_1 s m #[Value.ref b] below meth c H locs cells slots Q (F0 m 441 ls []) := by
  have hA : ∀ q : Nat, s.heap.size ≤ q → tw_AL s q := fun q h => h
  have hbA : ¬ tw_AL s b := Nat.not_le.mpr hbl
  refine lv_aload_n hx hb dL_law_441 rfl (lv_at hl 2 rfl) ?_
  refine lv_aload_n hx hb dL_law_442 rfl (lv_at hl 1 rfl) ?_
  refine lv_iload hx hb dL_law_443 (lv_at hl 0 rfl) ?_
  refine lv_iconst (v := 1) hx hb dL_law_445 (by decide) ?_
  refine lv_iadd hx hb dL_law_446 ?_
  refine va_sld hx hb hX hbl hbA hS (tw_sin1 hi hL) dL_law_447 ?_
  rw [e1]
  refine lv_aload_n hx hb dL_law_448 rfl (lv_at hl 1 rfl) ?_
  refine lv_iload hx hb dL_law_449 (lv_at hl 0 rfl) ?_
  refine lv_iconst (v := 2) hx hb dL_law_451 (by decide) ?_
  refine lv_iadd hx hb dL_law_452 ?_
  refine va_sld hx hb hX hbl hbA hS (tw_sin2 hi hL) dL_law_453 ?_
  rw [e2]
  refine lv_aload_n hx hb dL_law_454 rfl (lv_at hl 4 rfl) ?_
  have hPc := hP.sub (ws' := (tw_wH xh xa0 xa1 xa2 xa3 kx0 kx1 kx2 kx3 th tm pr ag ck nx ao k4 ou)) [0, 1, 2, 3, 4, 10] rfl
  have hDc := hD.sub (ws' := (tw_wH xh xa0 xa1 xa2 xa3 kx0 kx1 kx2 kx3 th tm pr ag ck nx ao k4 ou)) [0, 1, 2, 3, 4, 10] (by decide) rfl
  have hKc := hK.sub (tys' := tw_kH kx0 kx1 kx2 kx3 k4) [0, 1, 2, 3, 8] rfl
  have hFc := va_free (wc := (tw_wH xh xa0 xa1 xa2 xa3 kx0 kx1 kx2 kx3 th tm pr ag ck nx ao k4 ou)) hD hS hA [0, 1, 2, 3, 4, 10] rfl
  refine va_calli (xt_runSW (n := 4) (As := [.ref xh, .int j1, .int 2, .ref ao]) (rest := []) ⟨hx, hb, hml, hown, hT⟩ (cL_timer2 l dC dI xh xa0 xa1 xa2 xa3 kx0 kx1 kx2 kx3 th tm pr ag ck nx ao k4 ou H.size j1 hj) rfl (tw_gS tt_190 tt_191 tt_0 tt_192) rfl rfl ⟨rfl, by decide +kernel⟩ ⟨Nat.le_of_ble_eq_true rfl, Nat.le_of_ble_eq_true rfl⟩ ⟨fun a U g mk q => by obtain ⟨q0, q1, qP, qK, qD⟩ := q; exact ⟨q0, q1, qP, va_K.moved (u := U) (U := U.calling g mk a) (Vm.Alike.refl U.vm) qK, qD⟩, fun U hU hW => ⟨rfl, by rw [hU], by rw [hU]; exact hPc, va_K.moved hW.alike hKc, hDc.weaken (fun _ _ _ _ => trivial)⟩⟩ rfl rfl hl.1 rfl (lv_room (Nat.le_of_ble_eq_true rfl)) dL_law_455 ⟨Nat.le_trans (Nat.le_succ _) hc.1, Nat.le_trans (Nat.le_add_right _ 6) hc.2⟩) hS (fun q _ h => hFc q h) hFc (fun r9 u9 t9 H1 locs ht9 hvm9 hw9 hB9 hz9 hk9 hS => ?_)
  obtain ⟨hP1, hD1⟩ := hB9
  rw [ht9] at hP1
  have hw9 : r9 = 0 := hw9
  subst r9
  obtain ⟨hP, hD⟩ := va_join (wr := (tw_wM mh ma0 ma1 ma2 ma3 km0 km1 km2 km3 fl th tm pr ag ck nx)) (w1 := (tw_wH xh xa0 xa1 xa2 xa3 kx0 kx1 kx2 kx3 th tm pr ag ck nx ao k4 (vp_updL ou (0 : Int32).toNatClampNeg (if th j1.toNatClampNeg = 0 then 0 else (pr j1.toNatClampNeg).toInt64)))) hP hD [0, 1, 2, 3, 4, 10] [5, 6, 7, 8, 9] rfl rfl (by decide) (by decide) hk9 hFc hP1 hD1
  generalize H1 = H at hP hS ⊢
  have hP := hP.sub (ws' := [(xh, .inr (0, [.ref xa0, .ref xa1, .ref xa2, .ref xa3, .long ck, .int nx])), (xa0, .inl (kx0, 100, .inl th)), (xa1, .inl (kx1, 100, .inr (.inl tm))), (xa2, .inl (kx2, 100, .inl pr)), (xa3, .inl (kx3, 100, .inl ag)), (mh, .inr (1, [.int fl, .ref ma0, .ref ma1, .ref ma2, .ref ma3, .int nx, .long ck])), (ma0, .inl (km0, 100, .inl th)), (ma1, .inl (km1, 100, .inr (.inl tm))), (ma2, .inl (km2, 100, .inl pr)), (ma3, .inl (km3, 100, .inl ag)), (ao, .inl (k4, 1, .inr (.inl (vp_updL ou (0 : Int32).toNatClampNeg (if th j1.toNatClampNeg = 0 then 0 else (pr j1.toNatClampNeg).toInt64)))))]) [5, 6, 7, 8, 9, 0, 1, 2, 3, 4, 10] rfl
  have hD := hD.sub (ws' := [(xh, .inr (0, [.ref xa0, .ref xa1, .ref xa2, .ref xa3, .long ck, .int nx])), (xa0, .inl (kx0, 100, .inl th)), (xa1, .inl (kx1, 100, .inr (.inl tm))), (xa2, .inl (kx2, 100, .inl pr)), (xa3, .inl (kx3, 100, .inl ag)), (mh, .inr (1, [.int fl, .ref ma0, .ref ma1, .ref ma2, .ref ma3, .int nx, .long ck])), (ma0, .inl (km0, 100, .inl th)), (ma1, .inl (km1, 100, .inr (.inl tm))), (ma2, .inl (km2, 100, .inl pr)), (ma3, .inl (km3, 100, .inl ag)), (ao, .inl (k4, 1, .inr (.inl (vp_updL ou (0 : Int32).toNatClampNeg (if th j1.toNatClampNeg = 0 then 0 else (pr j1.toNatClampNeg).toInt64)))))]) [5, 6, 7, 8, 9, 0, 1, 2, 3, 4, 10] (by decide) rfl
  refine lv_istore hx hb dL_law_458 hl (by decide) rfl (fun ls hl => ?_)
  have hl : lv_has ls 8 [(5, .int 0), (4, .int (nI i)), (0, .ref b), (1, .ref xh), (2, .ref mh), (3, .ref ao)] := hl
  refine lv_aload_n hx hb dL_law_460 rfl (lv_at hl 4 rfl) ?_
  refine lv_aload_n hx hb dL_law_461 rfl (lv_at hl 2 rfl) ?_
  refine lv_iload hx hb dL_law_462 (lv_at hl 1 rfl) ?_
  refine lv_iconst (v := 1) hx hb dL_law_464 (by decide) ?_
  refine lv_iadd hx hb dL_law_465 ?_
  refine va_sld hx hb hX hbl hbA hS (tw_sin1 hi hL) dL_law_466 ?_
  rw [e1]
  refine lv_aload_n hx hb dL_law_467 rfl (lv_at hl 2 rfl) ?_
  refine lv_iload hx hb dL_law_468 (lv_at hl 1 rfl) ?_
  refine lv_iconst (v := 2) hx hb dL_law_470 (by decide) ?_
  refine lv_iadd hx hb dL_law_471 ?_
  refine va_sld hx hb hX hbl hbA hS (tw_sin2 hi hL) dL_law_472 ?_
  rw [e2]
  have hPc := hP.sub (ws' := (tw_wM mh ma0 ma1 ma2 ma3 km0 km1 km2 km3 fl th tm pr ag ck nx)) [5, 6, 7, 8, 9] rfl
  have hDc := hD.sub (ws' := (tw_wM mh ma0 ma1 ma2 ma3 km0 km1 km2 km3 fl th tm pr ag ck nx)) [5, 6, 7, 8, 9] (by decide) rfl
  have hKc := hK.sub (tys' := tw_k km0 km1 km2 km3) [4, 5, 6, 7] rfl
  have hFc := va_free (wc := (tw_wM mh ma0 ma1 ma2 ma3 km0 km1 km2 km3 fl th tm pr ag ck nx)) hD hS hA [5, 6, 7, 8, 9] rfl
  refine va_calll (va_runV (C := RM) (b := mh) (As := [.int j1, .int 2]) (rest := []) ⟨hx, hb, hml, hown, hT⟩ (cM_timer2 l dC dI mh ma0 ma1 ma2 ma3 km0 km1 km2 km3 fl th tm pr ag ck nx H.size j1 hj) (cwV 2 hT (tw_gV tt_283 tt_284 tt_285 tt_2 tt_286) rfl rfl rfl ⟨rfl, by decide +kernel⟩ ⟨Nat.le_of_ble_eq_true rfl, Nat.le_of_ble_eq_true rfl⟩) ⟨fun a U g mk q => by obtain ⟨q0, q1, qP, qK, qD⟩ := q; exact ⟨q0, q1, qP, va_K.moved (u := U) (U := U.calling g mk a) (Vm.Alike.refl U.vm) qK, qD⟩, va_recv (q0 := 0) (ci := 1) hKc hPc rfl rfl, fun U hU hW => ⟨rfl, by rw [hU], by rw [hU]; exact hPc, va_K.moved hW.alike hKc, hDc.weaken (fun _ _ _ _ => trivial)⟩⟩ rfl rfl hl.1 rfl (lv_room (Nat.le_of_ble_eq_true rfl)) dL_law_473 ⟨Nat.le_trans (Nat.le_succ _) hc.1, Nat.le_trans (Nat.le_add_right _ 6) hc.2⟩) hS (fun q _ h => hFc q h) hFc (fun r9 u9 t9 H1 locs ht9 hvm9 hw9 hB9 hz9 hk9 hS => ?_)
  obtain ⟨hP1, hD1⟩ := hB9
  rw [ht9] at hP1
  have hw9 : r9 = (if th j1.toNatClampNeg = 0 then 0 else (pr j1.toNatClampNeg).toInt64) := hw9
  subst r9
  obtain ⟨hP, hD⟩ := va_join (wr := [(xh, .inr (0, [.ref xa0, .ref xa1, .ref xa2, .ref xa3, .long ck, .int nx])), (xa0, .inl (kx0, 100, .inl th)), (xa1, .inl (kx1, 100, .inr (.inl tm))), (xa2, .inl (kx2, 100, .inl pr)), (xa3, .inl (kx3, 100, .inl ag)), (ao, .inl (k4, 1, .inr (.inl (vp_updL ou (0 : Int32).toNatClampNeg (if th j1.toNatClampNeg = 0 then 0 else (pr j1.toNatClampNeg).toInt64)))))]) (w1 := (tw_wM mh ma0 ma1 ma2 ma3 km0 km1 km2 km3 0 th tm pr ag ck nx)) hP hD [5, 6, 7, 8, 9] [0, 1, 2, 3, 4, 10] rfl rfl (by decide) (by decide) hk9 hFc hP1 hD1
  generalize H1 = H at hP hS ⊢
  have hP := hP.sub (ws' := [(xh, .inr (0, [.ref xa0, .ref xa1, .ref xa2, .ref xa3, .long ck, .int nx])), (xa0, .inl (kx0, 100, .inl th)), (xa1, .inl (kx1, 100, .inr (.inl tm))), (xa2, .inl (kx2, 100, .inl pr)), (xa3, .inl (kx3, 100, .inl ag)), (mh, .inr (1, [.int 0, .ref ma0, .ref ma1, .ref ma2, .ref ma3, .int nx, .long ck])), (ma0, .inl (km0, 100, .inl th)), (ma1, .inl (km1, 100, .inr (.inl tm))), (ma2, .inl (km2, 100, .inl pr)), (ma3, .inl (km3, 100, .inl ag)), (ao, .inl (k4, 1, .inr (.inl (vp_updL ou (0 : Int32).toNatClampNeg (if th j1.toNatClampNeg = 0 then 0 else (pr j1.toNatClampNeg).toInt64)))))]) [0, 1, 2, 3, 4, 6, 7, 8, 9, 10, 5] rfl
  have hD := hD.sub (ws' := [(xh, .inr (0, [.ref xa0, .ref xa1, .ref xa2, .ref xa3, .long ck, .int nx])), (xa0, .inl (kx0, 100, .inl th)), (xa1, .inl (kx1, 100, .inr (.inl tm))), (xa2, .inl (kx2, 100, .inl pr)), (xa3, .inl (kx3, 100, .inl ag)), (mh, .inr (1, [.int 0, .ref ma0, .ref ma1, .ref ma2, .ref ma3, .int nx, .long ck])), (ma0, .inl (km0, 100, .inl th)), (ma1, .inl (km1, 100, .inr (.inl tm))), (ma2, .inl (km2, 100, .inl pr)), (ma3, .inl (km3, 100, .inl ag)), (ao, .inl (k4, 1, .inr (.inl (vp_updL ou (0 : Int32).toNatClampNeg (if th j1.toNatClampNeg = 0 then 0 else (pr j1.toNatClampNeg).toInt64)))))]) [0, 1, 2, 3, 4, 6, 7, 8, 9, 10, 5] (by decide) rfl
  refine lv_lstore hx hb dL_law_476 hl (by decide) rfl (fun ls hl => ?_)
  have hl : lv_has ls 8 [(6, .long (if th j1.toNatClampNeg = 0 then 0 else (pr j1.toNatClampNeg).toInt64)), (5, .int 0), (4, .int (nI i)), (0, .ref b), (1, .ref xh), (2, .ref mh), (3, .ref ao)] := hl
  refine lv_aload_n hx hb dL_law_478 rfl (lv_at hl 5 rfl) ?_
  have hPc := hP.sub (ws' := (tw_wM mh ma0 ma1 ma2 ma3 km0 km1 km2 km3 0 th tm pr ag ck nx)) [5, 6, 7, 8, 9] rfl
  have hKc := hK.sub (tys' := tw_k km0 km1 km2 km3) [4, 5, 6, 7] rfl
  refine vp_callSi (W.runV (C := RM) (b := mh) (As := []) (rest := []) ⟨hx, hb, hml, hown, hT⟩ (cM_thrown l dC dI mh ma0 ma1 ma2 ma3 km0 km1 km2 km3 0 th tm pr ag ck nx) (cwV 0 hT (tw_gV tt_239 tt_240 tt_241 tt_2 tt_242) rfl rfl rfl ⟨rfl, by decide +kernel⟩ ⟨Nat.le_of_ble_eq_true rfl, Nat.le_of_ble_eq_true rfl⟩) ⟨fun a U g mk q => ⟨q.1, q.2.1, va_K.moved (u := U) (U := U.calling g mk a) (Vm.Alike.refl U.vm) q.2.2⟩, va_recv (q0 := 0) (ci := 1) hKc hPc rfl rfl, fun U hU hW => ⟨rfl, by rw [hU]; exact hPc, va_K.moved hW.alike hKc⟩⟩ rfl rfl hl.1 rfl (lv_room (Nat.le_of_ble_eq_true rfl)) dL_law_479 ⟨Nat.le_trans (Nat.le_succ _) hc.1, Nat.le_trans (Nat.le_add_right _ 6) hc.2⟩) (fun r8 h8 => ?_)
  subst r8
  refine lv_iload hx hb dL_law_482 (lv_at hl 1 rfl) ?_
  refine lv_icmp_eq (tgt := 489) hx hb dL_law_484 (by decide) (fun hc1 => ?_) (fun hc1 => absurd (rfl : (0 : Int32) = 0) hc1)
  refine lv_iload hx hb dL_law_489 (lv_at hl 1 rfl) ?_
  refine lv_if_ne (tgt := 505) hx hb dL_law_491 (by decide) (fun hc2 => absurd rfl hc2) (fun hc2 => ?_)
  refine lv_aload_n hx hb dL_law_494 rfl (lv_at hl 6 rfl) ?_
  refine lv_iconst (v := 0) hx hb dL_law_495 (by decide) ?_
  refine va_lald hx hb hK hP 10 8 rfl rfl (by unfold vp_in; decide) dL_law_496 ?_
  refine lv_lload hx hb dL_law_497 (lv_at hl 0 rfl) ?_
  refine W.lcmp hx hb dL_law_499 ?_
  refine lv_if_eq (tgt := 505) hx hb dL_law_500 (by decide) (fun hc3 => ?_) (fun hc3 => absurd ((lg_cmp_eq _ _).mpr pk_uLs) hc3)
  refine lv_goto (tgt := 563) hx hb dL_law_505 (by decide) ?_
  refine W.widen (k := cells + 1) (n := slots + 6) (Nat.le_succ _) (Nat.le_add_right _ 6) ?_
  exact kk 0 th tm pr ag ck nx (vp_updL ou (0 : Int32).toNatClampNeg (if th j1.toNatClampNeg = 0 then 0 else (pr j1.toNatClampNeg).toInt64)) H _ ls hI hP hD hS (lv_sub hl [2, 3, 4, 5, 6] rfl)
end LLtimer2
section LLtimer3
variable {p : Program} {l : Launch} {e : Env} {s : State} {m : MethodId} {below : List Frame} {meth : Method} {c : Code} {H : Heap} {locs : List Loc} {cells slots : Nat} {Q : State → Prop} {ls : Array Slot} {b L i : Nat} {xs : Nat → Int32}
variable {dC : Nat → ClassId} {dI : Nat → Nat → Nat} {xh xa0 xa1 xa2 xa3 : Nat} {kx0 kx1 kx2 kx3 : ClassId} {mh ma0 ma1 ma2 ma3 : Nat} {km0 km1 km2 km3 : ClassId} {ao : Nat} {k4 : ClassId} {fl : Int32} {th : Nat → Int32} {tm : Nat → Int64} {pr ag : Nat → Int32} {ck : Int64} {nx : Int32} {ou : Nat → Int64}
set_option maxHeartbeats 4000000 in
set_option maxRecDepth 100000 in
theorem ll_timer3 (hx : p.tables.exec = Jvm.exec) (hb : c.code = bL_law) (hml : c.maxLocals = 8) (hT : ∀ w ∈ tw_T, w.before #[Value.ref b] s = true) (hown : s.vm.findClass RL = some m.cls) (hfl : l.flags = pinnedFlags ++ [noTraceFlag]) (hX : va_X b L xs s s.heap) (hbl : b < s.heap.size) (hZ : tw_Z s s.heap) (hNc : va_Nc tw_nse tw_iae s) (hL : L ≤ 2560) (hi : i + 5 ≤ L) (hc : cells + 1 ≤ 1044 ∧ slots + 6 ≤ 9060) (hI : tw_Inv tm ck) (hP : va_P (dC, dI) tw_cl (tw_wL xh xa0 xa1 xa2 xa3 kx0 kx1 kx2 kx3 mh ma0 ma1 ma2 ma3 km0 km1 km2 km3 ao k4 fl th tm pr ag ck nx ou) H) (hD : va_D (tw_AL s) (tw_wL xh xa0 xa1 xa2 xa3 kx0 kx1 kx2 kx3 mh ma0 ma1 ma2 ma3 km0 km1 km2 km3 ao k4 fl th tm pr ag ck nx ou)) (hK : va_K (dC, dI) tw_cl (tw_kL kx0 kx1 kx2 kx3 km0 km1 km2 km3 k4) s) (hS : va_S (tw_AL s) s.heap H locs) (hl : lv_has ls 8 [(4, .int (nI i)), (0, .ref b), (1, .ref xh), (2, .ref mh), (3, .ref ao)]) {j1 : Int32} (e1 : xs (nI i + 1).toNatClampNeg = j1) (e2 : xs (nI i + 2).toNatClampNeg = 3) (hj : vp_in j1 100) (kk : ∀ (fl' : Int32) (th' : Nat → Int32) (tm' : Nat → Int64) (pr' ag' : Nat → Int32) (ck' : Int64) (nx' : Int32) (ou' : Nat → Int64) (H' : Heap) (locs' : List Loc) (ls' : Array Slot), tw_Inv tm' ck' → va_P (dC, dI) tw_cl (tw_wL xh xa0 xa1 xa2 xa3 kx0 kx1 kx2 kx3 mh ma0 ma1 ma2 ma3 km0 km1 km2 km3 ao k4 fl' (th') (tm') (pr') (ag') (ck') (nx') (ou')) H' → va_D (tw_AL s) (tw_wL xh xa0 xa1 xa2 xa3 kx0 kx1 kx2 kx3 mh ma0 ma1 ma2 ma3 km0 km1 km2 km3 ao k4 (fl') (th') (tm') (pr') (ag') (ck') (nx') (ou')) → va_S (tw_AL s) s.heap H' locs' → lv_has ls' 8 [(4, .int (nI i)), (0, .ref b), (1, .ref xh), (2, .ref mh), (3, .ref ao)] → W p l e room_1 s m #[Value.ref b] below meth c H' locs' (cells + 1) (slots + 6) Q (F0 m 563 ls' [])) : W p l e room_1 s m #[Value.ref b] below meth c H locs cells slots Q (F0 m 441 ls []) := by
  have hA : ∀ q : Nat, s.heap.size ≤ q → tw_AL s q := fun q h => h
  have hbA : ¬ tw_AL s b := Nat.not_le.mpr hbl
  refine lv_aload_n hx hb dL_law_441 rfl (lv_at hl 2 rfl) ?_
  refine lv_aload_n hx hb dL_law_442 rfl (lv_at hl 1 rfl) ?_
  refine lv_iload hx hb dL_law_443 (lv_at hl 0 rfl) ?_
  refine lv_iconst (v := 1) hx hb dL_law_445 (by decide) ?_
  refine lv_iadd hx hb dL_law_446 ?_
  refine va_sld hx hb hX hbl hbA hS (tw_sin1 hi hL) dL_law_447 ?_
  rw [e1]
  refine lv_aload_n hx hb dL_law_448 rfl (lv_at hl 1 rfl) ?_
  refine lv_iload hx hb dL_law_449 (lv_at hl 0 rfl) ?_
  refine lv_iconst (v := 2) hx hb dL_law_451 (by decide) ?_
  refine lv_iadd hx hb dL_law_452 ?_
  refine va_sld hx hb hX hbl hbA hS (tw_sin2 hi hL) dL_law_453 ?_
  rw [e2]
  refine lv_aload_n hx hb dL_law_454 rfl (lv_at hl 4 rfl) ?_
  have hPc := hP.sub (ws' := (tw_wH xh xa0 xa1 xa2 xa3 kx0 kx1 kx2 kx3 th tm pr ag ck nx ao k4 ou)) [0, 1, 2, 3, 4, 10] rfl
  have hDc := hD.sub (ws' := (tw_wH xh xa0 xa1 xa2 xa3 kx0 kx1 kx2 kx3 th tm pr ag ck nx ao k4 ou)) [0, 1, 2, 3, 4, 10] (by decide) rfl
  have hKc := hK.sub (tys' := tw_kH kx0 kx1 kx2 kx3 k4) [0, 1, 2, 3, 8] rfl
  have hFc := va_free (wc := (tw_wH xh xa0 xa1 xa2 xa3 kx0 kx1 kx2 kx3 th tm pr ag ck nx ao k4 ou)) hD hS hA [0, 1, 2, 3, 4, 10] rfl
  refine va_calli (xt_runSW (n := 4) (As := [.ref xh, .int j1, .int 3, .ref ao]) (rest := []) ⟨hx, hb, hml, hown, hT⟩ (cL_timer3 l dC dI xh xa0 xa1 xa2 xa3 kx0 kx1 kx2 kx3 th tm pr ag ck nx ao k4 ou H.size j1 hj) rfl (tw_gS tt_190 tt_191 tt_0 tt_192) rfl rfl ⟨rfl, by decide +kernel⟩ ⟨Nat.le_of_ble_eq_true rfl, Nat.le_of_ble_eq_true rfl⟩ ⟨fun a U g mk q => by obtain ⟨q0, q1, qP, qK, qD⟩ := q; exact ⟨q0, q1, qP, va_K.moved (u := U) (U := U.calling g mk a) (Vm.Alike.refl U.vm) qK, qD⟩, fun U hU hW => ⟨rfl, by rw [hU], by rw [hU]; exact hPc, va_K.moved hW.alike hKc, hDc.weaken (fun _ _ _ _ => trivial)⟩⟩ rfl rfl hl.1 rfl (lv_room (Nat.le_of_ble_eq_true rfl)) dL_law_455 ⟨Nat.le_trans (Nat.le_succ _) hc.1, Nat.le_trans (Nat.le_add_right _ 6) hc.2⟩) hS (fun q _ h => hFc q h) hFc (fun r9 u9 t9 H1 locs ht9 hvm9 hw9 hB9 hz9 hk9 hS => ?_)
  obtain ⟨hP1, hD1⟩ := hB9
  rw [ht9] at hP1
  have hw9 : r9 = 0 := hw9
  subst r9
  obtain ⟨hP, hD⟩ := va_join (wr := (tw_wM mh ma0 ma1 ma2 ma3 km0 km1 km2 km3 fl th tm pr ag ck nx)) (w1 := (tw_wH xh xa0 xa1 xa2 xa3 kx0 kx1 kx2 kx3 th tm pr ag ck nx ao k4 (vp_updL ou (0 : Int32).toNatClampNeg (if th j1.toNatClampNeg = 0 then 0 else (ag j1.toNatClampNeg).toInt64)))) hP hD [0, 1, 2, 3, 4, 10] [5, 6, 7, 8, 9] rfl rfl (by decide) (by decide) hk9 hFc hP1 hD1
  generalize H1 = H at hP hS ⊢
  have hP := hP.sub (ws' := [(xh, .inr (0, [.ref xa0, .ref xa1, .ref xa2, .ref xa3, .long ck, .int nx])), (xa0, .inl (kx0, 100, .inl th)), (xa1, .inl (kx1, 100, .inr (.inl tm))), (xa2, .inl (kx2, 100, .inl pr)), (xa3, .inl (kx3, 100, .inl ag)), (mh, .inr (1, [.int fl, .ref ma0, .ref ma1, .ref ma2, .ref ma3, .int nx, .long ck])), (ma0, .inl (km0, 100, .inl th)), (ma1, .inl (km1, 100, .inr (.inl tm))), (ma2, .inl (km2, 100, .inl pr)), (ma3, .inl (km3, 100, .inl ag)), (ao, .inl (k4, 1, .inr (.inl (vp_updL ou (0 : Int32).toNatClampNeg (if th j1.toNatClampNeg = 0 then 0 else (ag j1.toNatClampNeg).toInt64)))))]) [5, 6, 7, 8, 9, 0, 1, 2, 3, 4, 10] rfl
  have hD := hD.sub (ws' := [(xh, .inr (0, [.ref xa0, .ref xa1, .ref xa2, .ref xa3, .long ck, .int nx])), (xa0, .inl (kx0, 100, .inl th)), (xa1, .inl (kx1, 100, .inr (.inl tm))), (xa2, .inl (kx2, 100, .inl pr)), (xa3, .inl (kx3, 100, .inl ag)), (mh, .inr (1, [.int fl, .ref ma0, .ref ma1, .ref ma2, .ref ma3, .int nx, .long ck])), (ma0, .inl (km0, 100, .inl th)), (ma1, .inl (km1, 100, .inr (.inl tm))), (ma2, .inl (km2, 100, .inl pr)), (ma3, .inl (km3, 100, .inl ag)), (ao, .inl (k4, 1, .inr (.inl (vp_updL ou (0 : Int32).toNatClampNeg (if th j1.toNatClampNeg = 0 then 0 else (ag j1.toNatClampNeg).toInt64)))))]) [5, 6, 7, 8, 9, 0, 1, 2, 3, 4, 10] (by decide) rfl
  refine lv_istore hx hb dL_law_458 hl (by decide) rfl (fun ls hl => ?_)
  have hl : lv_has ls 8 [(5, .int 0), (4, .int (nI i)), (0, .ref b), (1, .ref xh), (2, .ref mh), (3, .ref ao)] := hl
  refine lv_aload_n hx hb dL_law_460 rfl (lv_at hl 4 rfl) ?_
  refine lv_aload_n hx hb dL_law_461 rfl (lv_at hl 2 rfl) ?_
  refine lv_iload hx hb dL_law_462 (lv_at hl 1 rfl) ?_
  refine lv_iconst (v := 1) hx hb dL_law_464 (by decide) ?_
  refine lv_iadd hx hb dL_law_465 ?_
  refine va_sld hx hb hX hbl hbA hS (tw_sin1 hi hL) dL_law_466 ?_
  rw [e1]
  refine lv_aload_n hx hb dL_law_467 rfl (lv_at hl 2 rfl) ?_
  refine lv_iload hx hb dL_law_468 (lv_at hl 1 rfl) ?_
  refine lv_iconst (v := 2) hx hb dL_law_470 (by decide) ?_
  refine lv_iadd hx hb dL_law_471 ?_
  refine va_sld hx hb hX hbl hbA hS (tw_sin2 hi hL) dL_law_472 ?_
  rw [e2]
  have hPc := hP.sub (ws' := (tw_wM mh ma0 ma1 ma2 ma3 km0 km1 km2 km3 fl th tm pr ag ck nx)) [5, 6, 7, 8, 9] rfl
  have hDc := hD.sub (ws' := (tw_wM mh ma0 ma1 ma2 ma3 km0 km1 km2 km3 fl th tm pr ag ck nx)) [5, 6, 7, 8, 9] (by decide) rfl
  have hKc := hK.sub (tys' := tw_k km0 km1 km2 km3) [4, 5, 6, 7] rfl
  have hFc := va_free (wc := (tw_wM mh ma0 ma1 ma2 ma3 km0 km1 km2 km3 fl th tm pr ag ck nx)) hD hS hA [5, 6, 7, 8, 9] rfl
  refine va_calll (va_runV (C := RM) (b := mh) (As := [.int j1, .int 3]) (rest := []) ⟨hx, hb, hml, hown, hT⟩ (cM_timer3 l dC dI mh ma0 ma1 ma2 ma3 km0 km1 km2 km3 fl th tm pr ag ck nx H.size j1 hj) (cwV 2 hT (tw_gV tt_283 tt_284 tt_285 tt_2 tt_286) rfl rfl rfl ⟨rfl, by decide +kernel⟩ ⟨Nat.le_of_ble_eq_true rfl, Nat.le_of_ble_eq_true rfl⟩) ⟨fun a U g mk q => by obtain ⟨q0, q1, qP, qK, qD⟩ := q; exact ⟨q0, q1, qP, va_K.moved (u := U) (U := U.calling g mk a) (Vm.Alike.refl U.vm) qK, qD⟩, va_recv (q0 := 0) (ci := 1) hKc hPc rfl rfl, fun U hU hW => ⟨rfl, by rw [hU], by rw [hU]; exact hPc, va_K.moved hW.alike hKc, hDc.weaken (fun _ _ _ _ => trivial)⟩⟩ rfl rfl hl.1 rfl (lv_room (Nat.le_of_ble_eq_true rfl)) dL_law_473 ⟨Nat.le_trans (Nat.le_succ _) hc.1, Nat.le_trans (Nat.le_add_right _ 6) hc.2⟩) hS (fun q _ h => hFc q h) hFc (fun r9 u9 t9 H1 locs ht9 hvm9 hw9 hB9 hz9 hk9 hS => ?_)
  obtain ⟨hP1, hD1⟩ := hB9
  rw [ht9] at hP1
  have hw9 : r9 = (if th j1.toNatClampNeg = 0 then 0 else (ag j1.toNatClampNeg).toInt64) := hw9
  subst r9
  obtain ⟨hP, hD⟩ := va_join (wr := [(xh, .inr (0, [.ref xa0, .ref xa1, .ref xa2, .ref xa3, .long ck, .int nx])), (xa0, .inl (kx0, 100, .inl th)), (xa1, .inl (kx1, 100, .inr (.inl tm))), (xa2, .inl (kx2, 100, .inl pr)), (xa3, .inl (kx3, 100, .inl ag)), (ao, .inl (k4, 1, .inr (.inl (vp_updL ou (0 : Int32).toNatClampNeg (if th j1.toNatClampNeg = 0 then 0 else (ag j1.toNatClampNeg).toInt64)))))]) (w1 := (tw_wM mh ma0 ma1 ma2 ma3 km0 km1 km2 km3 0 th tm pr ag ck nx)) hP hD [5, 6, 7, 8, 9] [0, 1, 2, 3, 4, 10] rfl rfl (by decide) (by decide) hk9 hFc hP1 hD1
  generalize H1 = H at hP hS ⊢
  have hP := hP.sub (ws' := [(xh, .inr (0, [.ref xa0, .ref xa1, .ref xa2, .ref xa3, .long ck, .int nx])), (xa0, .inl (kx0, 100, .inl th)), (xa1, .inl (kx1, 100, .inr (.inl tm))), (xa2, .inl (kx2, 100, .inl pr)), (xa3, .inl (kx3, 100, .inl ag)), (mh, .inr (1, [.int 0, .ref ma0, .ref ma1, .ref ma2, .ref ma3, .int nx, .long ck])), (ma0, .inl (km0, 100, .inl th)), (ma1, .inl (km1, 100, .inr (.inl tm))), (ma2, .inl (km2, 100, .inl pr)), (ma3, .inl (km3, 100, .inl ag)), (ao, .inl (k4, 1, .inr (.inl (vp_updL ou (0 : Int32).toNatClampNeg (if th j1.toNatClampNeg = 0 then 0 else (ag j1.toNatClampNeg).toInt64)))))]) [0, 1, 2, 3, 4, 6, 7, 8, 9, 10, 5] rfl
  have hD := hD.sub (ws' := [(xh, .inr (0, [.ref xa0, .ref xa1, .ref xa2, .ref xa3, .long ck, .int nx])), (xa0, .inl (kx0, 100, .inl th)), (xa1, .inl (kx1, 100, .inr (.inl tm))), (xa2, .inl (kx2, 100, .inl pr)), (xa3, .inl (kx3, 100, .inl ag)), (mh, .inr (1, [.int 0, .ref ma0, .ref ma1, .ref ma2, .ref ma3, .int nx, .long ck])), (ma0, .inl (km0, 100, .inl th)), (ma1, .inl (km1, 100, .inr (.inl tm))), (ma2, .inl (km2, 100, .inl pr)), (ma3, .inl (km3, 100, .inl ag)), (ao, .inl (k4, 1, .inr (.inl (vp_updL ou (0 : Int32).toNatClampNeg (if th j1.toNatClampNeg = 0 then 0 else (ag j1.toNatClampNeg).toInt64)))))]) [0, 1, 2, 3, 4, 6, 7, 8, 9, 10, 5] (by decide) rfl
  refine lv_lstore hx hb dL_law_476 hl (by decide) rfl (fun ls hl => ?_)
  have hl : lv_has ls 8 [(6, .long (if th j1.toNatClampNeg = 0 then 0 else (ag j1.toNatClampNeg).toInt64)), (5, .int 0), (4, .int (nI i)), (0, .ref b), (1, .ref xh), (2, .ref mh), (3, .ref ao)] := hl
  refine lv_aload_n hx hb dL_law_478 rfl (lv_at hl 5 rfl) ?_
  have hPc := hP.sub (ws' := (tw_wM mh ma0 ma1 ma2 ma3 km0 km1 km2 km3 0 th tm pr ag ck nx)) [5, 6, 7, 8, 9] rfl
  have hKc := hK.sub (tys' := tw_k km0 km1 km2 km3) [4, 5, 6, 7] rfl
  refine vp_callSi (W.runV (C := RM) (b := mh) (As := []) (rest := []) ⟨hx, hb, hml, hown, hT⟩ (cM_thrown l dC dI mh ma0 ma1 ma2 ma3 km0 km1 km2 km3 0 th tm pr ag ck nx) (cwV 0 hT (tw_gV tt_239 tt_240 tt_241 tt_2 tt_242) rfl rfl rfl ⟨rfl, by decide +kernel⟩ ⟨Nat.le_of_ble_eq_true rfl, Nat.le_of_ble_eq_true rfl⟩) ⟨fun a U g mk q => ⟨q.1, q.2.1, va_K.moved (u := U) (U := U.calling g mk a) (Vm.Alike.refl U.vm) q.2.2⟩, va_recv (q0 := 0) (ci := 1) hKc hPc rfl rfl, fun U hU hW => ⟨rfl, by rw [hU]; exact hPc, va_K.moved hW.alike hKc⟩⟩ rfl rfl hl.1 rfl (lv_room (Nat.le_of_ble_eq_true rfl)) dL_law_479 ⟨Nat.le_trans (Nat.le_succ _) hc.1, Nat.le_trans (Nat.le_add_right _ 6) hc.2⟩) (fun r8 h8 => ?_)
  subst r8
  refine lv_iload hx hb dL_law_482 (lv_at hl 1 rfl) ?_
  refine lv_icmp_eq (tgt := 489) hx hb dL_law_484 (by decide) (fun hc1 => ?_) (fun hc1 => absurd (rfl : (0 : Int32) = 0) hc1)
  refine lv_iload hx hb dL_law_489 (lv_at hl 1 rfl) ?_
  refine lv_if_ne (tgt := 505) hx hb dL_law_491 (by decide) (fun hc2 => absurd rfl hc2) (fun hc2 => ?_)
  refine lv_aload_n hx hb dL_law_494 rfl (lv_at hl 6 rfl) ?_
  refine lv_iconst (v := 0) hx hb dL_law_495 (by decide) ?_
  refine va_lald hx hb hK hP 10 8 rfl rfl (by unfold vp_in; decide) dL_law_496 ?_
  refine lv_lload hx hb dL_law_497 (lv_at hl 0 rfl) ?_
  refine W.lcmp hx hb dL_law_499 ?_
  refine lv_if_eq (tgt := 505) hx hb dL_law_500 (by decide) (fun hc3 => ?_) (fun hc3 => absurd ((lg_cmp_eq _ _).mpr pk_uLs) hc3)
  refine lv_goto (tgt := 563) hx hb dL_law_505 (by decide) ?_
  refine W.widen (k := cells + 1) (n := slots + 6) (Nat.le_succ _) (Nat.le_add_right _ 6) ?_
  exact kk 0 th tm pr ag ck nx (vp_updL ou (0 : Int32).toNatClampNeg (if th j1.toNatClampNeg = 0 then 0 else (ag j1.toNatClampNeg).toInt64)) H _ ls hI hP hD hS (lv_sub hl [2, 3, 4, 5, 6] rfl)
end LLtimer3
section LLtimerB
variable {p : Program} {l : Launch} {e : Env} {s : State} {m : MethodId} {below : List Frame} {meth : Method} {c : Code} {H : Heap} {locs : List Loc} {cells slots : Nat} {Q : State → Prop} {ls : Array Slot} {b L i : Nat} {xs : Nat → Int32}
variable {dC : Nat → ClassId} {dI : Nat → Nat → Nat} {xh xa0 xa1 xa2 xa3 : Nat} {kx0 kx1 kx2 kx3 : ClassId} {mh ma0 ma1 ma2 ma3 : Nat} {km0 km1 km2 km3 : ClassId} {ao : Nat} {k4 : ClassId} {fl : Int32} {th : Nat → Int32} {tm : Nat → Int64} {pr ag : Nat → Int32} {ck : Int64} {nx : Int32} {ou : Nat → Int64}
set_option maxHeartbeats 4000000 in
set_option maxRecDepth 100000 in
theorem ll_timerB (hx : p.tables.exec = Jvm.exec) (hb : c.code = bL_law) (hml : c.maxLocals = 8) (hT : ∀ w ∈ tw_T, w.before #[Value.ref b] s = true) (hown : s.vm.findClass RL = some m.cls) (hfl : l.flags = pinnedFlags ++ [noTraceFlag]) (hX : va_X b L xs s s.heap) (hbl : b < s.heap.size) (hZ : tw_Z s s.heap) (hNc : va_Nc tw_nse tw_iae s) (hL : L ≤ 2560) (hi : i + 5 ≤ L) (hc : cells + 1 ≤ 1044 ∧ slots + 6 ≤ 9060) (hI : tw_Inv tm ck) (hP : va_P (dC, dI) tw_cl (tw_wL xh xa0 xa1 xa2 xa3 kx0 kx1 kx2 kx3 mh ma0 ma1 ma2 ma3 km0 km1 km2 km3 ao k4 fl th tm pr ag ck nx ou) H) (hD : va_D (tw_AL s) (tw_wL xh xa0 xa1 xa2 xa3 kx0 kx1 kx2 kx3 mh ma0 ma1 ma2 ma3 km0 km1 km2 km3 ao k4 fl th tm pr ag ck nx ou)) (hK : va_K (dC, dI) tw_cl (tw_kL kx0 kx1 kx2 kx3 km0 km1 km2 km3 k4) s) (hS : va_S (tw_AL s) s.heap H locs) (hl : lv_has ls 8 [(4, .int (nI i)), (0, .ref b), (1, .ref xh), (2, .ref mh), (3, .ref ao)]) {j1 j2 : Int32} (e1 : xs (nI i + 1).toNatClampNeg = j1) (e2 : xs (nI i + 2).toNatClampNeg = j2) (hbad : ¬ (vp_in j1 100 ∧ ¬ j2 < 0 ∧ j2 ≤ 3)) (kk : ∀ (fl' : Int32) (th' : Nat → Int32) (tm' : Nat → Int64) (pr' ag' : Nat → Int32) (ck' : Int64) (nx' : Int32) (ou' : Nat → Int64) (H' : Heap) (locs' : List Loc) (ls' : Array Slot), tw_Inv tm' ck' → va_P (dC, dI) tw_cl (tw_wL xh xa0 xa1 xa2 xa3 kx0 kx1 kx2 kx3 mh ma0 ma1 ma2 ma3 km0 km1 km2 km3 ao k4 fl' (th') (tm') (pr') (ag') (ck') (nx') (ou')) H' → va_D (tw_AL s) (tw_wL xh xa0 xa1 xa2 xa3 kx0 kx1 kx2 kx3 mh ma0 ma1 ma2 ma3 km0 km1 km2 km3 ao k4 (fl') (th') (tm') (pr') (ag') (ck') (nx') (ou')) → va_S (tw_AL s) s.heap H' locs' → lv_has ls' 8 [(4, .int (nI i)), (0, .ref b), (1, .ref xh), (2, .ref mh), (3, .ref ao)] → W p l e room_1 s m #[Value.ref b] below meth c H' locs' (cells + 1) (slots + 6) Q (F0 m 563 ls' [])) : W p l e room_1 s m #[Value.ref b] below meth c H locs cells slots Q (F0 m 441 ls []) := by
  have hA : ∀ q : Nat, s.heap.size ≤ q → tw_AL s q := fun q h => h
  have hbA : ¬ tw_AL s b := Nat.not_le.mpr hbl
  refine lv_aload_n hx hb dL_law_441 rfl (lv_at hl 2 rfl) ?_
  refine lv_aload_n hx hb dL_law_442 rfl (lv_at hl 1 rfl) ?_
  refine lv_iload hx hb dL_law_443 (lv_at hl 0 rfl) ?_
  refine lv_iconst (v := 1) hx hb dL_law_445 (by decide) ?_
  refine lv_iadd hx hb dL_law_446 ?_
  refine va_sld hx hb hX hbl hbA hS (tw_sin1 hi hL) dL_law_447 ?_
  rw [e1]
  refine lv_aload_n hx hb dL_law_448 rfl (lv_at hl 1 rfl) ?_
  refine lv_iload hx hb dL_law_449 (lv_at hl 0 rfl) ?_
  refine lv_iconst (v := 2) hx hb dL_law_451 (by decide) ?_
  refine lv_iadd hx hb dL_law_452 ?_
  refine va_sld hx hb hX hbl hbA hS (tw_sin2 hi hL) dL_law_453 ?_
  rw [e2]
  refine lv_aload_n hx hb dL_law_454 rfl (lv_at hl 4 rfl) ?_
  have hPc := hP.sub (ws' := (tw_wH xh xa0 xa1 xa2 xa3 kx0 kx1 kx2 kx3 th tm pr ag ck nx ao k4 ou)) [0, 1, 2, 3, 4, 10] rfl
  have hDc := hD.sub (ws' := (tw_wH xh xa0 xa1 xa2 xa3 kx0 kx1 kx2 kx3 th tm pr ag ck nx ao k4 ou)) [0, 1, 2, 3, 4, 10] (by decide) rfl
  have hKc := hK.sub (tys' := tw_kH kx0 kx1 kx2 kx3 k4) [0, 1, 2, 3, 8] rfl
  have hFc := va_free (wc := (tw_wH xh xa0 xa1 xa2 xa3 kx0 kx1 kx2 kx3 th tm pr ag ck nx ao k4 ou)) hD hS hA [0, 1, 2, 3, 4, 10] rfl
  have hZH : ∀ U : State, U.heap = H → s.WarmedH U.vm → tw_Z U U.heap := fun U hU hW => by rw [hU]; exact hZ.move hW (fun a ha => hS.2.1 a ha (Nat.not_le.mpr ha))
  refine va_calli (xt_runSW (n := 4) (As := [.ref xh, .int j1, .int j2, .ref ao]) (rest := []) ⟨hx, hb, hml, hown, hT⟩ (cL_timerB l hfl dC dI xh xa0 xa1 xa2 xa3 kx0 kx1 kx2 kx3 th tm pr ag ck nx ao k4 ou H.size j1 j2 hbad) rfl (tw_gS tt_190 tt_191 tt_0 tt_192) rfl rfl ⟨rfl, by decide +kernel⟩ ⟨Nat.le_of_ble_eq_true rfl, Nat.le_of_ble_eq_true rfl⟩ ⟨fun a U g mk q => by obtain ⟨q0, q1, qP, qK, qD, qZ⟩ := q; exact ⟨q0, q1, qP, va_K.moved (u := U) (U := U.calling g mk a) (Vm.Alike.refl U.vm) qK, qD, qZ.call⟩, fun U hU hW => ⟨rfl, by rw [hU], by rw [hU]; exact hPc, va_K.moved hW.alike hKc, hDc.weaken (fun _ _ _ _ => trivial), hZH U hU hW⟩⟩ rfl rfl hl.1 rfl (lv_room (Nat.le_of_ble_eq_true rfl)) dL_law_455 hc) hS (fun q _ h => hFc q h) hFc (fun r9 u9 t9 H1 locs ht9 hvm9 hw9 hB9 hz9 hk9 hS => ?_)
  obtain ⟨hP1, hD1⟩ := hB9
  rw [ht9] at hP1
  have hw9 : r9 = 1 := hw9
  subst r9
  obtain ⟨hP, hD⟩ := va_join (wr := (tw_wM mh ma0 ma1 ma2 ma3 km0 km1 km2 km3 fl th tm pr ag ck nx)) (w1 := (tw_wH xh xa0 xa1 xa2 xa3 kx0 kx1 kx2 kx3 th tm pr ag ck nx ao k4 ou)) hP hD [0, 1, 2, 3, 4, 10] [5, 6, 7, 8, 9] rfl rfl (by decide) (by decide) hk9 hFc hP1 hD1
  generalize H1 = H at hP hS ⊢
  have hP := hP.sub (ws' := [(xh, .inr (0, [.ref xa0, .ref xa1, .ref xa2, .ref xa3, .long ck, .int nx])), (xa0, .inl (kx0, 100, .inl th)), (xa1, .inl (kx1, 100, .inr (.inl tm))), (xa2, .inl (kx2, 100, .inl pr)), (xa3, .inl (kx3, 100, .inl ag)), (mh, .inr (1, [.int fl, .ref ma0, .ref ma1, .ref ma2, .ref ma3, .int nx, .long ck])), (ma0, .inl (km0, 100, .inl th)), (ma1, .inl (km1, 100, .inr (.inl tm))), (ma2, .inl (km2, 100, .inl pr)), (ma3, .inl (km3, 100, .inl ag)), (ao, .inl (k4, 1, .inr (.inl ou)))]) [5, 6, 7, 8, 9, 0, 1, 2, 3, 4, 10] rfl
  have hD := hD.sub (ws' := [(xh, .inr (0, [.ref xa0, .ref xa1, .ref xa2, .ref xa3, .long ck, .int nx])), (xa0, .inl (kx0, 100, .inl th)), (xa1, .inl (kx1, 100, .inr (.inl tm))), (xa2, .inl (kx2, 100, .inl pr)), (xa3, .inl (kx3, 100, .inl ag)), (mh, .inr (1, [.int fl, .ref ma0, .ref ma1, .ref ma2, .ref ma3, .int nx, .long ck])), (ma0, .inl (km0, 100, .inl th)), (ma1, .inl (km1, 100, .inr (.inl tm))), (ma2, .inl (km2, 100, .inl pr)), (ma3, .inl (km3, 100, .inl ag)), (ao, .inl (k4, 1, .inr (.inl ou)))]) [5, 6, 7, 8, 9, 0, 1, 2, 3, 4, 10] (by decide) rfl
  refine lv_istore hx hb dL_law_458 hl (by decide) rfl (fun ls hl => ?_)
  have hl : lv_has ls 8 [(5, .int 1), (4, .int (nI i)), (0, .ref b), (1, .ref xh), (2, .ref mh), (3, .ref ao)] := hl
  refine lv_aload_n hx hb dL_law_460 rfl (lv_at hl 4 rfl) ?_
  refine lv_aload_n hx hb dL_law_461 rfl (lv_at hl 2 rfl) ?_
  refine lv_iload hx hb dL_law_462 (lv_at hl 1 rfl) ?_
  refine lv_iconst (v := 1) hx hb dL_law_464 (by decide) ?_
  refine lv_iadd hx hb dL_law_465 ?_
  refine va_sld hx hb hX hbl hbA hS (tw_sin1 hi hL) dL_law_466 ?_
  rw [e1]
  refine lv_aload_n hx hb dL_law_467 rfl (lv_at hl 2 rfl) ?_
  refine lv_iload hx hb dL_law_468 (lv_at hl 1 rfl) ?_
  refine lv_iconst (v := 2) hx hb dL_law_470 (by decide) ?_
  refine lv_iadd hx hb dL_law_471 ?_
  refine va_sld hx hb hX hbl hbA hS (tw_sin2 hi hL) dL_law_472 ?_
  rw [e2]
  have hPc := hP.sub (ws' := (tw_wM mh ma0 ma1 ma2 ma3 km0 km1 km2 km3 fl th tm pr ag ck nx)) [5, 6, 7, 8, 9] rfl
  have hDc := hD.sub (ws' := (tw_wM mh ma0 ma1 ma2 ma3 km0 km1 km2 km3 fl th tm pr ag ck nx)) [5, 6, 7, 8, 9] (by decide) rfl
  have hKc := hK.sub (tys' := tw_k km0 km1 km2 km3) [4, 5, 6, 7] rfl
  have hFc := va_free (wc := (tw_wM mh ma0 ma1 ma2 ma3 km0 km1 km2 km3 fl th tm pr ag ck nx)) hD hS hA [5, 6, 7, 8, 9] rfl
  refine va_calll (va_runV (C := RM) (b := mh) (As := [.int j1, .int j2]) (rest := []) ⟨hx, hb, hml, hown, hT⟩ (cM_timerB l dC dI mh ma0 ma1 ma2 ma3 km0 km1 km2 km3 fl th tm pr ag ck nx H.size j1 j2 hbad) (cwV 2 hT (tw_gV tt_283 tt_284 tt_285 tt_2 tt_286) rfl rfl rfl ⟨rfl, by decide +kernel⟩ ⟨Nat.le_of_ble_eq_true rfl, Nat.le_of_ble_eq_true rfl⟩) ⟨fun a U g mk q => by obtain ⟨q0, q1, qP, qK, qD⟩ := q; exact ⟨q0, q1, qP, va_K.moved (u := U) (U := U.calling g mk a) (Vm.Alike.refl U.vm) qK, qD⟩, va_recv (q0 := 0) (ci := 1) hKc hPc rfl rfl, fun U hU hW => ⟨rfl, by rw [hU], by rw [hU]; exact hPc, va_K.moved hW.alike hKc, hDc.weaken (fun _ _ _ _ => trivial)⟩⟩ rfl rfl hl.1 rfl (lv_room (Nat.le_of_ble_eq_true rfl)) dL_law_473 hc) hS (fun q _ h => hFc q h) hFc (fun r9 u9 t9 H1 locs ht9 hvm9 hw9 hB9 hz9 hk9 hS => ?_)
  obtain ⟨hP1, hD1⟩ := hB9
  rw [ht9] at hP1
  have hw9 : r9 = 0 := hw9
  subst r9
  obtain ⟨hP, hD⟩ := va_join (wr := [(xh, .inr (0, [.ref xa0, .ref xa1, .ref xa2, .ref xa3, .long ck, .int nx])), (xa0, .inl (kx0, 100, .inl th)), (xa1, .inl (kx1, 100, .inr (.inl tm))), (xa2, .inl (kx2, 100, .inl pr)), (xa3, .inl (kx3, 100, .inl ag)), (ao, .inl (k4, 1, .inr (.inl ou)))]) (w1 := (tw_wM mh ma0 ma1 ma2 ma3 km0 km1 km2 km3 1 th tm pr ag ck nx)) hP hD [5, 6, 7, 8, 9] [0, 1, 2, 3, 4, 10] rfl rfl (by decide) (by decide) hk9 hFc hP1 hD1
  generalize H1 = H at hP hS ⊢
  have hP := hP.sub (ws' := [(xh, .inr (0, [.ref xa0, .ref xa1, .ref xa2, .ref xa3, .long ck, .int nx])), (xa0, .inl (kx0, 100, .inl th)), (xa1, .inl (kx1, 100, .inr (.inl tm))), (xa2, .inl (kx2, 100, .inl pr)), (xa3, .inl (kx3, 100, .inl ag)), (mh, .inr (1, [.int 1, .ref ma0, .ref ma1, .ref ma2, .ref ma3, .int nx, .long ck])), (ma0, .inl (km0, 100, .inl th)), (ma1, .inl (km1, 100, .inr (.inl tm))), (ma2, .inl (km2, 100, .inl pr)), (ma3, .inl (km3, 100, .inl ag)), (ao, .inl (k4, 1, .inr (.inl ou)))]) [0, 1, 2, 3, 4, 6, 7, 8, 9, 10, 5] rfl
  have hD := hD.sub (ws' := [(xh, .inr (0, [.ref xa0, .ref xa1, .ref xa2, .ref xa3, .long ck, .int nx])), (xa0, .inl (kx0, 100, .inl th)), (xa1, .inl (kx1, 100, .inr (.inl tm))), (xa2, .inl (kx2, 100, .inl pr)), (xa3, .inl (kx3, 100, .inl ag)), (mh, .inr (1, [.int 1, .ref ma0, .ref ma1, .ref ma2, .ref ma3, .int nx, .long ck])), (ma0, .inl (km0, 100, .inl th)), (ma1, .inl (km1, 100, .inr (.inl tm))), (ma2, .inl (km2, 100, .inl pr)), (ma3, .inl (km3, 100, .inl ag)), (ao, .inl (k4, 1, .inr (.inl ou)))]) [0, 1, 2, 3, 4, 6, 7, 8, 9, 10, 5] (by decide) rfl
  refine lv_lstore hx hb dL_law_476 hl (by decide) rfl (fun ls hl => ?_)
  have hl : lv_has ls 8 [(6, .long 0), (5, .int 1), (4, .int (nI i)), (0, .ref b), (1, .ref xh), (2, .ref mh), (3, .ref ao)] := hl
  refine lv_aload_n hx hb dL_law_478 rfl (lv_at hl 5 rfl) ?_
  have hPc := hP.sub (ws' := (tw_wM mh ma0 ma1 ma2 ma3 km0 km1 km2 km3 1 th tm pr ag ck nx)) [5, 6, 7, 8, 9] rfl
  have hKc := hK.sub (tys' := tw_k km0 km1 km2 km3) [4, 5, 6, 7] rfl
  refine vp_callSi (W.runV (C := RM) (b := mh) (As := []) (rest := []) ⟨hx, hb, hml, hown, hT⟩ (cM_thrown l dC dI mh ma0 ma1 ma2 ma3 km0 km1 km2 km3 1 th tm pr ag ck nx) (cwV 0 hT (tw_gV tt_239 tt_240 tt_241 tt_2 tt_242) rfl rfl rfl ⟨rfl, by decide +kernel⟩ ⟨Nat.le_of_ble_eq_true rfl, Nat.le_of_ble_eq_true rfl⟩) ⟨fun a U g mk q => ⟨q.1, q.2.1, va_K.moved (u := U) (U := U.calling g mk a) (Vm.Alike.refl U.vm) q.2.2⟩, va_recv (q0 := 0) (ci := 1) hKc hPc rfl rfl, fun U hU hW => ⟨rfl, by rw [hU]; exact hPc, va_K.moved hW.alike hKc⟩⟩ rfl rfl hl.1 rfl (lv_room (Nat.le_of_ble_eq_true rfl)) dL_law_479 hc) (fun r8 h8 => ?_)
  subst r8
  refine lv_iload hx hb dL_law_482 (lv_at hl 1 rfl) ?_
  refine lv_icmp_eq (tgt := 489) hx hb dL_law_484 (by decide) (fun hc1 => ?_) (fun hc1 => absurd (rfl : (1 : Int32) = 1) hc1)
  refine lv_iload hx hb dL_law_489 (lv_at hl 1 rfl) ?_
  refine lv_if_ne (tgt := 505) hx hb dL_law_491 (by decide) (fun hc2 => ?_) (fun hc2 => absurd hc2 (by decide))
  refine lv_goto (tgt := 563) hx hb dL_law_505 (by decide) ?_
  exact kk 1 th tm pr ag ck nx ou H _ ls hI hP hD hS (lv_sub hl [2, 3, 4, 5, 6] rfl)
end LLtimerB
section LLcount0
variable {p : Program} {l : Launch} {e : Env} {s : State} {m : MethodId} {below : List Frame} {meth : Method} {c : Code} {H : Heap} {locs : List Loc} {cells slots : Nat} {Q : State → Prop} {ls : Array Slot} {b L i : Nat} {xs : Nat → Int32}
variable {dC : Nat → ClassId} {dI : Nat → Nat → Nat} {xh xa0 xa1 xa2 xa3 : Nat} {kx0 kx1 kx2 kx3 : ClassId} {mh ma0 ma1 ma2 ma3 : Nat} {km0 km1 km2 km3 : ClassId} {ao : Nat} {k4 : ClassId} {fl : Int32} {th : Nat → Int32} {tm : Nat → Int64} {pr ag : Nat → Int32} {ck : Int64} {nx : Int32} {ou : Nat → Int64}
set_option maxHeartbeats 4000000 in
set_option maxRecDepth 100000 in
theorem ll_count0 (hx : p.tables.exec = Jvm.exec) (hb : c.code = bL_law) (hml : c.maxLocals = 8) (hT : ∀ w ∈ tw_T, w.before #[Value.ref b] s = true) (hown : s.vm.findClass RL = some m.cls) (hfl : l.flags = pinnedFlags ++ [noTraceFlag]) (hX : va_X b L xs s s.heap) (hbl : b < s.heap.size) (hZ : tw_Z s s.heap) (hNc : va_Nc tw_nse tw_iae s) (hL : L ≤ 2560) (hi : i + 5 ≤ L) (hc : cells + 1 ≤ 1044 ∧ slots + 6 ≤ 9060) (hI : tw_Inv tm ck) (hP : va_P (dC, dI) tw_cl (tw_wL xh xa0 xa1 xa2 xa3 kx0 kx1 kx2 kx3 mh ma0 ma1 ma2 ma3 km0 km1 km2 km3 ao k4 fl th tm pr ag ck nx ou) H) (hD : va_D (tw_AL s) (tw_wL xh xa0 xa1 xa2 xa3 kx0 kx1 kx2 kx3 mh ma0 ma1 ma2 ma3 km0 km1 km2 km3 ao k4 fl th tm pr ag ck nx ou)) (hK : va_K (dC, dI) tw_cl (tw_kL kx0 kx1 kx2 kx3 km0 km1 km2 km3 k4) s) (hS : va_S (tw_AL s) s.heap H locs) (hl : lv_has ls 8 [(4, .int (nI i)), (0, .ref b), (1, .ref xh), (2, .ref mh), (3, .ref ao)]) (e1 : xs (nI i + 1).toNatClampNeg = 0) (kk : ∀ (fl' : Int32) (th' : Nat → Int32) (tm' : Nat → Int64) (pr' ag' : Nat → Int32) (ck' : Int64) (nx' : Int32) (ou' : Nat → Int64) (H' : Heap) (locs' : List Loc) (ls' : Array Slot), tw_Inv tm' ck' → va_P (dC, dI) tw_cl (tw_wL xh xa0 xa1 xa2 xa3 kx0 kx1 kx2 kx3 mh ma0 ma1 ma2 ma3 km0 km1 km2 km3 ao k4 fl' (th') (tm') (pr') (ag') (ck') (nx') (ou')) H' → va_D (tw_AL s) (tw_wL xh xa0 xa1 xa2 xa3 kx0 kx1 kx2 kx3 mh ma0 ma1 ma2 ma3 km0 km1 km2 km3 ao k4 (fl') (th') (tm') (pr') (ag') (ck') (nx') (ou')) → va_S (tw_AL s) s.heap H' locs' → lv_has ls' 8 [(4, .int (nI i)), (0, .ref b), (1, .ref xh), (2, .ref mh), (3, .ref ao)] → W p l e room_1 s m #[Value.ref b] below meth c H' locs' (cells + 1) (slots + 6) Q (F0 m 563 ls' [])) : W p l e room_1 s m #[Value.ref b] below meth c H locs cells slots Q (F0 m 508 ls []) := by
  have hA : ∀ q : Nat, s.heap.size ≤ q → tw_AL s q := fun q h => h
  have hbA : ¬ tw_AL s b := Nat.not_le.mpr hbl
  refine lv_aload_n hx hb dL_law_508 rfl (lv_at hl 2 rfl) ?_
  refine lv_aload_n hx hb dL_law_509 rfl (lv_at hl 1 rfl) ?_
  refine lv_iload hx hb dL_law_510 (lv_at hl 0 rfl) ?_
  refine lv_iconst (v := 1) hx hb dL_law_512 (by decide) ?_
  refine lv_iadd hx hb dL_law_513 ?_
  refine va_sld hx hb hX hbl hbA hS (tw_sin1 hi hL) dL_law_514 ?_
  rw [e1]
  refine lv_aload_n hx hb dL_law_515 rfl (lv_at hl 4 rfl) ?_
  have hPc := hP.sub (ws' := (tw_wH xh xa0 xa1 xa2 xa3 kx0 kx1 kx2 kx3 th tm pr ag ck nx ao k4 ou)) [0, 1, 2, 3, 4, 10] rfl
  have hDc := hD.sub (ws' := (tw_wH xh xa0 xa1 xa2 xa3 kx0 kx1 kx2 kx3 th tm pr ag ck nx ao k4 ou)) [0, 1, 2, 3, 4, 10] (by decide) rfl
  have hKc := hK.sub (tys' := tw_kH kx0 kx1 kx2 kx3 k4) [0, 1, 2, 3, 8] rfl
  have hFc := va_free (wc := (tw_wH xh xa0 xa1 xa2 xa3 kx0 kx1 kx2 kx3 th tm pr ag ck nx ao k4 ou)) hD hS hA [0, 1, 2, 3, 4, 10] rfl
  refine va_calli (xt_runSW (n := 3) (As := [.ref xh, .int 0, .ref ao]) (rest := []) ⟨hx, hb, hml, hown, hT⟩ (cL_count0 l dC dI xh xa0 xa1 xa2 xa3 kx0 kx1 kx2 kx3 th tm pr ag ck nx ao k4 ou H.size ) rfl (tw_gS tt_199 tt_200 tt_0 tt_201) rfl rfl ⟨rfl, by decide +kernel⟩ ⟨Nat.le_of_ble_eq_true rfl, Nat.le_of_ble_eq_true rfl⟩ ⟨fun a U g mk q => by obtain ⟨q0, q1, qP, qK, qD⟩ := q; exact ⟨q0, q1, qP, va_K.moved (u := U) (U := U.calling g mk a) (Vm.Alike.refl U.vm) qK, qD⟩, fun U hU hW => ⟨rfl, by rw [hU], by rw [hU]; exact hPc, va_K.moved hW.alike hKc, hDc.weaken (fun _ _ _ _ => trivial)⟩⟩ rfl rfl hl.1 rfl (lv_room (Nat.le_of_ble_eq_true rfl)) dL_law_516 ⟨Nat.le_trans (Nat.le_succ _) hc.1, Nat.le_trans (Nat.le_add_right _ 6) hc.2⟩) hS (fun q _ h => hFc q h) hFc (fun r9 u9 t9 H1 locs ht9 hvm9 hw9 hB9 hz9 hk9 hS => ?_)
  obtain ⟨hP1, hD1⟩ := hB9
  rw [ht9] at hP1
  have hw9 : r9 = 0 := hw9
  subst r9
  obtain ⟨hP, hD⟩ := va_join (wr := (tw_wM mh ma0 ma1 ma2 ma3 km0 km1 km2 km3 fl th tm pr ag ck nx)) (w1 := (tw_wH xh xa0 xa1 xa2 xa3 kx0 kx1 kx2 kx3 th tm pr ag ck nx ao k4 (vp_updL ou (0 : Int32).toNatClampNeg ck))) hP hD [0, 1, 2, 3, 4, 10] [5, 6, 7, 8, 9] rfl rfl (by decide) (by decide) hk9 hFc hP1 hD1
  generalize H1 = H at hP hS ⊢
  have hP := hP.sub (ws' := [(xh, .inr (0, [.ref xa0, .ref xa1, .ref xa2, .ref xa3, .long ck, .int nx])), (xa0, .inl (kx0, 100, .inl th)), (xa1, .inl (kx1, 100, .inr (.inl tm))), (xa2, .inl (kx2, 100, .inl pr)), (xa3, .inl (kx3, 100, .inl ag)), (mh, .inr (1, [.int fl, .ref ma0, .ref ma1, .ref ma2, .ref ma3, .int nx, .long ck])), (ma0, .inl (km0, 100, .inl th)), (ma1, .inl (km1, 100, .inr (.inl tm))), (ma2, .inl (km2, 100, .inl pr)), (ma3, .inl (km3, 100, .inl ag)), (ao, .inl (k4, 1, .inr (.inl (vp_updL ou (0 : Int32).toNatClampNeg ck))))]) [5, 6, 7, 8, 9, 0, 1, 2, 3, 4, 10] rfl
  have hD := hD.sub (ws' := [(xh, .inr (0, [.ref xa0, .ref xa1, .ref xa2, .ref xa3, .long ck, .int nx])), (xa0, .inl (kx0, 100, .inl th)), (xa1, .inl (kx1, 100, .inr (.inl tm))), (xa2, .inl (kx2, 100, .inl pr)), (xa3, .inl (kx3, 100, .inl ag)), (mh, .inr (1, [.int fl, .ref ma0, .ref ma1, .ref ma2, .ref ma3, .int nx, .long ck])), (ma0, .inl (km0, 100, .inl th)), (ma1, .inl (km1, 100, .inr (.inl tm))), (ma2, .inl (km2, 100, .inl pr)), (ma3, .inl (km3, 100, .inl ag)), (ao, .inl (k4, 1, .inr (.inl (vp_updL ou (0 : Int32).toNatClampNeg ck))))]) [5, 6, 7, 8, 9, 0, 1, 2, 3, 4, 10] (by decide) rfl
  refine lv_istore hx hb dL_law_519 hl (by decide) rfl (fun ls hl => ?_)
  have hl : lv_has ls 8 [(5, .int 0), (4, .int (nI i)), (0, .ref b), (1, .ref xh), (2, .ref mh), (3, .ref ao)] := hl
  refine lv_aload_n hx hb dL_law_521 rfl (lv_at hl 4 rfl) ?_
  refine lv_aload_n hx hb dL_law_522 rfl (lv_at hl 2 rfl) ?_
  refine lv_iload hx hb dL_law_523 (lv_at hl 1 rfl) ?_
  refine lv_iconst (v := 1) hx hb dL_law_525 (by decide) ?_
  refine lv_iadd hx hb dL_law_526 ?_
  refine va_sld hx hb hX hbl hbA hS (tw_sin1 hi hL) dL_law_527 ?_
  rw [e1]
  have hPc := hP.sub (ws' := (tw_wM mh ma0 ma1 ma2 ma3 km0 km1 km2 km3 fl th tm pr ag ck nx)) [5, 6, 7, 8, 9] rfl
  have hDc := hD.sub (ws' := (tw_wM mh ma0 ma1 ma2 ma3 km0 km1 km2 km3 fl th tm pr ag ck nx)) [5, 6, 7, 8, 9] (by decide) rfl
  have hKc := hK.sub (tys' := tw_k km0 km1 km2 km3) [4, 5, 6, 7] rfl
  have hFc := va_free (wc := (tw_wM mh ma0 ma1 ma2 ma3 km0 km1 km2 km3 fl th tm pr ag ck nx)) hD hS hA [5, 6, 7, 8, 9] rfl
  refine va_calll (va_runV (C := RM) (b := mh) (As := [.int 0]) (rest := []) ⟨hx, hb, hml, hown, hT⟩ (cM_count0 l dC dI mh ma0 ma1 ma2 ma3 km0 km1 km2 km3 fl th tm pr ag ck nx H.size ) (cwV 1 hT (tw_gV tt_288 tt_289 tt_290 tt_2 tt_291) rfl rfl rfl ⟨rfl, by decide +kernel⟩ ⟨Nat.le_of_ble_eq_true rfl, Nat.le_of_ble_eq_true rfl⟩) ⟨fun a U g mk q => by obtain ⟨q0, q1, qP, qK, qD⟩ := q; exact ⟨q0, q1, qP, va_K.moved (u := U) (U := U.calling g mk a) (Vm.Alike.refl U.vm) qK, qD⟩, va_recv (q0 := 0) (ci := 1) hKc hPc rfl rfl, fun U hU hW => ⟨rfl, by rw [hU], by rw [hU]; exact hPc, va_K.moved hW.alike hKc, hDc.weaken (fun _ _ _ _ => trivial)⟩⟩ rfl rfl hl.1 rfl (lv_room (Nat.le_of_ble_eq_true rfl)) dL_law_528 ⟨Nat.le_trans (Nat.le_succ _) hc.1, Nat.le_trans (Nat.le_add_right _ 6) hc.2⟩) hS (fun q _ h => hFc q h) hFc (fun r9 u9 t9 H1 locs ht9 hvm9 hw9 hB9 hz9 hk9 hS => ?_)
  obtain ⟨hP1, hD1⟩ := hB9
  rw [ht9] at hP1
  have hw9 : r9 = ck := hw9
  subst r9
  obtain ⟨hP, hD⟩ := va_join (wr := [(xh, .inr (0, [.ref xa0, .ref xa1, .ref xa2, .ref xa3, .long ck, .int nx])), (xa0, .inl (kx0, 100, .inl th)), (xa1, .inl (kx1, 100, .inr (.inl tm))), (xa2, .inl (kx2, 100, .inl pr)), (xa3, .inl (kx3, 100, .inl ag)), (ao, .inl (k4, 1, .inr (.inl (vp_updL ou (0 : Int32).toNatClampNeg ck))))]) (w1 := (tw_wM mh ma0 ma1 ma2 ma3 km0 km1 km2 km3 0 th tm pr ag ck nx)) hP hD [5, 6, 7, 8, 9] [0, 1, 2, 3, 4, 10] rfl rfl (by decide) (by decide) hk9 hFc hP1 hD1
  generalize H1 = H at hP hS ⊢
  have hP := hP.sub (ws' := [(xh, .inr (0, [.ref xa0, .ref xa1, .ref xa2, .ref xa3, .long ck, .int nx])), (xa0, .inl (kx0, 100, .inl th)), (xa1, .inl (kx1, 100, .inr (.inl tm))), (xa2, .inl (kx2, 100, .inl pr)), (xa3, .inl (kx3, 100, .inl ag)), (mh, .inr (1, [.int 0, .ref ma0, .ref ma1, .ref ma2, .ref ma3, .int nx, .long ck])), (ma0, .inl (km0, 100, .inl th)), (ma1, .inl (km1, 100, .inr (.inl tm))), (ma2, .inl (km2, 100, .inl pr)), (ma3, .inl (km3, 100, .inl ag)), (ao, .inl (k4, 1, .inr (.inl (vp_updL ou (0 : Int32).toNatClampNeg ck))))]) [0, 1, 2, 3, 4, 6, 7, 8, 9, 10, 5] rfl
  have hD := hD.sub (ws' := [(xh, .inr (0, [.ref xa0, .ref xa1, .ref xa2, .ref xa3, .long ck, .int nx])), (xa0, .inl (kx0, 100, .inl th)), (xa1, .inl (kx1, 100, .inr (.inl tm))), (xa2, .inl (kx2, 100, .inl pr)), (xa3, .inl (kx3, 100, .inl ag)), (mh, .inr (1, [.int 0, .ref ma0, .ref ma1, .ref ma2, .ref ma3, .int nx, .long ck])), (ma0, .inl (km0, 100, .inl th)), (ma1, .inl (km1, 100, .inr (.inl tm))), (ma2, .inl (km2, 100, .inl pr)), (ma3, .inl (km3, 100, .inl ag)), (ao, .inl (k4, 1, .inr (.inl (vp_updL ou (0 : Int32).toNatClampNeg ck))))]) [0, 1, 2, 3, 4, 6, 7, 8, 9, 10, 5] (by decide) rfl
  refine lv_lstore hx hb dL_law_531 hl (by decide) rfl (fun ls hl => ?_)
  have hl : lv_has ls 8 [(6, .long ck), (5, .int 0), (4, .int (nI i)), (0, .ref b), (1, .ref xh), (2, .ref mh), (3, .ref ao)] := hl
  refine lv_aload_n hx hb dL_law_533 rfl (lv_at hl 5 rfl) ?_
  have hPc := hP.sub (ws' := (tw_wM mh ma0 ma1 ma2 ma3 km0 km1 km2 km3 0 th tm pr ag ck nx)) [5, 6, 7, 8, 9] rfl
  have hKc := hK.sub (tys' := tw_k km0 km1 km2 km3) [4, 5, 6, 7] rfl
  refine vp_callSi (W.runV (C := RM) (b := mh) (As := []) (rest := []) ⟨hx, hb, hml, hown, hT⟩ (cM_thrown l dC dI mh ma0 ma1 ma2 ma3 km0 km1 km2 km3 0 th tm pr ag ck nx) (cwV 0 hT (tw_gV tt_239 tt_240 tt_241 tt_2 tt_242) rfl rfl rfl ⟨rfl, by decide +kernel⟩ ⟨Nat.le_of_ble_eq_true rfl, Nat.le_of_ble_eq_true rfl⟩) ⟨fun a U g mk q => ⟨q.1, q.2.1, va_K.moved (u := U) (U := U.calling g mk a) (Vm.Alike.refl U.vm) q.2.2⟩, va_recv (q0 := 0) (ci := 1) hKc hPc rfl rfl, fun U hU hW => ⟨rfl, by rw [hU]; exact hPc, va_K.moved hW.alike hKc⟩⟩ rfl rfl hl.1 rfl (lv_room (Nat.le_of_ble_eq_true rfl)) dL_law_534 ⟨Nat.le_trans (Nat.le_succ _) hc.1, Nat.le_trans (Nat.le_add_right _ 6) hc.2⟩) (fun r8 h8 => ?_)
  subst r8
  refine lv_iload hx hb dL_law_537 (lv_at hl 1 rfl) ?_
  refine lv_icmp_eq (tgt := 544) hx hb dL_law_539 (by decide) (fun hc1 => ?_) (fun hc1 => absurd (rfl : (0 : Int32) = 0) hc1)
  refine lv_iload hx hb dL_law_544 (lv_at hl 1 rfl) ?_
  refine lv_if_ne (tgt := 560) hx hb dL_law_546 (by decide) (fun hc2 => absurd rfl hc2) (fun hc2 => ?_)
  refine lv_aload_n hx hb dL_law_549 rfl (lv_at hl 6 rfl) ?_
  refine lv_iconst (v := 0) hx hb dL_law_550 (by decide) ?_
  refine va_lald hx hb hK hP 10 8 rfl rfl (by unfold vp_in; decide) dL_law_551 ?_
  refine lv_lload hx hb dL_law_552 (lv_at hl 0 rfl) ?_
  refine W.lcmp hx hb dL_law_554 ?_
  refine lv_if_eq (tgt := 560) hx hb dL_law_555 (by decide) (fun hc3 => ?_) (fun hc3 => absurd ((lg_cmp_eq _ _).mpr pk_uLs) hc3)
  refine lv_goto (tgt := 563) hx hb dL_law_560 (by decide) ?_
  refine W.widen (k := cells + 1) (n := slots + 6) (Nat.le_succ _) (Nat.le_add_right _ 6) ?_
  exact kk 0 th tm pr ag ck nx (vp_updL ou (0 : Int32).toNatClampNeg ck) H _ ls hI hP hD hS (lv_sub hl [2, 3, 4, 5, 6] rfl)
end LLcount0
section LLcount1
variable {p : Program} {l : Launch} {e : Env} {s : State} {m : MethodId} {below : List Frame} {meth : Method} {c : Code} {H : Heap} {locs : List Loc} {cells slots : Nat} {Q : State → Prop} {ls : Array Slot} {b L i : Nat} {xs : Nat → Int32}
variable {dC : Nat → ClassId} {dI : Nat → Nat → Nat} {xh xa0 xa1 xa2 xa3 : Nat} {kx0 kx1 kx2 kx3 : ClassId} {mh ma0 ma1 ma2 ma3 : Nat} {km0 km1 km2 km3 : ClassId} {ao : Nat} {k4 : ClassId} {fl : Int32} {th : Nat → Int32} {tm : Nat → Int64} {pr ag : Nat → Int32} {ck : Int64} {nx : Int32} {ou : Nat → Int64}
set_option maxHeartbeats 4000000 in
set_option maxRecDepth 100000 in
theorem ll_count1 (hx : p.tables.exec = Jvm.exec) (hb : c.code = bL_law) (hml : c.maxLocals = 8) (hT : ∀ w ∈ tw_T, w.before #[Value.ref b] s = true) (hown : s.vm.findClass RL = some m.cls) (hfl : l.flags = pinnedFlags ++ [noTraceFlag]) (hX : va_X b L xs s s.heap) (hbl : b < s.heap.size) (hZ : tw_Z s s.heap) (hNc : va_Nc tw_nse tw_iae s) (hL : L ≤ 2560) (hi : i + 5 ≤ L) (hc : cells + 1 ≤ 1044 ∧ slots + 6 ≤ 9060) (hI : tw_Inv tm ck) (hP : va_P (dC, dI) tw_cl (tw_wL xh xa0 xa1 xa2 xa3 kx0 kx1 kx2 kx3 mh ma0 ma1 ma2 ma3 km0 km1 km2 km3 ao k4 fl th tm pr ag ck nx ou) H) (hD : va_D (tw_AL s) (tw_wL xh xa0 xa1 xa2 xa3 kx0 kx1 kx2 kx3 mh ma0 ma1 ma2 ma3 km0 km1 km2 km3 ao k4 fl th tm pr ag ck nx ou)) (hK : va_K (dC, dI) tw_cl (tw_kL kx0 kx1 kx2 kx3 km0 km1 km2 km3 k4) s) (hS : va_S (tw_AL s) s.heap H locs) (hl : lv_has ls 8 [(4, .int (nI i)), (0, .ref b), (1, .ref xh), (2, .ref mh), (3, .ref ao)]) (e1 : xs (nI i + 1).toNatClampNeg = 1) (kk : ∀ (fl' : Int32) (th' : Nat → Int32) (tm' : Nat → Int64) (pr' ag' : Nat → Int32) (ck' : Int64) (nx' : Int32) (ou' : Nat → Int64) (H' : Heap) (locs' : List Loc) (ls' : Array Slot), tw_Inv tm' ck' → va_P (dC, dI) tw_cl (tw_wL xh xa0 xa1 xa2 xa3 kx0 kx1 kx2 kx3 mh ma0 ma1 ma2 ma3 km0 km1 km2 km3 ao k4 fl' (th') (tm') (pr') (ag') (ck') (nx') (ou')) H' → va_D (tw_AL s) (tw_wL xh xa0 xa1 xa2 xa3 kx0 kx1 kx2 kx3 mh ma0 ma1 ma2 ma3 km0 km1 km2 km3 ao k4 (fl') (th') (tm') (pr') (ag') (ck') (nx') (ou')) → va_S (tw_AL s) s.heap H' locs' → lv_has ls' 8 [(4, .int (nI i)), (0, .ref b), (1, .ref xh), (2, .ref mh), (3, .ref ao)] → W p l e room_1 s m #[Value.ref b] below meth c H' locs' (cells + 1) (slots + 6) Q (F0 m 563 ls' [])) : W p l e room_1 s m #[Value.ref b] below meth c H locs cells slots Q (F0 m 508 ls []) := by
  have hA : ∀ q : Nat, s.heap.size ≤ q → tw_AL s q := fun q h => h
  have hbA : ¬ tw_AL s b := Nat.not_le.mpr hbl
  refine lv_aload_n hx hb dL_law_508 rfl (lv_at hl 2 rfl) ?_
  refine lv_aload_n hx hb dL_law_509 rfl (lv_at hl 1 rfl) ?_
  refine lv_iload hx hb dL_law_510 (lv_at hl 0 rfl) ?_
  refine lv_iconst (v := 1) hx hb dL_law_512 (by decide) ?_
  refine lv_iadd hx hb dL_law_513 ?_
  refine va_sld hx hb hX hbl hbA hS (tw_sin1 hi hL) dL_law_514 ?_
  rw [e1]
  refine lv_aload_n hx hb dL_law_515 rfl (lv_at hl 4 rfl) ?_
  have hPc := hP.sub (ws' := (tw_wH xh xa0 xa1 xa2 xa3 kx0 kx1 kx2 kx3 th tm pr ag ck nx ao k4 ou)) [0, 1, 2, 3, 4, 10] rfl
  have hDc := hD.sub (ws' := (tw_wH xh xa0 xa1 xa2 xa3 kx0 kx1 kx2 kx3 th tm pr ag ck nx ao k4 ou)) [0, 1, 2, 3, 4, 10] (by decide) rfl
  have hKc := hK.sub (tys' := tw_kH kx0 kx1 kx2 kx3 k4) [0, 1, 2, 3, 8] rfl
  have hFc := va_free (wc := (tw_wH xh xa0 xa1 xa2 xa3 kx0 kx1 kx2 kx3 th tm pr ag ck nx ao k4 ou)) hD hS hA [0, 1, 2, 3, 4, 10] rfl
  refine va_calli (xt_runSW (n := 3) (As := [.ref xh, .int 1, .ref ao]) (rest := []) ⟨hx, hb, hml, hown, hT⟩ (cL_count1 l dC dI xh xa0 xa1 xa2 xa3 kx0 kx1 kx2 kx3 th tm pr ag ck nx ao k4 ou H.size ) rfl (tw_gS tt_199 tt_200 tt_0 tt_201) rfl rfl ⟨rfl, by decide +kernel⟩ ⟨Nat.le_of_ble_eq_true rfl, Nat.le_of_ble_eq_true rfl⟩ ⟨fun a U g mk q => by obtain ⟨q0, q1, qP, qK, qD⟩ := q; exact ⟨q0, q1, qP, va_K.moved (u := U) (U := U.calling g mk a) (Vm.Alike.refl U.vm) qK, qD⟩, fun U hU hW => ⟨rfl, by rw [hU], by rw [hU]; exact hPc, va_K.moved hW.alike hKc, hDc.weaken (fun _ _ _ _ => trivial)⟩⟩ rfl rfl hl.1 rfl (lv_room (Nat.le_of_ble_eq_true rfl)) dL_law_516 ⟨Nat.le_trans (Nat.le_succ _) hc.1, Nat.le_trans (Nat.le_add_right _ 6) hc.2⟩) hS (fun q _ h => hFc q h) hFc (fun r9 u9 t9 H1 locs ht9 hvm9 hw9 hB9 hz9 hk9 hS => ?_)
  obtain ⟨hP1, hD1⟩ := hB9
  rw [ht9] at hP1
  have hw9 : r9 = 0 := hw9
  subst r9
  obtain ⟨hP, hD⟩ := va_join (wr := (tw_wM mh ma0 ma1 ma2 ma3 km0 km1 km2 km3 fl th tm pr ag ck nx)) (w1 := (tw_wH xh xa0 xa1 xa2 xa3 kx0 kx1 kx2 kx3 th tm pr ag ck nx ao k4 (vp_updL ou (0 : Int32).toNatClampNeg ((tw_ther th 100).toInt64)))) hP hD [0, 1, 2, 3, 4, 10] [5, 6, 7, 8, 9] rfl rfl (by decide) (by decide) hk9 hFc hP1 hD1
  generalize H1 = H at hP hS ⊢
  have hP := hP.sub (ws' := [(xh, .inr (0, [.ref xa0, .ref xa1, .ref xa2, .ref xa3, .long ck, .int nx])), (xa0, .inl (kx0, 100, .inl th)), (xa1, .inl (kx1, 100, .inr (.inl tm))), (xa2, .inl (kx2, 100, .inl pr)), (xa3, .inl (kx3, 100, .inl ag)), (mh, .inr (1, [.int fl, .ref ma0, .ref ma1, .ref ma2, .ref ma3, .int nx, .long ck])), (ma0, .inl (km0, 100, .inl th)), (ma1, .inl (km1, 100, .inr (.inl tm))), (ma2, .inl (km2, 100, .inl pr)), (ma3, .inl (km3, 100, .inl ag)), (ao, .inl (k4, 1, .inr (.inl (vp_updL ou (0 : Int32).toNatClampNeg ((tw_ther th 100).toInt64)))))]) [5, 6, 7, 8, 9, 0, 1, 2, 3, 4, 10] rfl
  have hD := hD.sub (ws' := [(xh, .inr (0, [.ref xa0, .ref xa1, .ref xa2, .ref xa3, .long ck, .int nx])), (xa0, .inl (kx0, 100, .inl th)), (xa1, .inl (kx1, 100, .inr (.inl tm))), (xa2, .inl (kx2, 100, .inl pr)), (xa3, .inl (kx3, 100, .inl ag)), (mh, .inr (1, [.int fl, .ref ma0, .ref ma1, .ref ma2, .ref ma3, .int nx, .long ck])), (ma0, .inl (km0, 100, .inl th)), (ma1, .inl (km1, 100, .inr (.inl tm))), (ma2, .inl (km2, 100, .inl pr)), (ma3, .inl (km3, 100, .inl ag)), (ao, .inl (k4, 1, .inr (.inl (vp_updL ou (0 : Int32).toNatClampNeg ((tw_ther th 100).toInt64)))))]) [5, 6, 7, 8, 9, 0, 1, 2, 3, 4, 10] (by decide) rfl
  refine lv_istore hx hb dL_law_519 hl (by decide) rfl (fun ls hl => ?_)
  have hl : lv_has ls 8 [(5, .int 0), (4, .int (nI i)), (0, .ref b), (1, .ref xh), (2, .ref mh), (3, .ref ao)] := hl
  refine lv_aload_n hx hb dL_law_521 rfl (lv_at hl 4 rfl) ?_
  refine lv_aload_n hx hb dL_law_522 rfl (lv_at hl 2 rfl) ?_
  refine lv_iload hx hb dL_law_523 (lv_at hl 1 rfl) ?_
  refine lv_iconst (v := 1) hx hb dL_law_525 (by decide) ?_
  refine lv_iadd hx hb dL_law_526 ?_
  refine va_sld hx hb hX hbl hbA hS (tw_sin1 hi hL) dL_law_527 ?_
  rw [e1]
  have hPc := hP.sub (ws' := (tw_wM mh ma0 ma1 ma2 ma3 km0 km1 km2 km3 fl th tm pr ag ck nx)) [5, 6, 7, 8, 9] rfl
  have hDc := hD.sub (ws' := (tw_wM mh ma0 ma1 ma2 ma3 km0 km1 km2 km3 fl th tm pr ag ck nx)) [5, 6, 7, 8, 9] (by decide) rfl
  have hKc := hK.sub (tys' := tw_k km0 km1 km2 km3) [4, 5, 6, 7] rfl
  have hFc := va_free (wc := (tw_wM mh ma0 ma1 ma2 ma3 km0 km1 km2 km3 fl th tm pr ag ck nx)) hD hS hA [5, 6, 7, 8, 9] rfl
  refine va_calll (va_runV (C := RM) (b := mh) (As := [.int 1]) (rest := []) ⟨hx, hb, hml, hown, hT⟩ (cM_count1 l dC dI mh ma0 ma1 ma2 ma3 km0 km1 km2 km3 fl th tm pr ag ck nx H.size ) (cwV 1 hT (tw_gV tt_288 tt_289 tt_290 tt_2 tt_291) rfl rfl rfl ⟨rfl, by decide +kernel⟩ ⟨Nat.le_of_ble_eq_true rfl, Nat.le_of_ble_eq_true rfl⟩) ⟨fun a U g mk q => by obtain ⟨q0, q1, qP, qK, qD⟩ := q; exact ⟨q0, q1, qP, va_K.moved (u := U) (U := U.calling g mk a) (Vm.Alike.refl U.vm) qK, qD⟩, va_recv (q0 := 0) (ci := 1) hKc hPc rfl rfl, fun U hU hW => ⟨rfl, by rw [hU], by rw [hU]; exact hPc, va_K.moved hW.alike hKc, hDc.weaken (fun _ _ _ _ => trivial)⟩⟩ rfl rfl hl.1 rfl (lv_room (Nat.le_of_ble_eq_true rfl)) dL_law_528 ⟨Nat.le_trans (Nat.le_succ _) hc.1, Nat.le_trans (Nat.le_add_right _ 6) hc.2⟩) hS (fun q _ h => hFc q h) hFc (fun r9 u9 t9 H1 locs ht9 hvm9 hw9 hB9 hz9 hk9 hS => ?_)
  obtain ⟨hP1, hD1⟩ := hB9
  rw [ht9] at hP1
  have hw9 : r9 = (tw_ther th 100).toInt64 := hw9
  subst r9
  obtain ⟨hP, hD⟩ := va_join (wr := [(xh, .inr (0, [.ref xa0, .ref xa1, .ref xa2, .ref xa3, .long ck, .int nx])), (xa0, .inl (kx0, 100, .inl th)), (xa1, .inl (kx1, 100, .inr (.inl tm))), (xa2, .inl (kx2, 100, .inl pr)), (xa3, .inl (kx3, 100, .inl ag)), (ao, .inl (k4, 1, .inr (.inl (vp_updL ou (0 : Int32).toNatClampNeg ((tw_ther th 100).toInt64)))))]) (w1 := (tw_wM mh ma0 ma1 ma2 ma3 km0 km1 km2 km3 0 th tm pr ag ck nx)) hP hD [5, 6, 7, 8, 9] [0, 1, 2, 3, 4, 10] rfl rfl (by decide) (by decide) hk9 hFc hP1 hD1
  generalize H1 = H at hP hS ⊢
  have hP := hP.sub (ws' := [(xh, .inr (0, [.ref xa0, .ref xa1, .ref xa2, .ref xa3, .long ck, .int nx])), (xa0, .inl (kx0, 100, .inl th)), (xa1, .inl (kx1, 100, .inr (.inl tm))), (xa2, .inl (kx2, 100, .inl pr)), (xa3, .inl (kx3, 100, .inl ag)), (mh, .inr (1, [.int 0, .ref ma0, .ref ma1, .ref ma2, .ref ma3, .int nx, .long ck])), (ma0, .inl (km0, 100, .inl th)), (ma1, .inl (km1, 100, .inr (.inl tm))), (ma2, .inl (km2, 100, .inl pr)), (ma3, .inl (km3, 100, .inl ag)), (ao, .inl (k4, 1, .inr (.inl (vp_updL ou (0 : Int32).toNatClampNeg ((tw_ther th 100).toInt64)))))]) [0, 1, 2, 3, 4, 6, 7, 8, 9, 10, 5] rfl
  have hD := hD.sub (ws' := [(xh, .inr (0, [.ref xa0, .ref xa1, .ref xa2, .ref xa3, .long ck, .int nx])), (xa0, .inl (kx0, 100, .inl th)), (xa1, .inl (kx1, 100, .inr (.inl tm))), (xa2, .inl (kx2, 100, .inl pr)), (xa3, .inl (kx3, 100, .inl ag)), (mh, .inr (1, [.int 0, .ref ma0, .ref ma1, .ref ma2, .ref ma3, .int nx, .long ck])), (ma0, .inl (km0, 100, .inl th)), (ma1, .inl (km1, 100, .inr (.inl tm))), (ma2, .inl (km2, 100, .inl pr)), (ma3, .inl (km3, 100, .inl ag)), (ao, .inl (k4, 1, .inr (.inl (vp_updL ou (0 : Int32).toNatClampNeg ((tw_ther th 100).toInt64)))))]) [0, 1, 2, 3, 4, 6, 7, 8, 9, 10, 5] (by decide) rfl
  refine lv_lstore hx hb dL_law_531 hl (by decide) rfl (fun ls hl => ?_)
  have hl : lv_has ls 8 [(6, .long ((tw_ther th 100).toInt64)), (5, .int 0), (4, .int (nI i)), (0, .ref b), (1, .ref xh), (2, .ref mh), (3, .ref ao)] := hl
  refine lv_aload_n hx hb dL_law_533 rfl (lv_at hl 5 rfl) ?_
  have hPc := hP.sub (ws' := (tw_wM mh ma0 ma1 ma2 ma3 km0 km1 km2 km3 0 th tm pr ag ck nx)) [5, 6, 7, 8, 9] rfl
  have hKc := hK.sub (tys' := tw_k km0 km1 km2 km3) [4, 5, 6, 7] rfl
  refine vp_callSi (W.runV (C := RM) (b := mh) (As := []) (rest := []) ⟨hx, hb, hml, hown, hT⟩ (cM_thrown l dC dI mh ma0 ma1 ma2 ma3 km0 km1 km2 km3 0 th tm pr ag ck nx) (cwV 0 hT (tw_gV tt_239 tt_240 tt_241 tt_2 tt_242) rfl rfl rfl ⟨rfl, by decide +kernel⟩ ⟨Nat.le_of_ble_eq_true rfl, Nat.le_of_ble_eq_true rfl⟩) ⟨fun a U g mk q => ⟨q.1, q.2.1, va_K.moved (u := U) (U := U.calling g mk a) (Vm.Alike.refl U.vm) q.2.2⟩, va_recv (q0 := 0) (ci := 1) hKc hPc rfl rfl, fun U hU hW => ⟨rfl, by rw [hU]; exact hPc, va_K.moved hW.alike hKc⟩⟩ rfl rfl hl.1 rfl (lv_room (Nat.le_of_ble_eq_true rfl)) dL_law_534 ⟨Nat.le_trans (Nat.le_succ _) hc.1, Nat.le_trans (Nat.le_add_right _ 6) hc.2⟩) (fun r8 h8 => ?_)
  subst r8
  refine lv_iload hx hb dL_law_537 (lv_at hl 1 rfl) ?_
  refine lv_icmp_eq (tgt := 544) hx hb dL_law_539 (by decide) (fun hc1 => ?_) (fun hc1 => absurd (rfl : (0 : Int32) = 0) hc1)
  refine lv_iload hx hb dL_law_544 (lv_at hl 1 rfl) ?_
  refine lv_if_ne (tgt := 560) hx hb dL_law_546 (by decide) (fun hc2 => absurd rfl hc2) (fun hc2 => ?_)
  refine lv_aload_n hx hb dL_law_549 rfl (lv_at hl 6 rfl) ?_
  refine lv_iconst (v := 0) hx hb dL_law_550 (by decide) ?_
  refine va_lald hx hb hK hP 10 8 rfl rfl (by unfold vp_in; decide) dL_law_551 ?_
  refine lv_lload hx hb dL_law_552 (lv_at hl 0 rfl) ?_
  refine W.lcmp hx hb dL_law_554 ?_
  refine lv_if_eq (tgt := 560) hx hb dL_law_555 (by decide) (fun hc3 => ?_) (fun hc3 => absurd ((lg_cmp_eq _ _).mpr pk_uLs) hc3)
  refine lv_goto (tgt := 563) hx hb dL_law_560 (by decide) ?_
  refine W.widen (k := cells + 1) (n := slots + 6) (Nat.le_succ _) (Nat.le_add_right _ 6) ?_
  exact kk 0 th tm pr ag ck nx (vp_updL ou (0 : Int32).toNatClampNeg ((tw_ther th 100).toInt64)) H _ ls hI hP hD hS (lv_sub hl [2, 3, 4, 5, 6] rfl)
end LLcount1
section LLcount2
variable {p : Program} {l : Launch} {e : Env} {s : State} {m : MethodId} {below : List Frame} {meth : Method} {c : Code} {H : Heap} {locs : List Loc} {cells slots : Nat} {Q : State → Prop} {ls : Array Slot} {b L i : Nat} {xs : Nat → Int32}
variable {dC : Nat → ClassId} {dI : Nat → Nat → Nat} {xh xa0 xa1 xa2 xa3 : Nat} {kx0 kx1 kx2 kx3 : ClassId} {mh ma0 ma1 ma2 ma3 : Nat} {km0 km1 km2 km3 : ClassId} {ao : Nat} {k4 : ClassId} {fl : Int32} {th : Nat → Int32} {tm : Nat → Int64} {pr ag : Nat → Int32} {ck : Int64} {nx : Int32} {ou : Nat → Int64}
set_option maxHeartbeats 4000000 in
set_option maxRecDepth 100000 in
theorem ll_count2 (hx : p.tables.exec = Jvm.exec) (hb : c.code = bL_law) (hml : c.maxLocals = 8) (hT : ∀ w ∈ tw_T, w.before #[Value.ref b] s = true) (hown : s.vm.findClass RL = some m.cls) (hfl : l.flags = pinnedFlags ++ [noTraceFlag]) (hX : va_X b L xs s s.heap) (hbl : b < s.heap.size) (hZ : tw_Z s s.heap) (hNc : va_Nc tw_nse tw_iae s) (hL : L ≤ 2560) (hi : i + 5 ≤ L) (hc : cells + 1 ≤ 1044 ∧ slots + 6 ≤ 9060) (hI : tw_Inv tm ck) (hP : va_P (dC, dI) tw_cl (tw_wL xh xa0 xa1 xa2 xa3 kx0 kx1 kx2 kx3 mh ma0 ma1 ma2 ma3 km0 km1 km2 km3 ao k4 fl th tm pr ag ck nx ou) H) (hD : va_D (tw_AL s) (tw_wL xh xa0 xa1 xa2 xa3 kx0 kx1 kx2 kx3 mh ma0 ma1 ma2 ma3 km0 km1 km2 km3 ao k4 fl th tm pr ag ck nx ou)) (hK : va_K (dC, dI) tw_cl (tw_kL kx0 kx1 kx2 kx3 km0 km1 km2 km3 k4) s) (hS : va_S (tw_AL s) s.heap H locs) (hl : lv_has ls 8 [(4, .int (nI i)), (0, .ref b), (1, .ref xh), (2, .ref mh), (3, .ref ao)]) (e1 : xs (nI i + 1).toNatClampNeg = 2) (kk : ∀ (fl' : Int32) (th' : Nat → Int32) (tm' : Nat → Int64) (pr' ag' : Nat → Int32) (ck' : Int64) (nx' : Int32) (ou' : Nat → Int64) (H' : Heap) (locs' : List Loc) (ls' : Array Slot), tw_Inv tm' ck' → va_P (dC, dI) tw_cl (tw_wL xh xa0 xa1 xa2 xa3 kx0 kx1 kx2 kx3 mh ma0 ma1 ma2 ma3 km0 km1 km2 km3 ao k4 fl' (th') (tm') (pr') (ag') (ck') (nx') (ou')) H' → va_D (tw_AL s) (tw_wL xh xa0 xa1 xa2 xa3 kx0 kx1 kx2 kx3 mh ma0 ma1 ma2 ma3 km0 km1 km2 km3 ao k4 (fl') (th') (tm') (pr') (ag') (ck') (nx') (ou')) → va_S (tw_AL s) s.heap H' locs' → lv_has ls' 8 [(4, .int (nI i)), (0, .ref b), (1, .ref xh), (2, .ref mh), (3, .ref ao)] → W p l e room_1 s m #[Value.ref b] below meth c H' locs' (cells + 1) (slots + 6) Q (F0 m 563 ls' [])) : W p l e room_1 s m #[Value.ref b] below meth c H locs cells slots Q (F0 m 508 ls []) := by
  have hA : ∀ q : Nat, s.heap.size ≤ q → tw_AL s q := fun q h => h
  have hbA : ¬ tw_AL s b := Nat.not_le.mpr hbl
  refine lv_aload_n hx hb dL_law_508 rfl (lv_at hl 2 rfl) ?_
  refine lv_aload_n hx hb dL_law_509 rfl (lv_at hl 1 rfl) ?_
  refine lv_iload hx hb dL_law_510 (lv_at hl 0 rfl) ?_
  refine lv_iconst (v := 1) hx hb dL_law_512 (by decide) ?_
  refine lv_iadd hx hb dL_law_513 ?_
  refine va_sld hx hb hX hbl hbA hS (tw_sin1 hi hL) dL_law_514 ?_
  rw [e1]
  refine lv_aload_n hx hb dL_law_515 rfl (lv_at hl 4 rfl) ?_
  have hPc := hP.sub (ws' := (tw_wH xh xa0 xa1 xa2 xa3 kx0 kx1 kx2 kx3 th tm pr ag ck nx ao k4 ou)) [0, 1, 2, 3, 4, 10] rfl
  have hDc := hD.sub (ws' := (tw_wH xh xa0 xa1 xa2 xa3 kx0 kx1 kx2 kx3 th tm pr ag ck nx ao k4 ou)) [0, 1, 2, 3, 4, 10] (by decide) rfl
  have hKc := hK.sub (tys' := tw_kH kx0 kx1 kx2 kx3 k4) [0, 1, 2, 3, 8] rfl
  have hFc := va_free (wc := (tw_wH xh xa0 xa1 xa2 xa3 kx0 kx1 kx2 kx3 th tm pr ag ck nx ao k4 ou)) hD hS hA [0, 1, 2, 3, 4, 10] rfl
  refine va_calli (xt_runSW (n := 3) (As := [.ref xh, .int 2, .ref ao]) (rest := []) ⟨hx, hb, hml, hown, hT⟩ (cL_count2 l dC dI xh xa0 xa1 xa2 xa3 kx0 kx1 kx2 kx3 th tm pr ag ck nx ao k4 ou H.size ) rfl (tw_gS tt_199 tt_200 tt_0 tt_201) rfl rfl ⟨rfl, by decide +kernel⟩ ⟨Nat.le_of_ble_eq_true rfl, Nat.le_of_ble_eq_true rfl⟩ ⟨fun a U g mk q => by obtain ⟨q0, q1, qP, qK, qD⟩ := q; exact ⟨q0, q1, qP, va_K.moved (u := U) (U := U.calling g mk a) (Vm.Alike.refl U.vm) qK, qD⟩, fun U hU hW => ⟨rfl, by rw [hU], by rw [hU]; exact hPc, va_K.moved hW.alike hKc, hDc.weaken (fun _ _ _ _ => trivial)⟩⟩ rfl rfl hl.1 rfl (lv_room (Nat.le_of_ble_eq_true rfl)) dL_law_516 ⟨Nat.le_trans (Nat.le_succ _) hc.1, Nat.le_trans (Nat.le_add_right _ 6) hc.2⟩) hS (fun q _ h => hFc q h) hFc (fun r9 u9 t9 H1 locs ht9 hvm9 hw9 hB9 hz9 hk9 hS => ?_)
  obtain ⟨hP1, hD1⟩ := hB9
  rw [ht9] at hP1
  have hw9 : r9 = 0 := hw9
  subst r9
  obtain ⟨hP, hD⟩ := va_join (wr := (tw_wM mh ma0 ma1 ma2 ma3 km0 km1 km2 km3 fl th tm pr ag ck nx)) (w1 := (tw_wH xh xa0 xa1 xa2 xa3 kx0 kx1 kx2 kx3 th tm pr ag ck nx ao k4 (vp_updL ou (0 : Int32).toNatClampNeg ((tw_dues th tm ck 100).toInt64)))) hP hD [0, 1, 2, 3, 4, 10] [5, 6, 7, 8, 9] rfl rfl (by decide) (by decide) hk9 hFc hP1 hD1
  generalize H1 = H at hP hS ⊢
  have hP := hP.sub (ws' := [(xh, .inr (0, [.ref xa0, .ref xa1, .ref xa2, .ref xa3, .long ck, .int nx])), (xa0, .inl (kx0, 100, .inl th)), (xa1, .inl (kx1, 100, .inr (.inl tm))), (xa2, .inl (kx2, 100, .inl pr)), (xa3, .inl (kx3, 100, .inl ag)), (mh, .inr (1, [.int fl, .ref ma0, .ref ma1, .ref ma2, .ref ma3, .int nx, .long ck])), (ma0, .inl (km0, 100, .inl th)), (ma1, .inl (km1, 100, .inr (.inl tm))), (ma2, .inl (km2, 100, .inl pr)), (ma3, .inl (km3, 100, .inl ag)), (ao, .inl (k4, 1, .inr (.inl (vp_updL ou (0 : Int32).toNatClampNeg ((tw_dues th tm ck 100).toInt64)))))]) [5, 6, 7, 8, 9, 0, 1, 2, 3, 4, 10] rfl
  have hD := hD.sub (ws' := [(xh, .inr (0, [.ref xa0, .ref xa1, .ref xa2, .ref xa3, .long ck, .int nx])), (xa0, .inl (kx0, 100, .inl th)), (xa1, .inl (kx1, 100, .inr (.inl tm))), (xa2, .inl (kx2, 100, .inl pr)), (xa3, .inl (kx3, 100, .inl ag)), (mh, .inr (1, [.int fl, .ref ma0, .ref ma1, .ref ma2, .ref ma3, .int nx, .long ck])), (ma0, .inl (km0, 100, .inl th)), (ma1, .inl (km1, 100, .inr (.inl tm))), (ma2, .inl (km2, 100, .inl pr)), (ma3, .inl (km3, 100, .inl ag)), (ao, .inl (k4, 1, .inr (.inl (vp_updL ou (0 : Int32).toNatClampNeg ((tw_dues th tm ck 100).toInt64)))))]) [5, 6, 7, 8, 9, 0, 1, 2, 3, 4, 10] (by decide) rfl
  refine lv_istore hx hb dL_law_519 hl (by decide) rfl (fun ls hl => ?_)
  have hl : lv_has ls 8 [(5, .int 0), (4, .int (nI i)), (0, .ref b), (1, .ref xh), (2, .ref mh), (3, .ref ao)] := hl
  refine lv_aload_n hx hb dL_law_521 rfl (lv_at hl 4 rfl) ?_
  refine lv_aload_n hx hb dL_law_522 rfl (lv_at hl 2 rfl) ?_
  refine lv_iload hx hb dL_law_523 (lv_at hl 1 rfl) ?_
  refine lv_iconst (v := 1) hx hb dL_law_525 (by decide) ?_
  refine lv_iadd hx hb dL_law_526 ?_
  refine va_sld hx hb hX hbl hbA hS (tw_sin1 hi hL) dL_law_527 ?_
  rw [e1]
  have hPc := hP.sub (ws' := (tw_wM mh ma0 ma1 ma2 ma3 km0 km1 km2 km3 fl th tm pr ag ck nx)) [5, 6, 7, 8, 9] rfl
  have hDc := hD.sub (ws' := (tw_wM mh ma0 ma1 ma2 ma3 km0 km1 km2 km3 fl th tm pr ag ck nx)) [5, 6, 7, 8, 9] (by decide) rfl
  have hKc := hK.sub (tys' := tw_k km0 km1 km2 km3) [4, 5, 6, 7] rfl
  have hFc := va_free (wc := (tw_wM mh ma0 ma1 ma2 ma3 km0 km1 km2 km3 fl th tm pr ag ck nx)) hD hS hA [5, 6, 7, 8, 9] rfl
  refine va_calll (va_runV (C := RM) (b := mh) (As := [.int 2]) (rest := []) ⟨hx, hb, hml, hown, hT⟩ (cM_count2 l dC dI mh ma0 ma1 ma2 ma3 km0 km1 km2 km3 fl th tm pr ag ck nx H.size ) (cwV 1 hT (tw_gV tt_288 tt_289 tt_290 tt_2 tt_291) rfl rfl rfl ⟨rfl, by decide +kernel⟩ ⟨Nat.le_of_ble_eq_true rfl, Nat.le_of_ble_eq_true rfl⟩) ⟨fun a U g mk q => by obtain ⟨q0, q1, qP, qK, qD⟩ := q; exact ⟨q0, q1, qP, va_K.moved (u := U) (U := U.calling g mk a) (Vm.Alike.refl U.vm) qK, qD⟩, va_recv (q0 := 0) (ci := 1) hKc hPc rfl rfl, fun U hU hW => ⟨rfl, by rw [hU], by rw [hU]; exact hPc, va_K.moved hW.alike hKc, hDc.weaken (fun _ _ _ _ => trivial)⟩⟩ rfl rfl hl.1 rfl (lv_room (Nat.le_of_ble_eq_true rfl)) dL_law_528 ⟨Nat.le_trans (Nat.le_succ _) hc.1, Nat.le_trans (Nat.le_add_right _ 6) hc.2⟩) hS (fun q _ h => hFc q h) hFc (fun r9 u9 t9 H1 locs ht9 hvm9 hw9 hB9 hz9 hk9 hS => ?_)
  obtain ⟨hP1, hD1⟩ := hB9
  rw [ht9] at hP1
  have hw9 : r9 = (tw_dues th tm ck 100).toInt64 := hw9
  subst r9
  obtain ⟨hP, hD⟩ := va_join (wr := [(xh, .inr (0, [.ref xa0, .ref xa1, .ref xa2, .ref xa3, .long ck, .int nx])), (xa0, .inl (kx0, 100, .inl th)), (xa1, .inl (kx1, 100, .inr (.inl tm))), (xa2, .inl (kx2, 100, .inl pr)), (xa3, .inl (kx3, 100, .inl ag)), (ao, .inl (k4, 1, .inr (.inl (vp_updL ou (0 : Int32).toNatClampNeg ((tw_dues th tm ck 100).toInt64)))))]) (w1 := (tw_wM mh ma0 ma1 ma2 ma3 km0 km1 km2 km3 0 th tm pr ag ck nx)) hP hD [5, 6, 7, 8, 9] [0, 1, 2, 3, 4, 10] rfl rfl (by decide) (by decide) hk9 hFc hP1 hD1
  generalize H1 = H at hP hS ⊢
  have hP := hP.sub (ws' := [(xh, .inr (0, [.ref xa0, .ref xa1, .ref xa2, .ref xa3, .long ck, .int nx])), (xa0, .inl (kx0, 100, .inl th)), (xa1, .inl (kx1, 100, .inr (.inl tm))), (xa2, .inl (kx2, 100, .inl pr)), (xa3, .inl (kx3, 100, .inl ag)), (mh, .inr (1, [.int 0, .ref ma0, .ref ma1, .ref ma2, .ref ma3, .int nx, .long ck])), (ma0, .inl (km0, 100, .inl th)), (ma1, .inl (km1, 100, .inr (.inl tm))), (ma2, .inl (km2, 100, .inl pr)), (ma3, .inl (km3, 100, .inl ag)), (ao, .inl (k4, 1, .inr (.inl (vp_updL ou (0 : Int32).toNatClampNeg ((tw_dues th tm ck 100).toInt64)))))]) [0, 1, 2, 3, 4, 6, 7, 8, 9, 10, 5] rfl
  have hD := hD.sub (ws' := [(xh, .inr (0, [.ref xa0, .ref xa1, .ref xa2, .ref xa3, .long ck, .int nx])), (xa0, .inl (kx0, 100, .inl th)), (xa1, .inl (kx1, 100, .inr (.inl tm))), (xa2, .inl (kx2, 100, .inl pr)), (xa3, .inl (kx3, 100, .inl ag)), (mh, .inr (1, [.int 0, .ref ma0, .ref ma1, .ref ma2, .ref ma3, .int nx, .long ck])), (ma0, .inl (km0, 100, .inl th)), (ma1, .inl (km1, 100, .inr (.inl tm))), (ma2, .inl (km2, 100, .inl pr)), (ma3, .inl (km3, 100, .inl ag)), (ao, .inl (k4, 1, .inr (.inl (vp_updL ou (0 : Int32).toNatClampNeg ((tw_dues th tm ck 100).toInt64)))))]) [0, 1, 2, 3, 4, 6, 7, 8, 9, 10, 5] (by decide) rfl
  refine lv_lstore hx hb dL_law_531 hl (by decide) rfl (fun ls hl => ?_)
  have hl : lv_has ls 8 [(6, .long ((tw_dues th tm ck 100).toInt64)), (5, .int 0), (4, .int (nI i)), (0, .ref b), (1, .ref xh), (2, .ref mh), (3, .ref ao)] := hl
  refine lv_aload_n hx hb dL_law_533 rfl (lv_at hl 5 rfl) ?_
  have hPc := hP.sub (ws' := (tw_wM mh ma0 ma1 ma2 ma3 km0 km1 km2 km3 0 th tm pr ag ck nx)) [5, 6, 7, 8, 9] rfl
  have hKc := hK.sub (tys' := tw_k km0 km1 km2 km3) [4, 5, 6, 7] rfl
  refine vp_callSi (W.runV (C := RM) (b := mh) (As := []) (rest := []) ⟨hx, hb, hml, hown, hT⟩ (cM_thrown l dC dI mh ma0 ma1 ma2 ma3 km0 km1 km2 km3 0 th tm pr ag ck nx) (cwV 0 hT (tw_gV tt_239 tt_240 tt_241 tt_2 tt_242) rfl rfl rfl ⟨rfl, by decide +kernel⟩ ⟨Nat.le_of_ble_eq_true rfl, Nat.le_of_ble_eq_true rfl⟩) ⟨fun a U g mk q => ⟨q.1, q.2.1, va_K.moved (u := U) (U := U.calling g mk a) (Vm.Alike.refl U.vm) q.2.2⟩, va_recv (q0 := 0) (ci := 1) hKc hPc rfl rfl, fun U hU hW => ⟨rfl, by rw [hU]; exact hPc, va_K.moved hW.alike hKc⟩⟩ rfl rfl hl.1 rfl (lv_room (Nat.le_of_ble_eq_true rfl)) dL_law_534 ⟨Nat.le_trans (Nat.le_succ _) hc.1, Nat.le_trans (Nat.le_add_right _ 6) hc.2⟩) (fun r8 h8 => ?_)
  subst r8
  refine lv_iload hx hb dL_law_537 (lv_at hl 1 rfl) ?_
  refine lv_icmp_eq (tgt := 544) hx hb dL_law_539 (by decide) (fun hc1 => ?_) (fun hc1 => absurd (rfl : (0 : Int32) = 0) hc1)
  refine lv_iload hx hb dL_law_544 (lv_at hl 1 rfl) ?_
  refine lv_if_ne (tgt := 560) hx hb dL_law_546 (by decide) (fun hc2 => absurd rfl hc2) (fun hc2 => ?_)
  refine lv_aload_n hx hb dL_law_549 rfl (lv_at hl 6 rfl) ?_
  refine lv_iconst (v := 0) hx hb dL_law_550 (by decide) ?_
  refine va_lald hx hb hK hP 10 8 rfl rfl (by unfold vp_in; decide) dL_law_551 ?_
  refine lv_lload hx hb dL_law_552 (lv_at hl 0 rfl) ?_
  refine W.lcmp hx hb dL_law_554 ?_
  refine lv_if_eq (tgt := 560) hx hb dL_law_555 (by decide) (fun hc3 => ?_) (fun hc3 => absurd ((lg_cmp_eq _ _).mpr pk_uLs) hc3)
  refine lv_goto (tgt := 563) hx hb dL_law_560 (by decide) ?_
  refine W.widen (k := cells + 1) (n := slots + 6) (Nat.le_succ _) (Nat.le_add_right _ 6) ?_
  exact kk 0 th tm pr ag ck nx (vp_updL ou (0 : Int32).toNatClampNeg ((tw_dues th tm ck 100).toInt64)) H _ ls hI hP hD hS (lv_sub hl [2, 3, 4, 5, 6] rfl)
end LLcount2
section LLcountB
variable {p : Program} {l : Launch} {e : Env} {s : State} {m : MethodId} {below : List Frame} {meth : Method} {c : Code} {H : Heap} {locs : List Loc} {cells slots : Nat} {Q : State → Prop} {ls : Array Slot} {b L i : Nat} {xs : Nat → Int32}
variable {dC : Nat → ClassId} {dI : Nat → Nat → Nat} {xh xa0 xa1 xa2 xa3 : Nat} {kx0 kx1 kx2 kx3 : ClassId} {mh ma0 ma1 ma2 ma3 : Nat} {km0 km1 km2 km3 : ClassId} {ao : Nat} {k4 : ClassId} {fl : Int32} {th : Nat → Int32} {tm : Nat → Int64} {pr ag : Nat → Int32} {ck : Int64} {nx : Int32} {ou : Nat → Int64}
set_option maxHeartbeats 4000000 in
set_option maxRecDepth 100000 in
theorem ll_countB (hx : p.tables.exec = Jvm.exec) (hb : c.code = bL_law) (hml : c.maxLocals = 8) (hT : ∀ w ∈ tw_T, w.before #[Value.ref b] s = true) (hown : s.vm.findClass RL = some m.cls) (hfl : l.flags = pinnedFlags ++ [noTraceFlag]) (hX : va_X b L xs s s.heap) (hbl : b < s.heap.size) (hZ : tw_Z s s.heap) (hNc : va_Nc tw_nse tw_iae s) (hL : L ≤ 2560) (hi : i + 5 ≤ L) (hc : cells + 1 ≤ 1044 ∧ slots + 6 ≤ 9060) (hI : tw_Inv tm ck) (hP : va_P (dC, dI) tw_cl (tw_wL xh xa0 xa1 xa2 xa3 kx0 kx1 kx2 kx3 mh ma0 ma1 ma2 ma3 km0 km1 km2 km3 ao k4 fl th tm pr ag ck nx ou) H) (hD : va_D (tw_AL s) (tw_wL xh xa0 xa1 xa2 xa3 kx0 kx1 kx2 kx3 mh ma0 ma1 ma2 ma3 km0 km1 km2 km3 ao k4 fl th tm pr ag ck nx ou)) (hK : va_K (dC, dI) tw_cl (tw_kL kx0 kx1 kx2 kx3 km0 km1 km2 km3 k4) s) (hS : va_S (tw_AL s) s.heap H locs) (hl : lv_has ls 8 [(4, .int (nI i)), (0, .ref b), (1, .ref xh), (2, .ref mh), (3, .ref ao)]) {j1 : Int32} (e1 : xs (nI i + 1).toNatClampNeg = j1) (hbad : j1.toInt < 0 ∨ 2 < j1.toInt) (kk : ∀ (fl' : Int32) (th' : Nat → Int32) (tm' : Nat → Int64) (pr' ag' : Nat → Int32) (ck' : Int64) (nx' : Int32) (ou' : Nat → Int64) (H' : Heap) (locs' : List Loc) (ls' : Array Slot), tw_Inv tm' ck' → va_P (dC, dI) tw_cl (tw_wL xh xa0 xa1 xa2 xa3 kx0 kx1 kx2 kx3 mh ma0 ma1 ma2 ma3 km0 km1 km2 km3 ao k4 fl' (th') (tm') (pr') (ag') (ck') (nx') (ou')) H' → va_D (tw_AL s) (tw_wL xh xa0 xa1 xa2 xa3 kx0 kx1 kx2 kx3 mh ma0 ma1 ma2 ma3 km0 km1 km2 km3 ao k4 (fl') (th') (tm') (pr') (ag') (ck') (nx') (ou')) → va_S (tw_AL s) s.heap H' locs' → lv_has ls' 8 [(4, .int (nI i)), (0, .ref b), (1, .ref xh), (2, .ref mh), (3, .ref ao)] → W p l e room_1 s m #[Value.ref b] below meth c H' locs' (cells + 1) (slots + 6) Q (F0 m 563 ls' [])) : W p l e room_1 s m #[Value.ref b] below meth c H locs cells slots Q (F0 m 508 ls []) := by
  have hA : ∀ q : Nat, s.heap.size ≤ q → tw_AL s q := fun q h => h
  have hbA : ¬ tw_AL s b := Nat.not_le.mpr hbl
  refine lv_aload_n hx hb dL_law_508 rfl (lv_at hl 2 rfl) ?_
  refine lv_aload_n hx hb dL_law_509 rfl (lv_at hl 1 rfl) ?_
  refine lv_iload hx hb dL_law_510 (lv_at hl 0 rfl) ?_
  refine lv_iconst (v := 1) hx hb dL_law_512 (by decide) ?_
  refine lv_iadd hx hb dL_law_513 ?_
  refine va_sld hx hb hX hbl hbA hS (tw_sin1 hi hL) dL_law_514 ?_
  rw [e1]
  refine lv_aload_n hx hb dL_law_515 rfl (lv_at hl 4 rfl) ?_
  have hPc := hP.sub (ws' := (tw_wH xh xa0 xa1 xa2 xa3 kx0 kx1 kx2 kx3 th tm pr ag ck nx ao k4 ou)) [0, 1, 2, 3, 4, 10] rfl
  have hDc := hD.sub (ws' := (tw_wH xh xa0 xa1 xa2 xa3 kx0 kx1 kx2 kx3 th tm pr ag ck nx ao k4 ou)) [0, 1, 2, 3, 4, 10] (by decide) rfl
  have hKc := hK.sub (tys' := tw_kH kx0 kx1 kx2 kx3 k4) [0, 1, 2, 3, 8] rfl
  have hFc := va_free (wc := (tw_wH xh xa0 xa1 xa2 xa3 kx0 kx1 kx2 kx3 th tm pr ag ck nx ao k4 ou)) hD hS hA [0, 1, 2, 3, 4, 10] rfl
  have hZH : ∀ U : State, U.heap = H → s.WarmedH U.vm → tw_Z U U.heap := fun U hU hW => by rw [hU]; exact hZ.move hW (fun a ha => hS.2.1 a ha (Nat.not_le.mpr ha))
  refine va_calli (xt_runSW (n := 3) (As := [.ref xh, .int j1, .ref ao]) (rest := []) ⟨hx, hb, hml, hown, hT⟩ (cL_countB l hfl dC dI xh xa0 xa1 xa2 xa3 kx0 kx1 kx2 kx3 th tm pr ag ck nx ao k4 ou H.size j1 hbad) rfl (tw_gS tt_199 tt_200 tt_0 tt_201) rfl rfl ⟨rfl, by decide +kernel⟩ ⟨Nat.le_of_ble_eq_true rfl, Nat.le_of_ble_eq_true rfl⟩ ⟨fun a U g mk q => by obtain ⟨q0, q1, qP, qK, qD, qZ⟩ := q; exact ⟨q0, q1, qP, va_K.moved (u := U) (U := U.calling g mk a) (Vm.Alike.refl U.vm) qK, qD, qZ.call⟩, fun U hU hW => ⟨rfl, by rw [hU], by rw [hU]; exact hPc, va_K.moved hW.alike hKc, hDc.weaken (fun _ _ _ _ => trivial), hZH U hU hW⟩⟩ rfl rfl hl.1 rfl (lv_room (Nat.le_of_ble_eq_true rfl)) dL_law_516 hc) hS (fun q _ h => hFc q h) hFc (fun r9 u9 t9 H1 locs ht9 hvm9 hw9 hB9 hz9 hk9 hS => ?_)
  obtain ⟨hP1, hD1⟩ := hB9
  rw [ht9] at hP1
  have hw9 : r9 = 1 := hw9
  subst r9
  obtain ⟨hP, hD⟩ := va_join (wr := (tw_wM mh ma0 ma1 ma2 ma3 km0 km1 km2 km3 fl th tm pr ag ck nx)) (w1 := (tw_wH xh xa0 xa1 xa2 xa3 kx0 kx1 kx2 kx3 th tm pr ag ck nx ao k4 ou)) hP hD [0, 1, 2, 3, 4, 10] [5, 6, 7, 8, 9] rfl rfl (by decide) (by decide) hk9 hFc hP1 hD1
  generalize H1 = H at hP hS ⊢
  have hP := hP.sub (ws' := [(xh, .inr (0, [.ref xa0, .ref xa1, .ref xa2, .ref xa3, .long ck, .int nx])), (xa0, .inl (kx0, 100, .inl th)), (xa1, .inl (kx1, 100, .inr (.inl tm))), (xa2, .inl (kx2, 100, .inl pr)), (xa3, .inl (kx3, 100, .inl ag)), (mh, .inr (1, [.int fl, .ref ma0, .ref ma1, .ref ma2, .ref ma3, .int nx, .long ck])), (ma0, .inl (km0, 100, .inl th)), (ma1, .inl (km1, 100, .inr (.inl tm))), (ma2, .inl (km2, 100, .inl pr)), (ma3, .inl (km3, 100, .inl ag)), (ao, .inl (k4, 1, .inr (.inl ou)))]) [5, 6, 7, 8, 9, 0, 1, 2, 3, 4, 10] rfl
  have hD := hD.sub (ws' := [(xh, .inr (0, [.ref xa0, .ref xa1, .ref xa2, .ref xa3, .long ck, .int nx])), (xa0, .inl (kx0, 100, .inl th)), (xa1, .inl (kx1, 100, .inr (.inl tm))), (xa2, .inl (kx2, 100, .inl pr)), (xa3, .inl (kx3, 100, .inl ag)), (mh, .inr (1, [.int fl, .ref ma0, .ref ma1, .ref ma2, .ref ma3, .int nx, .long ck])), (ma0, .inl (km0, 100, .inl th)), (ma1, .inl (km1, 100, .inr (.inl tm))), (ma2, .inl (km2, 100, .inl pr)), (ma3, .inl (km3, 100, .inl ag)), (ao, .inl (k4, 1, .inr (.inl ou)))]) [5, 6, 7, 8, 9, 0, 1, 2, 3, 4, 10] (by decide) rfl
  refine lv_istore hx hb dL_law_519 hl (by decide) rfl (fun ls hl => ?_)
  have hl : lv_has ls 8 [(5, .int 1), (4, .int (nI i)), (0, .ref b), (1, .ref xh), (2, .ref mh), (3, .ref ao)] := hl
  refine lv_aload_n hx hb dL_law_521 rfl (lv_at hl 4 rfl) ?_
  refine lv_aload_n hx hb dL_law_522 rfl (lv_at hl 2 rfl) ?_
  refine lv_iload hx hb dL_law_523 (lv_at hl 1 rfl) ?_
  refine lv_iconst (v := 1) hx hb dL_law_525 (by decide) ?_
  refine lv_iadd hx hb dL_law_526 ?_
  refine va_sld hx hb hX hbl hbA hS (tw_sin1 hi hL) dL_law_527 ?_
  rw [e1]
  have hPc := hP.sub (ws' := (tw_wM mh ma0 ma1 ma2 ma3 km0 km1 km2 km3 fl th tm pr ag ck nx)) [5, 6, 7, 8, 9] rfl
  have hDc := hD.sub (ws' := (tw_wM mh ma0 ma1 ma2 ma3 km0 km1 km2 km3 fl th tm pr ag ck nx)) [5, 6, 7, 8, 9] (by decide) rfl
  have hKc := hK.sub (tys' := tw_k km0 km1 km2 km3) [4, 5, 6, 7] rfl
  have hFc := va_free (wc := (tw_wM mh ma0 ma1 ma2 ma3 km0 km1 km2 km3 fl th tm pr ag ck nx)) hD hS hA [5, 6, 7, 8, 9] rfl
  refine va_calll (va_runV (C := RM) (b := mh) (As := [.int j1]) (rest := []) ⟨hx, hb, hml, hown, hT⟩ (cM_countB l dC dI mh ma0 ma1 ma2 ma3 km0 km1 km2 km3 fl th tm pr ag ck nx H.size j1 hbad) (cwV 1 hT (tw_gV tt_288 tt_289 tt_290 tt_2 tt_291) rfl rfl rfl ⟨rfl, by decide +kernel⟩ ⟨Nat.le_of_ble_eq_true rfl, Nat.le_of_ble_eq_true rfl⟩) ⟨fun a U g mk q => by obtain ⟨q0, q1, qP, qK, qD⟩ := q; exact ⟨q0, q1, qP, va_K.moved (u := U) (U := U.calling g mk a) (Vm.Alike.refl U.vm) qK, qD⟩, va_recv (q0 := 0) (ci := 1) hKc hPc rfl rfl, fun U hU hW => ⟨rfl, by rw [hU], by rw [hU]; exact hPc, va_K.moved hW.alike hKc, hDc.weaken (fun _ _ _ _ => trivial)⟩⟩ rfl rfl hl.1 rfl (lv_room (Nat.le_of_ble_eq_true rfl)) dL_law_528 hc) hS (fun q _ h => hFc q h) hFc (fun r9 u9 t9 H1 locs ht9 hvm9 hw9 hB9 hz9 hk9 hS => ?_)
  obtain ⟨hP1, hD1⟩ := hB9
  rw [ht9] at hP1
  have hw9 : r9 = 0 := hw9
  subst r9
  obtain ⟨hP, hD⟩ := va_join (wr := [(xh, .inr (0, [.ref xa0, .ref xa1, .ref xa2, .ref xa3, .long ck, .int nx])), (xa0, .inl (kx0, 100, .inl th)), (xa1, .inl (kx1, 100, .inr (.inl tm))), (xa2, .inl (kx2, 100, .inl pr)), (xa3, .inl (kx3, 100, .inl ag)), (ao, .inl (k4, 1, .inr (.inl ou)))]) (w1 := (tw_wM mh ma0 ma1 ma2 ma3 km0 km1 km2 km3 1 th tm pr ag ck nx)) hP hD [5, 6, 7, 8, 9] [0, 1, 2, 3, 4, 10] rfl rfl (by decide) (by decide) hk9 hFc hP1 hD1
  generalize H1 = H at hP hS ⊢
  have hP := hP.sub (ws' := [(xh, .inr (0, [.ref xa0, .ref xa1, .ref xa2, .ref xa3, .long ck, .int nx])), (xa0, .inl (kx0, 100, .inl th)), (xa1, .inl (kx1, 100, .inr (.inl tm))), (xa2, .inl (kx2, 100, .inl pr)), (xa3, .inl (kx3, 100, .inl ag)), (mh, .inr (1, [.int 1, .ref ma0, .ref ma1, .ref ma2, .ref ma3, .int nx, .long ck])), (ma0, .inl (km0, 100, .inl th)), (ma1, .inl (km1, 100, .inr (.inl tm))), (ma2, .inl (km2, 100, .inl pr)), (ma3, .inl (km3, 100, .inl ag)), (ao, .inl (k4, 1, .inr (.inl ou)))]) [0, 1, 2, 3, 4, 6, 7, 8, 9, 10, 5] rfl
  have hD := hD.sub (ws' := [(xh, .inr (0, [.ref xa0, .ref xa1, .ref xa2, .ref xa3, .long ck, .int nx])), (xa0, .inl (kx0, 100, .inl th)), (xa1, .inl (kx1, 100, .inr (.inl tm))), (xa2, .inl (kx2, 100, .inl pr)), (xa3, .inl (kx3, 100, .inl ag)), (mh, .inr (1, [.int 1, .ref ma0, .ref ma1, .ref ma2, .ref ma3, .int nx, .long ck])), (ma0, .inl (km0, 100, .inl th)), (ma1, .inl (km1, 100, .inr (.inl tm))), (ma2, .inl (km2, 100, .inl pr)), (ma3, .inl (km3, 100, .inl ag)), (ao, .inl (k4, 1, .inr (.inl ou)))]) [0, 1, 2, 3, 4, 6, 7, 8, 9, 10, 5] (by decide) rfl
  refine lv_lstore hx hb dL_law_531 hl (by decide) rfl (fun ls hl => ?_)
  have hl : lv_has ls 8 [(6, .long 0), (5, .int 1), (4, .int (nI i)), (0, .ref b), (1, .ref xh), (2, .ref mh), (3, .ref ao)] := hl
  refine lv_aload_n hx hb dL_law_533 rfl (lv_at hl 5 rfl) ?_
  have hPc := hP.sub (ws' := (tw_wM mh ma0 ma1 ma2 ma3 km0 km1 km2 km3 1 th tm pr ag ck nx)) [5, 6, 7, 8, 9] rfl
  have hKc := hK.sub (tys' := tw_k km0 km1 km2 km3) [4, 5, 6, 7] rfl
  refine vp_callSi (W.runV (C := RM) (b := mh) (As := []) (rest := []) ⟨hx, hb, hml, hown, hT⟩ (cM_thrown l dC dI mh ma0 ma1 ma2 ma3 km0 km1 km2 km3 1 th tm pr ag ck nx) (cwV 0 hT (tw_gV tt_239 tt_240 tt_241 tt_2 tt_242) rfl rfl rfl ⟨rfl, by decide +kernel⟩ ⟨Nat.le_of_ble_eq_true rfl, Nat.le_of_ble_eq_true rfl⟩) ⟨fun a U g mk q => ⟨q.1, q.2.1, va_K.moved (u := U) (U := U.calling g mk a) (Vm.Alike.refl U.vm) q.2.2⟩, va_recv (q0 := 0) (ci := 1) hKc hPc rfl rfl, fun U hU hW => ⟨rfl, by rw [hU]; exact hPc, va_K.moved hW.alike hKc⟩⟩ rfl rfl hl.1 rfl (lv_room (Nat.le_of_ble_eq_true rfl)) dL_law_534 hc) (fun r8 h8 => ?_)
  subst r8
  refine lv_iload hx hb dL_law_537 (lv_at hl 1 rfl) ?_
  refine lv_icmp_eq (tgt := 544) hx hb dL_law_539 (by decide) (fun hc1 => ?_) (fun hc1 => absurd (rfl : (1 : Int32) = 1) hc1)
  refine lv_iload hx hb dL_law_544 (lv_at hl 1 rfl) ?_
  refine lv_if_ne (tgt := 560) hx hb dL_law_546 (by decide) (fun hc2 => ?_) (fun hc2 => absurd hc2 (by decide))
  refine lv_goto (tgt := 563) hx hb dL_law_560 (by decide) ?_
  exact kk 1 th tm pr ag ck nx ou H _ ls hI hP hD hS (lv_sub hl [2, 3, 4, 5, 6] rfl)
end LLcountB
end
section
/-! THE CLAIM OUT OF ONE WALK OF THE LAW'S BODY. Your part is whole_start (and what it stands on); all else here is the same for every law, but numbers. -/
def R_law : String := "TimerWheelsLaw"
def lw_P (b : Addr) (xs : List Int32) (args : Array Value) (s : State) : Prop := args = #[.ref b] ∧ s.IntsAt b xs ∧ xs.length ≤ 2560 ∧ (Jvm.Cond.and given_1 narrow_1).before args s = true
def lw_Q (_ : Array Value) (s : State) (o : Outcome) (t : State) : Prop := o = .returned (some (.int 1)) ∧ Framed s o t [] 1044 9060
def lw_Z (below : List Frame) (a : Array Value) (s : State) : State → Prop := fun t => ∃ o, t.status = .running ∧ Ended t below o ∧ lw_Q a s o t
/-- the law's own end, with 1 on the stack, nothing written that was there before, its room as the claim has it -/
theorem lw_ret {p : Program} {l : Launch} {e : Env} {s : State} {m : MethodId} {below : List Frame} {meth : Method} {c : Code} {b : Nat} (hx : p.tables.exec = Jvm.exec) (hb : c.code = code) (hr : meth.sig.returnType = ret) (hlocks : meth.locks = false) {pc : Nat} {H : Heap} {ls : Array Slot} (hdg : decode code pc = .ok (.ireturn, 1)) : W p l e room_1 s m #[Value.ref b] below meth c H [] 1044 9060 (lw_Z below #[Value.ref b] s) (F0 m pc ls [.int 1]) := by
  intro T hT X
  obtain ⟨fs, hret, hrun, hended, hW, hframe⟩ := X.leave (v := some (.int 1)) (hlocks := hlocks) (fun h => by rw [hr] at h; cases h)
  have hmeth' : T.vm.method? m = some meth := X.method'
  refine ⟨T.setFrames fs, ?_, .returned (some (.int 1)), hrun, hended, rfl, ⟨_, rfl⟩, hW, hframe⟩
  jvm_step X.here [X.here.top, hx, hb, hdg, hmeth', hr, ret, narrow_b1]
  (try refine ⟨rfl, ?_⟩); (try refine ⟨rfl, ?_⟩)
  first | (intro acts; rw [hret _ acts rfl rfl rfl]) | rw [hret _ _ rfl rfl rfl]
  exact Steps.refl _
/-- what holds at the law's entry: the machine, the code, the tables' words (any of lw_tbl by 'hts w (by decide +kernel)'), the script of L ints xs at the cell b, what the Statement gives of the start (any of its parts by flat_of_before) -/
def lw_At (p : Program) (s : State) (m : MethodId) (meth : Method) (c : Code) (b L : Nat) (xs : Nat → Int32) : Prop :=
  p.tables.exec = Jvm.exec ∧ c.code = code ∧ meth.sig.returnType = ret ∧ c.maxLocals = 8 ∧ s.vm.findClass R_law = some m.cls ∧ (∀ w ∈ lw_tbl, w.before #[Value.ref b] s = true) ∧ va_X b L xs s s.heap ∧ b < s.heap.size ∧ meth.locks = false ∧ (Jvm.Cond.and given_1 narrow_1).before #[Value.ref b] s = true

theorem tw_gt {i L : Nat} (hi : i ≤ 2564) (hL : L ≤ 2560) (h : L < i + 5) : nI i > Int32.ofNat L - 5 := by
  show Int32.ofNat L - 5 < nI i
  rw [Int32.lt_iff_toInt_lt, nI_toInt (by omega)]
  have e := pk_sub_toInt (a := L) (b := 5) (by omega) (by omega)
  have e : (Int32.ofNat L - 5).toInt = (L : Int) - (5 : Nat) := e
  rw [e]
  omega
theorem tw_ngt {i L : Nat} (hi : i ≤ 2564) (hL : L ≤ 2560) (h : i + 5 ≤ L) : ¬ nI i > Int32.ofNat L - 5 := by
  show ¬ Int32.ofNat L - 5 < nI i
  rw [Int32.lt_iff_toInt_lt, nI_toInt (by omega)]
  have e := pk_sub_toInt (a := L) (b := 5) (by omega) (by omega)
  have e : (Int32.ofNat L - 5).toInt = (L : Int) - (5 : Nat) := e
  rw [e]
  omega
theorem tw_k4 {k : Int32} (h1 : ¬ k < 0) (h2 : k ≤ 3) : k = 0 ∨ k = 1 ∨ k = 2 ∨ k = 3 := by
  obtain ⟨j, hj, rfl⟩ := nI_of2 (M := 3) (n := 3) (by decide) h1 h2
  rcases (show j = 0 ∨ j = 1 ∨ j = 2 ∨ j = 3 by omega) with rfl | rfl | rfl | rfl
  · exact Or.inl rfl
  · exact Or.inr (Or.inl rfl)
  · exact Or.inr (Or.inr (Or.inl rfl))
  · exact Or.inr (Or.inr (Or.inr rfl))
theorem tw_k3 {k : Int32} (h : ¬ (k.toInt < 0 ∨ 2 < k.toInt)) : k = 0 ∨ k = 1 ∨ k = 2 := by
  have h1 : ¬ k < 0 := by
    rw [Int32.lt_iff_toInt_lt]
    show ¬ k.toInt < 0
    omega
  have h2 : k ≤ 2 := by
    rw [Int32.le_iff_toInt_le]
    show k.toInt ≤ 2
    omega
  obtain ⟨j, hj, rfl⟩ := nI_of2 (M := 2) (n := 2) (by decide) h1 h2
  rcases (show j = 0 ∨ j = 1 ∨ j = 2 by omega) with rfl | rfl | rfl
  · exact Or.inl rfl
  · exact Or.inr (Or.inl rfl)
  · exact Or.inr (Or.inr rfl)
section LWX
variable {p : Program} {l : Launch} {e : Env} {s : State} {m : MethodId} {below : List Frame} {meth : Method} {c : Code} {H : Heap} {locs : List Loc} {cells slots : Nat} {Q : State → Prop} {ls : Array Slot} {b L i : Nat} {xs : Nat → Int32}
variable {dC : Nat → ClassId} {dI : Nat → Nat → Nat} {xh xa0 xa1 xa2 xa3 : Nat} {kx0 kx1 kx2 kx3 : ClassId} {mh ma0 ma1 ma2 ma3 : Nat} {km0 km1 km2 km3 : ClassId} {ao : Nat} {k4 : ClassId} {fl : Int32} {th : Nat → Int32} {tm : Nat → Int64} {pr ag : Nat → Int32} {ck : Int64} {nx : Int32} {ou : Nat → Int64}
set_option maxHeartbeats 4000000 in
set_option maxRecDepth 100000 in
theorem ll_exit (hx : p.tables.exec = Jvm.exec) (hb : c.code = bL_law) (hml : c.maxLocals = 8) (hr : meth.sig.returnType = ret) (hlocks : meth.locks = false) (hX : va_X b L xs s s.heap) (hbl : b < s.heap.size) (hL : L ≤ 2560) (hib : i ≤ 2564) (hi : L < i + 5) (hc : cells ≤ 1044 ∧ slots ≤ 9060) (hS : va_S (tw_AL s) s.heap H locs) (hl : lv_has ls 8 [(4, .int (nI i)), (0, .ref b), (1, .ref xh), (2, .ref mh), (3, .ref ao)]) : W p l e room_1 s m #[Value.ref b] below meth c H locs cells slots (lw_Z below #[Value.ref b] s) (F0 m 23 ls []) := by
  have hbA : ¬ tw_AL s b := Nat.not_le.mpr hbl
  refine lv_iload hx hb dL_law_23 (lv_at hl 0 rfl) ?_
  refine lv_aload_n hx hb dL_law_25 rfl (lv_at hl 1 rfl) ?_
  refine va_slen hx hb hX hbl hbA hS dL_law_26 ?_
  refine lv_iconst (v := 5) hx hb dL_law_27 (by decide) ?_
  refine lv_isub hx hb dL_law_28 ?_
  refine lv_icmp_gt (tgt := 569) hx hb dL_law_29 (by decide) (fun hc1 => ?_) (fun hc1 => absurd (tw_gt hib hL hi) hc1)
  refine lv_iconst (v := 1) hx hb dL_law_569 (by decide) ?_
  refine va_forget (fun q hq => hS.2.2 q hq) ?_
  refine W.widen (k := 1044) (n := 9060) hc.1 hc.2 ?_
  exact lw_ret hx hb hr hlocks dL_law_570
end LWX
section LWH
variable {p : Program} {l : Launch} {e : Env} {s : State} {m : MethodId} {below : List Frame} {meth : Method} {c : Code} {H : Heap} {locs : List Loc} {cells slots : Nat} {Q : State → Prop} {ls : Array Slot} {b L i : Nat} {xs : Nat → Int32}
variable {dC : Nat → ClassId} {dI : Nat → Nat → Nat} {xh xa0 xa1 xa2 xa3 : Nat} {kx0 kx1 kx2 kx3 : ClassId} {mh ma0 ma1 ma2 ma3 : Nat} {km0 km1 km2 km3 : ClassId} {ao : Nat} {k4 : ClassId} {fl : Int32} {th : Nat → Int32} {tm : Nat → Int64} {pr ag : Nat → Int32} {ck : Int64} {nx : Int32} {ou : Nat → Int64}
set_option maxHeartbeats 4000000 in
set_option maxRecDepth 100000 in
theorem ll_head (hx : p.tables.exec = Jvm.exec) (hb : c.code = bL_law) (hml : c.maxLocals = 8) (hX : va_X b L xs s s.heap) (hbl : b < s.heap.size) (hL : L ≤ 2560) (hi : i + 5 ≤ L) (hS : va_S (tw_AL s) s.heap H locs) (hl : lv_has ls 8 [(4, .int (nI i)), (0, .ref b), (1, .ref xh), (2, .ref mh), (3, .ref ao)]) (kk : W p l e room_1 s m #[Value.ref b] below meth c H locs cells slots (lw_Z below #[Value.ref b] s) (F0 m 39 ls [.int (xs (nI i).toNatClampNeg &&& 7)])) : W p l e room_1 s m #[Value.ref b] below meth c H locs cells slots (lw_Z below #[Value.ref b] s) (F0 m 23 ls []) := by
  have hbA : ¬ tw_AL s b := Nat.not_le.mpr hbl
  refine lv_iload hx hb dL_law_23 (lv_at hl 0 rfl) ?_
  refine lv_aload_n hx hb dL_law_25 rfl (lv_at hl 1 rfl) ?_
  refine va_slen hx hb hX hbl hbA hS dL_law_26 ?_
  refine lv_iconst (v := 5) hx hb dL_law_27 (by decide) ?_
  refine lv_isub hx hb dL_law_28 ?_
  refine lv_icmp_gt (tgt := 569) hx hb dL_law_29 (by decide) (fun hc1 => absurd hc1 (tw_ngt (by omega) hL hi)) (fun hc1 => ?_)
  refine lv_aload_n hx hb dL_law_32 rfl (lv_at hl 1 rfl) ?_
  refine lv_iload hx hb dL_law_33 (lv_at hl 0 rfl) ?_
  refine va_sld hx hb hX hbl hbA hS (vp_in_nI (by omega) (by omega)) dL_law_35 ?_
  refine lv_bipush (v := 7) hx hb dL_law_36 (by decide) ?_
  refine lv_iand hx hb dL_law_38 ?_
  exact kk
end LWH
section LWL
variable {p : Program} {l : Launch} {e : Env} {s : State} {m : MethodId} {below : List Frame} {meth : Method} {c : Code} {b L : Nat} {xs : Nat → Int32}
variable {dC : Nat → ClassId} {dI : Nat → Nat → Nat} {xh xa0 xa1 xa2 xa3 : Nat} {kx0 kx1 kx2 kx3 : ClassId} {mh ma0 ma1 ma2 ma3 : Nat} {km0 km1 km2 km3 : ClassId} {ao : Nat} {k4 : ClassId}
set_option maxHeartbeats 4000000 in
set_option maxRecDepth 100000 in
theorem lp_law (hx : p.tables.exec = Jvm.exec) (hb : c.code = bL_law) (hml : c.maxLocals = 8) (hr : meth.sig.returnType = ret) (hlocks : meth.locks = false) (hT : ∀ w ∈ tw_T, w.before #[Value.ref b] s = true) (hown : s.vm.findClass RL = some m.cls) (hfl : l.flags = pinnedFlags ++ [noTraceFlag]) (hX : va_X b L xs s s.heap) (hbl : b < s.heap.size) (hZ : tw_Z s s.heap) (hNc : va_Nc tw_nse tw_iae s) (hL : L ≤ 2560) (hK : va_K (dC, dI) tw_cl (tw_kL kx0 kx1 kx2 kx3 km0 km1 km2 km3 k4) s) : ∀ (k i : Nat), L ≤ i + 5 * k + 4 → i ≤ 2564 → ∀ (fl : Int32) (th : Nat → Int32) (tm : Nat → Int64) (pr ag : Nat → Int32) (ck : Int64) (nx : Int32) (ou : Nat → Int64) (H : Heap) (locs : List Loc) (ls : Array Slot) (cells slots : Nat), cells + k ≤ 1044 → slots + 6 * k ≤ 9060 → tw_Inv tm ck → va_P (dC, dI) tw_cl (tw_wL xh xa0 xa1 xa2 xa3 kx0 kx1 kx2 kx3 mh ma0 ma1 ma2 ma3 km0 km1 km2 km3 ao k4 fl th tm pr ag ck nx ou) H → va_D (tw_AL s) (tw_wL xh xa0 xa1 xa2 xa3 kx0 kx1 kx2 kx3 mh ma0 ma1 ma2 ma3 km0 km1 km2 km3 ao k4 fl th tm pr ag ck nx ou) → va_S (tw_AL s) s.heap H locs → lv_has ls 8 [(4, .int (nI i)), (0, .ref b), (1, .ref xh), (2, .ref mh), (3, .ref ao)] → W p l e room_1 s m #[Value.ref b] below meth c H locs cells slots (lw_Z below #[Value.ref b] s) (F0 m 23 ls []) := by
  intro k
  induction k with
  | zero =>
    intro i hi hib fl th tm pr ag ck nx ou H locs ls cells slots hc hs hI hP hD hS hl
    exact ll_exit hx hb hml hr hlocks hX hbl hL hib (by omega) ⟨by omega, by omega⟩ hS hl
  | succ k ih =>
    intro i hi0 hib fl th tm pr ag ck nx ou H locs ls cells slots hc0 hs0 hI hP hD hS hl
    by_cases hi : i + 5 ≤ L
    case neg => exact ll_exit hx hb hml hr hlocks hX hbl hL hib (by omega) ⟨by omega, by omega⟩ hS hl
    have hc : cells + 1 ≤ 1044 ∧ slots + 6 ≤ 9060 := ⟨by omega, by omega⟩
    have kk : ∀ (fl' : Int32) (th' : Nat → Int32) (tm' : Nat → Int64) (pr' ag' : Nat → Int32) (ck' : Int64) (nx' : Int32) (ou' : Nat → Int64) (H' : Heap) (locs' : List Loc) (ls' : Array Slot), tw_Inv tm' ck' → va_P (dC, dI) tw_cl (tw_wL xh xa0 xa1 xa2 xa3 kx0 kx1 kx2 kx3 mh ma0 ma1 ma2 ma3 km0 km1 km2 km3 ao k4 fl' (th') (tm') (pr') (ag') (ck') (nx') (ou')) H' → va_D (tw_AL s) (tw_wL xh xa0 xa1 xa2 xa3 kx0 kx1 kx2 kx3 mh ma0 ma1 ma2 ma3 km0 km1 km2 km3 ao k4 (fl') (th') (tm') (pr') (ag') (ck') (nx') (ou')) → va_S (tw_AL s) s.heap H' locs' → lv_has ls' 8 [(4, .int (nI i)), (0, .ref b), (1, .ref xh), (2, .ref mh), (3, .ref ao)] → W p l e room_1 s m #[Value.ref b] below meth c H' locs' (cells + 1) (slots + 6) (lw_Z below #[Value.ref b] s) (F0 m 563 ls' []) := by
      intro fl' th' tm' pr' ag' ck' nx' ou' H' locs' ls' hI' hP' hD' hS' hl'
      refine lv_iinc (k := 0) (v := nI (i + 5)) hx hb dL_law_563 hl' rfl (by rw [show Int32.ofInt 5 = nI 5 from rfl, nI_add]) (by decide) rfl (fun ls2 hl2 => ?_)
      refine lv_goto (tgt := 23) hx hb dL_law_566 (by decide) ?_
      exact ih (i + 5) (by omega) (by omega) fl' th' tm' pr' ag' ck' nx' ou' H' locs' ls2 (cells + 1) (slots + 6) (by omega) (by omega) hI' hP' hD' hS' hl2
    refine ll_head hx hb hml hX hbl hL hi hS hl ?_
    obtain ⟨v, hv, he⟩ := pk_andE (xs (nI i).toNatClampNeg) (m := 7) 3 (by decide)
    rcases (show v = 0 ∨ v = 1 ∨ v = 2 ∨ v = 3 ∨ v = 4 ∨ v = 5 ∨ v = 6 ∨ v = 7 by omega) with rfl | rfl | rfl | rfl | rfl | rfl | rfl | rfl
    · refine W.eq (g2 := F0 m 39 ls [.int (nI 0)]) (by rw [he]) ?_
      refine lv_tableIn (off := 45) (tgt := 84) hx hb dL_law_39 (by decide) (by decide) (by decide +kernel) (by decide) ?_
      by_cases hv2 : vp_in (xs (nI i + 1).toNatClampNeg) 100 ∧ 0 ≤ ((xs (nI i + 2).toNatClampNeg).toInt64 <<< ((32 : Int32).toInt64 &&& 63)) ||| ((xs (nI i + 3).toNatClampNeg).toInt64 &&& 4294967295) ∧ ((xs (nI i + 2).toNatClampNeg).toInt64 <<< ((32 : Int32).toInt64 &&& 63)) ||| ((xs (nI i + 3).toNatClampNeg).toInt64 &&& 4294967295) ≤ 70368744177664
      · exact ll_set hx hb hml hT hown hfl hX hbl hZ hNc hL hi hc hI hP hD hK hS hl rfl rfl rfl rfl hv2.1 hv2.2.1 hv2.2.2 kk
      · exact ll_setB hx hb hml hT hown hfl hX hbl hZ hNc hL hi hc hI hP hD hK hS hl rfl rfl rfl rfl hv2 kk
    · refine W.eq (g2 := F0 m 39 ls [.int (nI 1)]) (by rw [he]) ?_
      refine lv_tableIn (off := 157) (tgt := 196) hx hb dL_law_39 (by decide) (by decide) (by decide +kernel) (by decide) ?_
      by_cases hj : vp_in (xs (nI i + 1).toNatClampNeg) 100
      · by_cases ht : th (xs (nI i + 1).toNatClampNeg).toNatClampNeg = 0
        · exact ll_dropN hx hb hml hT hown hfl hX hbl hZ hNc hL hi hc hI hP hD hK hS hl rfl hj ht kk
        · exact ll_drop hx hb hml hT hown hfl hX hbl hZ hNc hL hi hc hI hP hD hK hS hl rfl hj ht kk
      · exact ll_dropA hx hb hml hT hown hfl hX hbl hZ hNc hL hi hc hI hP hD hK hS hl rfl hj kk
    · refine W.eq (g2 := F0 m 39 ls [.int (nI 2)]) (by rw [he]) ?_
      refine lv_tableIn (off := 212) (tgt := 251) hx hb dL_law_39 (by decide) (by decide) (by decide +kernel) (by decide) ?_
      by_cases hf : tw_first th tm pr ag ck 100 = -1
      · exact ll_takeB hx hb hml hT hown hfl hX hbl hZ hNc hL hi hc hI hP hD hK hS hl hf kk
      · exact ll_take hx hb hml hT hown hfl hX hbl hZ hNc hL hi hc hI hP hD hK hS hl hf kk
    · refine W.eq (g2 := F0 m 39 ls [.int (nI 3)]) (by rw [he]) ?_
      refine lv_tableIn (off := 256) (tgt := 295) hx hb dL_law_39 (by decide) (by decide) (by decide +kernel) (by decide) ?_
      exact ll_least hx hb hml hT hown hfl hX hbl hZ hNc hL hi hc hI hP hD hK hS hl kk
    · refine W.eq (g2 := F0 m 39 ls [.int (nI 4)]) (by rw [he]) ?_
      refine lv_tableIn (off := 270) (tgt := 309) hx hb dL_law_39 (by decide) (by decide) (by decide +kernel) (by decide) ?_
      by_cases hv2 : 0 ≤ ((xs (nI i + 1).toNatClampNeg).toInt64 <<< ((32 : Int32).toInt64 &&& 63)) ||| ((xs (nI i + 2).toNatClampNeg).toInt64 &&& 4294967295) ∧ ((xs (nI i + 1).toNatClampNeg).toInt64 <<< ((32 : Int32).toInt64 &&& 63)) ||| ((xs (nI i + 2).toNatClampNeg).toInt64 &&& 4294967295) ≤ 17592186044416 ∧ ck + (((xs (nI i + 1).toNatClampNeg).toInt64 <<< ((32 : Int32).toInt64 &&& 63)) ||| ((xs (nI i + 2).toNatClampNeg).toInt64 &&& 4294967295)) ≤ 70368744177664
      · exact ll_go hx hb hml hT hown hfl hX hbl hZ hNc hL hi hc hI hP hD hK hS hl rfl rfl hv2.1 hv2.2.1 hv2.2.2 kk
      · exact ll_goB hx hb hml hT hown hfl hX hbl hZ hNc hL hi hc hI hP hD hK hS hl rfl rfl hv2 kk
    · refine W.eq (g2 := F0 m 39 ls [.int (nI 5)]) (by rw [he]) ?_
      refine lv_tableIn (off := 358) (tgt := 397) hx hb dL_law_39 (by decide) (by decide) (by decide +kernel) (by decide) ?_
      by_cases hf : tw_least th tm ck 100 = -1
      · exact ll_skipB hx hb hml hT hown hfl hX hbl hZ hNc hL hi hc hI hP hD hK hS hl hf kk
      · exact ll_skip hx hb hml hT hown hfl hX hbl hZ hNc hL hi hc hI hP hD hK hS hl hf kk
    · refine W.eq (g2 := F0 m 39 ls [.int (nI 6)]) (by rw [he]) ?_
      refine lv_tableIn (off := 402) (tgt := 441) hx hb dL_law_39 (by decide) (by decide) (by decide +kernel) (by decide) ?_
      by_cases hv2 : vp_in (xs (nI i + 1).toNatClampNeg) 100 ∧ ¬ xs (nI i + 2).toNatClampNeg < 0 ∧ xs (nI i + 2).toNatClampNeg ≤ 3
      · rcases tw_k4 hv2.2.1 hv2.2.2 with h | h | h | h
        · exact ll_timer0 hx hb hml hT hown hfl hX hbl hZ hNc hL hi hc hI hP hD hK hS hl rfl h hv2.1 kk
        · exact ll_timer1 hx hb hml hT hown hfl hX hbl hZ hNc hL hi hc hI hP hD hK hS hl rfl h hv2.1 kk
        · exact ll_timer2 hx hb hml hT hown hfl hX hbl hZ hNc hL hi hc hI hP hD hK hS hl rfl h hv2.1 kk
        · exact ll_timer3 hx hb hml hT hown hfl hX hbl hZ hNc hL hi hc hI hP hD hK hS hl rfl h hv2.1 kk
      · exact ll_timerB hx hb hml hT hown hfl hX hbl hZ hNc hL hi hc hI hP hD hK hS hl rfl rfl hv2 kk
    · refine W.eq (g2 := F0 m 39 ls [.int (nI 7)]) (by rw [he]) ?_
      refine lv_tableIn (off := 469) (tgt := 508) hx hb dL_law_39 (by decide) (by decide) (by decide +kernel) (by decide) ?_
      by_cases hv2 : (xs (nI i + 1).toNatClampNeg).toInt < 0 ∨ 2 < (xs (nI i + 1).toNatClampNeg).toInt
      · exact ll_countB hx hb hml hT hown hfl hX hbl hZ hNc hL hi hc hI hP hD hK hS hl rfl hv2 kk
      · rcases tw_k3 hv2 with h | h | h
        · exact ll_count0 hx hb hml hT hown hfl hX hbl hZ hNc hL hi hc hI hP hD hK hS hl h kk
        · exact ll_count1 hx hb hml hT hown hfl hX hbl hZ hNc hL hi hc hI hP hD hK hS hl h kk
        · exact ll_count2 hx hb hml hT hown hfl hX hbl hZ hNc hL hi hc hI hP hD hK hS hl h kk
end LWL
theorem tw_z1 : ∀ q ∈ tw_strs, Cond.stringRef RX q.1 q.2 ∈ lw_tbl := by decide +kernel
theorem tw_z2 : ∀ q ∈ tw_strs, Cond.exactly (.string RX q.1) "java/lang/String" ∈ flatC (Jvm.Cond.and given_1 narrow_1) := by decide +kernel
theorem tw_z3 : ∀ x ∈ tw_dec, Cond.declares x ∈ lw_tbl := by decide +kernel
theorem tw_z4 : Cond.castable tw_iae tw_iae ∈ lw_tbl ∧ Cond.castable tw_nse tw_nse ∈ lw_tbl ∧ Cond.laysStatic Bundle.tN "UNASSIGNED_STACK" Bundle.steD ∈ lw_tbl ∧ Cond.laysStatic Bundle.tN "SUPPRESSED_SENTINEL" Bundle.listD ∈ lw_tbl := by decide +kernel
theorem tw_z5 : Cond.isRef (.static Bundle.tN "UNASSIGNED_STACK" Bundle.steD) ∈ flatC (Jvm.Cond.and given_1 narrow_1) ∧ Cond.isRef (.static Bundle.tN "SUPPRESSED_SENTINEL" Bundle.listD) ∈ flatC (Jvm.Cond.and given_1 narrow_1) ∧ Cond.not (.castable tw_nse tw_iae) ∈ flatC (Jvm.Cond.and given_1 narrow_1) := by decide +kernel
theorem tw_Z0 {args : Array Value} {s : State} (hts : ∀ w ∈ lw_tbl, w.before args s = true) (hg : (Jvm.Cond.and given_1 narrow_1).before args s = true) : tw_Z s s.heap ∧ va_Nc tw_nse tw_iae s := by
  have hf := flat_of_before _ hg
  obtain ⟨a1, a2, a3, a4⟩ := tw_z4
  obtain ⟨b1, b2, b3⟩ := tw_z5
  refine ⟨⟨fun q hq => ?_, fun x hx => va_Nw.of rfl (hts _ (tw_z3 x hx)), va_Nw.of rfl (hts _ a1), va_Nw.of rfl (hts _ a2), xt_st.of (hts _ a3) (hf _ b1), xt_st.of (hts _ a4) (hf _ b2)⟩, va_Nc.of (hf _ b3)⟩
  obtain ⟨a, c, cell, k, h1, -⟩ := Cond.exactly_spec (hf _ (tw_z2 q hq))
  exact ⟨a, vk_R.of (hts _ (tw_z1 q hq)) h1⟩
end
section
set_option maxHeartbeats 4000000 in
set_option maxRecDepth 100000 in
theorem whole_start {p : Program} {e : Env} {s : State} {m : MethodId} {below : List Frame} {meth : Method} {c : Code} (l : Launch) (hfl : l.flags = pinnedFlags ++ [noTraceFlag]) {b L : Nat} {xs : Nat → Int32} (hL : L ≤ 2560) (C0 : lw_At p s m meth c b L xs) : W p l e room_1 s m #[Value.ref b] below meth c s.heap [] 0 0 (lw_Z below #[Value.ref b] s) (entryFrame m ([Value.ref b] : List Value).toArray 8) := by
  obtain ⟨hx, hb, hr, hml, hown, hts, hX, hbl, hlocks, hgv⟩ := C0
  obtain ⟨hZ, hNc⟩ := tw_Z0 hts hgv
  have hT : ∀ w ∈ tw_T, w.before #[Value.ref b] s = true := fun w h => hts w (List.mem_filter.mp h).1
  have hbA : ¬ tw_AL s b := Nat.not_le.mpr hbl
  have hA : ∀ q : Nat, s.heap.size ≤ q → tw_AL s q := fun q h => h
  obtain ⟨cX, iX, hKX⟩ := u_known (C := RX) (T := FX) (N := 6) (n := 6) hT in_X (hT _ tt_9)
  obtain ⟨cM, iM, hKM⟩ := u_known (C := RM) (T := FM) (N := 7) (n := 7) hT in_M (hT _ tt_212)
  obtain ⟨dC, dI, hK⟩ : ∃ (dC : Nat → ClassId) (dI : Nat → Nat → Nat), va_K (dC, dI) tw_cl [] s :=
    ⟨fun c => match c with | 0 => cX | _ => cM, fun c => match c with | 0 => iX | _ => iM, fun c q hq => by
      match c, hq with
      | 0, hq => cases hq; exact hKX
      | 1, hq => cases hq; exact hKM
      | n + 2, hq => simp at hq, fun k q hk => by simp at hk⟩
  have hP : va_P (dC, dI) tw_cl [] s.heap := fun k q hk => by simp at hk
  have hD : va_D (tw_AL s) [] := ⟨fun i j p q hi _ _ => by simp at hi, fun k q hk => by simp at hk⟩
  have hS : va_S (tw_AL s) s.heap s.heap [] := va_S.rf
  have hl := lv_entry ([.ref b]) (n := 8) (Nat.le_of_ble_eq_true rfl)
  rw [lg_entry_eq]
  generalize (lg_sl ([.ref b]) ++ List.replicate (8 - (lg_sl ([.ref b])).length) Slot.unset).toArray = ls at hl ⊢
  have hl : lv_has ls 8 [(0, .ref b)] := hl
  refine va_new (ci := 0) (fs := [.null, .null, .null, .null, .long 0, .int 0]) (C := RX) (T := FX) (N := 6) hx hb hT in_X TX tX_ok hown (hT _ tt_8) (hT _ tt_9) (hT _ tt_1) hK hP hD hS hA rfl (fun j hj => by rcases (show j = 0 ∨ j = 1 ∨ j = 2 ∨ j = 3 ∨ j = 4 ∨ j = 5 by omega) with rfl | rfl | rfl | rfl | rfl | rfl <;> rfl) (Nat.le_of_ble_eq_true rfl) (Nat.le_of_ble_eq_true rfl) dL_law_0 (fun xh H hP hD hS => ?_)
  have hP : va_P (dC, dI) tw_cl [(xh, .inr (0, [.null, .null, .null, .null, .long 0, .int 0]))] H := hP
  have hD : va_D (tw_AL s) [(xh, .inr (0, [.null, .null, .null, .null, .long 0, .int 0]))] := hD
  refine lv_dup hx hb dL_law_3 rfl ?_
  have hPc := hP.sub (ws' := [(xh, .inr (0, [.null, .null, .null, .null, .long 0, .int 0]))]) [0] rfl
  have hDc := hD.sub (ws' := [(xh, .inr (0, [.null, .null, .null, .null, .long 0, .int 0]))]) [0] (by decide) rfl
  have hKc := hK.sub (tys' := []) [] rfl
  have hFc := va_free (wc := [(xh, .inr (0, [.null, .null, .null, .null, .long 0, .int 0]))]) hD hS hA [0] rfl
  refine va_callv (va_runI (As := []) (rest := [.ref xh]) ⟨hx, hb, hml, hown, hT⟩ (cX_init l dC dI xh H.size) (cwI 0 hT (tw_gI tt_12) rfl rfl rfl (hT _ tt_1) (hT _ tt_10) (hT _ tt_11) rfl (by decide +kernel) ⟨Nat.le_of_ble_eq_true rfl, Nat.le_of_ble_eq_true rfl⟩) ⟨fun a U g mk q => by obtain ⟨q0, q1, qP, qK, qD⟩ := q; exact ⟨q0, q1, qP, va_K.moved (u := U) (U := U.calling g mk a) (Vm.Alike.refl U.vm) qK, qD⟩, fun U hU hW => ⟨rfl, by rw [hU], by rw [hU]; exact hPc, va_K.moved hW.alike hKc, hDc.weaken (fun _ _ _ _ => trivial)⟩⟩ rfl rfl hl.1 rfl (lv_room (Nat.le_of_ble_eq_true rfl)) dL_law_4 ⟨Nat.le_of_ble_eq_true rfl, Nat.le_of_ble_eq_true rfl⟩) hS (fun q _ h => hFc q h) hFc (fun u9 t9 H1 locs ht9 hvm9 hw9 hB9 hz9 hk9 hS => ?_)
  obtain ⟨xa0, xa1, xa2, xa3, kx0, kx1, kx2, kx3, hP1, hK1, hD1⟩ := hB9
  rw [ht9] at hP1
  have hK1 := va_K.moved hvm9.symm hK1
  obtain ⟨hP, hD⟩ := va_join (wr := []) (w1 := (tw_wX xh xa0 xa1 xa2 xa3 kx0 kx1 kx2 kx3 (fun _ => 0) (fun _ => 0) (fun _ => 0) (fun _ => 0) 0 0)) hP hD [0] [] rfl rfl (by decide) (by decide) hk9 hFc hP1 hD1
  have hK := hK.app hK1
  generalize H1 = H at hP hS ⊢
  have hP : va_P (dC, dI) tw_cl [(xh, .inr (0, [.ref xa0, .ref xa1, .ref xa2, .ref xa3, .long 0, .int 0])), (xa0, .inl (kx0, 100, .inl (fun _ => 0))), (xa1, .inl (kx1, 100, .inr (.inl (fun _ => 0)))), (xa2, .inl (kx2, 100, .inl (fun _ => 0))), (xa3, .inl (kx3, 100, .inl (fun _ => 0)))] H := hP
  have hD : va_D (tw_AL s) [(xh, .inr (0, [.ref xa0, .ref xa1, .ref xa2, .ref xa3, .long 0, .int 0])), (xa0, .inl (kx0, 100, .inl (fun _ => 0))), (xa1, .inl (kx1, 100, .inr (.inl (fun _ => 0)))), (xa2, .inl (kx2, 100, .inl (fun _ => 0))), (xa3, .inl (kx3, 100, .inl (fun _ => 0)))] := hD
  have hK : va_K (dC, dI) tw_cl [(kx0, .boolean), (kx1, .long), (kx2, .int), (kx3, .int)] s := hK
  refine lv_astore_n hx hb dL_law_7 rfl hl (by decide) rfl (fun ls hl => ?_)
  have hl : lv_has ls 8 [(1, .ref xh), (0, .ref b)] := hl
  refine va_new (ci := 1) (fs := [.int 0, .null, .null, .null, .null, .int 0, .long 0]) (C := RM) (T := FM) (N := 7) hx hb hT in_M TM tM_ok hown (hT _ tt_211) (hT _ tt_212) (hT _ tt_2) hK hP hD hS hA rfl (fun j hj => by rcases (show j = 0 ∨ j = 1 ∨ j = 2 ∨ j = 3 ∨ j = 4 ∨ j = 5 ∨ j = 6 by omega) with rfl | rfl | rfl | rfl | rfl | rfl | rfl <;> rfl) (Nat.le_of_ble_eq_true rfl) (Nat.le_of_ble_eq_true rfl) dL_law_8 (fun mh H hP hD hS => ?_)
  have hP : va_P (dC, dI) tw_cl [(xh, .inr (0, [.ref xa0, .ref xa1, .ref xa2, .ref xa3, .long 0, .int 0])), (xa0, .inl (kx0, 100, .inl (fun _ => 0))), (xa1, .inl (kx1, 100, .inr (.inl (fun _ => 0)))), (xa2, .inl (kx2, 100, .inl (fun _ => 0))), (xa3, .inl (kx3, 100, .inl (fun _ => 0))), (mh, .inr (1, [.int 0, .null, .null, .null, .null, .int 0, .long 0]))] H := hP
  have hD : va_D (tw_AL s) [(xh, .inr (0, [.ref xa0, .ref xa1, .ref xa2, .ref xa3, .long 0, .int 0])), (xa0, .inl (kx0, 100, .inl (fun _ => 0))), (xa1, .inl (kx1, 100, .inr (.inl (fun _ => 0)))), (xa2, .inl (kx2, 100, .inl (fun _ => 0))), (xa3, .inl (kx3, 100, .inl (fun _ => 0))), (mh, .inr (1, [.int 0, .null, .null, .null, .null, .int 0, .long 0]))] := hD
  refine lv_dup hx hb dL_law_11 rfl ?_
  have hPc := hP.sub (ws' := [(mh, .inr (1, [.int 0, .null, .null, .null, .null, .int 0, .long 0]))]) [5] rfl
  have hDc := hD.sub (ws' := [(mh, .inr (1, [.int 0, .null, .null, .null, .null, .int 0, .long 0]))]) [5] (by decide) rfl
  have hKc := hK.sub (tys' := []) [] rfl
  have hFc := va_free (wc := [(mh, .inr (1, [.int 0, .null, .null, .null, .null, .int 0, .long 0]))]) hD hS hA [5] rfl
  refine va_callv (va_runI (As := []) (rest := [.ref mh]) ⟨hx, hb, hml, hown, hT⟩ (cM_init l dC dI mh H.size) (cwI 0 hT (tw_gI tt_215) rfl rfl rfl (hT _ tt_2) (hT _ tt_213) (hT _ tt_214) rfl (by decide +kernel) ⟨Nat.le_of_ble_eq_true rfl, Nat.le_of_ble_eq_true rfl⟩) ⟨fun a U g mk q => by obtain ⟨q0, q1, qP, qK, qD⟩ := q; exact ⟨q0, q1, qP, va_K.moved (u := U) (U := U.calling g mk a) (Vm.Alike.refl U.vm) qK, qD⟩, fun U hU hW => ⟨rfl, by rw [hU], by rw [hU]; exact hPc, va_K.moved hW.alike hKc, hDc.weaken (fun _ _ _ _ => trivial)⟩⟩ rfl rfl hl.1 rfl (lv_room (Nat.le_of_ble_eq_true rfl)) dL_law_12 ⟨Nat.le_of_ble_eq_true rfl, Nat.le_of_ble_eq_true rfl⟩) hS (fun q _ h => hFc q h) hFc (fun u9 t9 H1 locs ht9 hvm9 hw9 hB9 hz9 hk9 hS => ?_)
  obtain ⟨ma0, ma1, ma2, ma3, km0, km1, km2, km3, hP1, hK1, hD1⟩ := hB9
  rw [ht9] at hP1
  have hK1 := va_K.moved hvm9.symm hK1
  obtain ⟨hP, hD⟩ := va_join (wr := [(xh, .inr (0, [.ref xa0, .ref xa1, .ref xa2, .ref xa3, .long 0, .int 0])), (xa0, .inl (kx0, 100, .inl (fun _ => 0))), (xa1, .inl (kx1, 100, .inr (.inl (fun _ => 0)))), (xa2, .inl (kx2, 100, .inl (fun _ => 0))), (xa3, .inl (kx3, 100, .inl (fun _ => 0)))]) (w1 := (tw_wM mh ma0 ma1 ma2 ma3 km0 km1 km2 km3 0 (fun _ => 0) (fun _ => 0) (fun _ => 0) (fun _ => 0) 0 0)) hP hD [5] [0, 1, 2, 3, 4] rfl rfl (by decide) (by decide) hk9 hFc hP1 hD1
  have hK := hK.app hK1
  generalize H1 = H at hP hS ⊢
  have hP : va_P (dC, dI) tw_cl [(xh, .inr (0, [.ref xa0, .ref xa1, .ref xa2, .ref xa3, .long 0, .int 0])), (xa0, .inl (kx0, 100, .inl (fun _ => 0))), (xa1, .inl (kx1, 100, .inr (.inl (fun _ => 0)))), (xa2, .inl (kx2, 100, .inl (fun _ => 0))), (xa3, .inl (kx3, 100, .inl (fun _ => 0))), (mh, .inr (1, [.int 0, .ref ma0, .ref ma1, .ref ma2, .ref ma3, .int 0, .long 0])), (ma0, .inl (km0, 100, .inl (fun _ => 0))), (ma1, .inl (km1, 100, .inr (.inl (fun _ => 0)))), (ma2, .inl (km2, 100, .inl (fun _ => 0))), (ma3, .inl (km3, 100, .inl (fun _ => 0)))] H := hP
  have hD : va_D (tw_AL s) [(xh, .inr (0, [.ref xa0, .ref xa1, .ref xa2, .ref xa3, .long 0, .int 0])), (xa0, .inl (kx0, 100, .inl (fun _ => 0))), (xa1, .inl (kx1, 100, .inr (.inl (fun _ => 0)))), (xa2, .inl (kx2, 100, .inl (fun _ => 0))), (xa3, .inl (kx3, 100, .inl (fun _ => 0))), (mh, .inr (1, [.int 0, .ref ma0, .ref ma1, .ref ma2, .ref ma3, .int 0, .long 0])), (ma0, .inl (km0, 100, .inl (fun _ => 0))), (ma1, .inl (km1, 100, .inr (.inl (fun _ => 0)))), (ma2, .inl (km2, 100, .inl (fun _ => 0))), (ma3, .inl (km3, 100, .inl (fun _ => 0)))] := hD
  have hK : va_K (dC, dI) tw_cl [(kx0, .boolean), (kx1, .long), (kx2, .int), (kx3, .int), (km0, .boolean), (km1, .long), (km2, .int), (km3, .int)] s := hK
  refine lv_astore_n hx hb dL_law_15 rfl hl (by decide) rfl (fun ls hl => ?_)
  have hl : lv_has ls 8 [(2, .ref mh), (1, .ref xh), (0, .ref b)] := hl
  refine lv_iconst (v := 1) hx hb dL_law_16 (by decide) ?_
  refine va_newa (atype := .long) (ty := .long) (a0 := (1, .inr (.inl (fun _ => 0)))) (N' := 1) hx hb (hT _ tt_36) rfl hK hP hD hS hA (fun _ => rfl) (by decide) (by decide) (by decide) (Nat.le_of_ble_eq_true rfl) (Nat.le_of_ble_eq_true rfl) dL_law_17 (fun ao k4 H hK hP hD hS => ?_)
  have hP : va_P (dC, dI) tw_cl [(xh, .inr (0, [.ref xa0, .ref xa1, .ref xa2, .ref xa3, .long 0, .int 0])), (xa0, .inl (kx0, 100, .inl (fun _ => 0))), (xa1, .inl (kx1, 100, .inr (.inl (fun _ => 0)))), (xa2, .inl (kx2, 100, .inl (fun _ => 0))), (xa3, .inl (kx3, 100, .inl (fun _ => 0))), (mh, .inr (1, [.int 0, .ref ma0, .ref ma1, .ref ma2, .ref ma3, .int 0, .long 0])), (ma0, .inl (km0, 100, .inl (fun _ => 0))), (ma1, .inl (km1, 100, .inr (.inl (fun _ => 0)))), (ma2, .inl (km2, 100, .inl (fun _ => 0))), (ma3, .inl (km3, 100, .inl (fun _ => 0))), (ao, .inl (k4, 1, .inr (.inl (fun _ => 0))))] H := hP
  have hD : va_D (tw_AL s) [(xh, .inr (0, [.ref xa0, .ref xa1, .ref xa2, .ref xa3, .long 0, .int 0])), (xa0, .inl (kx0, 100, .inl (fun _ => 0))), (xa1, .inl (kx1, 100, .inr (.inl (fun _ => 0)))), (xa2, .inl (kx2, 100, .inl (fun _ => 0))), (xa3, .inl (kx3, 100, .inl (fun _ => 0))), (mh, .inr (1, [.int 0, .ref ma0, .ref ma1, .ref ma2, .ref ma3, .int 0, .long 0])), (ma0, .inl (km0, 100, .inl (fun _ => 0))), (ma1, .inl (km1, 100, .inr (.inl (fun _ => 0)))), (ma2, .inl (km2, 100, .inl (fun _ => 0))), (ma3, .inl (km3, 100, .inl (fun _ => 0))), (ao, .inl (k4, 1, .inr (.inl (fun _ => 0))))] := hD
  have hK : va_K (dC, dI) tw_cl (tw_kL kx0 kx1 kx2 kx3 km0 km1 km2 km3 k4) s := hK
  refine lv_astore_n hx hb dL_law_19 rfl hl (by decide) rfl (fun ls hl => ?_)
  have hl : lv_has ls 8 [(3, .ref ao), (2, .ref mh), (1, .ref xh), (0, .ref b)] := hl
  refine lv_iconst (v := 0) hx hb dL_law_20 (by decide) ?_
  refine lv_istore hx hb dL_law_21 hl (by decide) rfl (fun ls hl => ?_)
  have hl : lv_has ls 8 [(4, .int 0), (3, .ref ao), (2, .ref mh), (1, .ref xh), (0, .ref b)] := hl
  refine W.widen (k := 11) (n := 814) (Nat.le_of_ble_eq_true rfl) (Nat.le_of_ble_eq_true rfl) ?_
  exact lp_law hx hb hml hr hlocks hT hown hfl hX hbl hZ hNc hL hK 512 0 (by omega) (by omega) 0 (fun _ => 0) (fun _ => 0) (fun _ => 0) (fun _ => 0) 0 0 (fun _ => 0) H _ ls 11 814 (by decide) (by decide) ⟨fun _ => ⟨show (0 : Int64) ≤ 0 by decide, show (0 : Int64) ≤ 70368744177664 by decide⟩, by decide, by decide⟩ hP hD hS (lv_sub hl [0, 4, 3, 2, 1] rfl)
set_option maxHeartbeats 4000000 in
theorem lw_walk (l : Launch) (hfl : l.flags = pinnedFlags ++ [noTraceFlag]) (b : Addr) (xs : List Int32) : MetFree l x (headSpec (Jvm.Cond.code x code maxLocals ret :: tables_1) room_1) (lw_P b xs) (fun _ _ _ _ _ => True) lw_Q := by
  refine MetFree.of_bodyS (code := code) (maxLocals := maxLocals) (ret := ret) (by decide) ?_ ?_
  · intro args s m h hn
    obtain ⟨meth, c, h1, h2, h3, h4, h5, h6, -, -⟩ := Cond.code_spec hn (atoms_spec (ws := Jvm.Cond.code x code maxLocals ret :: tables_1) h _ List.mem_cons_self)
    exact ⟨meth, c, h1, h2, h3, h4, h5, h6⟩
  · intro p e s m args below meth c s₁ B hml0 hP _
    obtain ⟨rfl, hx, hbd, hgv⟩ := hP
    obtain ⟨scr, harrAt, hlist, hof, hsmall⟩ := hx
    obtain ⟨hcb, hkn, -, -⟩ := State.arrayAt?_spec harrAt
    have hown : s.vm.findClass R_law = some m.cls := findClass_of_methodNamed B.named
    have hts0 : ∀ c ∈ (Jvm.Cond.code x code maxLocals ret :: tables_1), c.before #[Value.ref b] s = true := atoms_spec (ws := Jvm.Cond.code x code maxLocals ret :: tables_1) B.pre
    have hts : ∀ w ∈ lw_tbl, w.before #[Value.ref b] s = true := k2_hts_sels lw_privs (fun w hw => hts0 w (List.mem_cons_of_mem _ hw)) lw_privs_ok
    have hml : c.maxLocals = 8 := B.maxLocals_eq (hts0 _ List.mem_cons_self)
    have X₀ : Stand p l e room_1 s m #[Value.ref b] below meth c s₁ [] 0 0 := Stand.of_body B
    have hh0 : s₁.heap = s.heap := by rw [B.state]; rfl
    have hsz : scr.slots.size = xs.length := by rw [← Array.length_toList, hlist, List.length_map]
    have hval : ∀ j : Nat, j < xs.length → scr.slots[j]? = some (.int (xs.getD j 0)) := fun j hj => by
      rw [← Array.getElem?_toList, hlist]
      simp [hj]
    have hbl : b < s.heap.size := (Array.getElem?_eq_some_iff.mp hcb).1
    have hX : va_X b xs.length (fun j => xs.getD j 0) s s.heap := ⟨scr, hcb, hof, hkn, hsz, hval⟩
    have K : W p l e room_1 s m #[Value.ref b] below meth c s₁.heap [] 0 0 (lw_Z below #[Value.ref b] s) (entryFrame m ([Value.ref b] : List Value).toArray 8) := by
      rw [hh0]
      exact whole_start l hfl hbd ⟨B.exec, B.bytes, B.returns, hml, hown, hts, hX, hbl, B.notSynchronized, hgv⟩
    obtain ⟨t, a1, o, b1, b2, b3⟩ := K s₁ rfl X₀
    exact ⟨t, o, a1, b1, b2, b3⟩
theorem lw_pre_spec {args : Array Value} {s : State} (h : (Jvm.Cond.and given_1 narrow_1).before args s = true) (hr : rest_1_c.before args s = true) : ∃ (b : Addr) (xs : List Int32), lw_P b xs args s := by
  have hs := flat_of_before _ h
  have hq := flat_of_before _ hr
  have hc : (Cond.count 1).before args s = true := hs _ (by decide +kernel)
  have harr : (Cond.arrayOf (.arg 0) .int).before args s = true := hs _ (by decide +kernel)
  have hle : (Cond.le (.length (.arg 0)) (.int 2560)).before args s = true := hs _ (by decide +kernel)
  have hlen : (Cond.isInt (.length (.arg 0))).before args s = true := hq _ (by decide +kernel)
  have hall : (Cond.all (.arg 0) (.isInt (.elem (.arg 0) (.index 0)))).before args s = true := hq _ (by decide +kernel)
  obtain ⟨b, xs, hb, hx⟩ := State.ints_of_pre rfl harr hlen hall
  have hsm : xs.length < 2 ^ 31 := hx.choose_spec.2.2.2
  have hev : (Term.length (.arg 0)).eval args s none [] s = some (.int xs.length.toInt32) := hx.length_eval hb
  have hv := Cond.le_ints hev (show (Term.int 2560).eval args s none [] s = some (.int 2560) from rfl)
  have hd : xs.length.toInt32 ≤ 2560 := by
    simpa [Cond.before, Cond.holds, hv] using hle
  have hN : xs.length ≤ 2560 := (Int32.ofNat_le_ofNat hsm (by decide)).mp (show Int32.ofNat xs.length ≤ Int32.ofNat 2560 from hd)
  exact ⟨b, xs, Cond.one_arg hc (show args[0]? = some (.ref b) from hb), hx, hN, h⟩
theorem lw_comes (l : Launch) (hfl : l.flags = pinnedFlags ++ [noTraceFlag]) : Comes l x (Jvm.Cond.code x code maxLocals ret :: tables_1) room_1 (fun tb e args s => Calls_1 tb e args s ∧ rest_1 tb e args s ∧ Pre_1 tb e args s)
    (fun _ _ args s o t => lw_Q args s o t) := by
  intro p e ha hc hk s m args below hf hfit hheap happ hpre
  obtain ⟨b, xs, hP⟩ := lw_pre_spec hpre.2.2 hpre.2.1
  obtain ⟨k, o, h1, h2, h3, hQ⟩ := lw_walk l hfl b xs p e ha hc hk s m args below hf ((Spec.applies_iff_loose hf).mp happ).1 hP trivial
  exact ⟨k, o, h1, h2, h3, hQ⟩
theorem lw_frame {s t : State} {o : Outcome} {args : Array Value} (h : Framed s o t [] 1044 9060) :
    Framed s o t (fieldLocs frame_1_writes args s ++ arrayLocs frame_1_arrays args s ++ staticLocs frame_1_statics s) 1044 9060 := h
theorem lw_limb (L : Cond) (hL : ∀ (args : Array Value) (s t : State), L.after args s (.returned (some (.int 1))) t = true) :
    ArmFor flags0 classFile x code maxLocals ret World_1 tables_1 room_1 Calls_1 rest_1 Pre_1
      (fun tb e a s o t => postC L tb e a s o t ∧ Framed s o t (fieldLocs frame_1_writes a s ++ arrayLocs frame_1_arrays a s ++ staticLocs frame_1_statics s) 1044 9060) := by
  intro l hfl _ _ p e ha hc hk s m args below hf hfit hheap happ hpre
  obtain ⟨k, o, h1, h2, h3, rfl, hF⟩ := lw_comes l hfl p e ha hc hk s m args below hf hfit hheap happ hpre
  exact ⟨k, _, h1, h2, h3, hL args s _, lw_frame hF⟩
theorem i_vc : Claimed_1_1 ∧ Claimed_1_2 := ⟨lw_limb limb_1_1 (fun args s t => by simp [limb_1_1, Cond.after, Cond.holds, Cond.value]), lw_limb limb_1_2 (fun args s t => Cond.after_iff.mpr (by
  first | (rw [show limb_1_2 = Cond.eq .result (.int 1) from rfl, Cond.eq_ints (x := 1) (y := 1) rfl rfl]; simp; done) | (simp [limb_1_2, Cond.value, Term.eval]; done)))⟩
end
